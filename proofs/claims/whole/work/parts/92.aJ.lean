theorem dJ0_length_8abf5_0 : decode cJ0_length_8abf5 0 = .ok (.aload_n 0, 1) := by decide +kernel
theorem dJ0_length_8abf5_1 : decode cJ0_length_8abf5 1 = .ok (.getfield 9, 3) := by decide +kernel
theorem dJ0_length_8abf5_4 : decode cJ0_length_8abf5 4 = .ok (.arraylength, 1) := by decide +kernel
theorem dJ0_length_8abf5_5 : decode cJ0_length_8abf5 5 = .ok (.aload_n 0, 1) := by decide +kernel
theorem dJ0_length_8abf5_6 : decode cJ0_length_8abf5 6 = .ok (.invokevirtual 335, 3) := by decide +kernel
theorem dJ0_length_8abf5_9 : decode cJ0_length_8abf5 9 = .ok (.ishr, 1) := by decide +kernel
theorem dJ0_length_8abf5_10 : decode cJ0_length_8abf5 10 = .ok (.ireturn, 1) := by decide +kernel
def mJ0_length_8abf5 : MD := (yJ0_length_8abf5, cJ0_length_8abf5, 1, (some .int), 0, fun _ => 0)
theorem ok_J0_length_8abf5 : MOK mJ0_length_8abf5 0 := ⟨by decide +kernel, rfl, by decide +kernel, ⟨by decide +kernel, by decide +kernel, by decide +kernel⟩, tw (i := 811) (by decide +kernel) (by decide +kernel), tw (i := 15) (by decide +kernel) (by decide +kernel)⟩
theorem im_J0_length_8abf5 : Cond.instanceMethod yJ0_length_8abf5 ∈ gw := tw (i := 809) (by decide +kernel) (by decide +kernel)
theorem se_J0_length_8abf5 : Cond.selects (yJ0_length_8abf5).cls yJ0_length_8abf5 yJ0_length_8abf5 ∈ gw := tw (i := 810) (by decide +kernel) (by decide +kernel)
theorem dJ0_coder_7d493_0 : decode cJ0_coder_7d493 0 = .ok (.getstatic 38, 3) := by decide +kernel
theorem dJ0_coder_7d493_3 : decode cJ0_coder_7d493 3 = .ok (.ifCond .eq 10, 3) := by decide +kernel
theorem dJ0_coder_7d493_6 : decode cJ0_coder_7d493 6 = .ok (.aload_n 0, 1) := by decide +kernel
theorem dJ0_coder_7d493_7 : decode cJ0_coder_7d493 7 = .ok (.getfield 15, 3) := by decide +kernel
theorem dJ0_coder_7d493_10 : decode cJ0_coder_7d493 10 = .ok (.goto 4, 3) := by decide +kernel
theorem dJ0_coder_7d493_13 : decode cJ0_coder_7d493 13 = .ok (.iconst 1, 1) := by decide +kernel
theorem dJ0_coder_7d493_14 : decode cJ0_coder_7d493 14 = .ok (.ireturn, 1) := by decide +kernel
def mJ0_coder_7d493 : MD := (yJ0_coder_7d493, cJ0_coder_7d493, 1, (some .byte), 0, fun _ => 0)
theorem ok_J0_coder_7d493 : MOK mJ0_coder_7d493 0 := ⟨by decide +kernel, rfl, by decide +kernel, ⟨by decide +kernel, by decide +kernel, by decide +kernel⟩, tw (i := 815) (by decide +kernel) (by decide +kernel), tw (i := 15) (by decide +kernel) (by decide +kernel)⟩
theorem im_J0_coder_7d493 : Cond.instanceMethod yJ0_coder_7d493 ∈ gw := tw (i := 813) (by decide +kernel) (by decide +kernel)
theorem se_J0_coder_7d493 : Cond.selects (yJ0_coder_7d493).cls yJ0_coder_7d493 yJ0_coder_7d493 ∈ gw := tw (i := 814) (by decide +kernel) (by decide +kernel)
theorem dJ0_charAt_5068e_0 : decode cJ0_charAt_5068e 0 = .ok (.aload_n 0, 1) := by decide +kernel
theorem dJ0_charAt_5068e_1 : decode cJ0_charAt_5068e 1 = .ok (.invokevirtual 492, 3) := by decide +kernel
theorem dJ0_charAt_5068e_4 : decode cJ0_charAt_5068e 4 = .ok (.ifCond .eq 12, 3) := by decide +kernel
theorem dJ0_charAt_5068e_7 : decode cJ0_charAt_5068e 7 = .ok (.aload_n 0, 1) := by decide +kernel
theorem dJ0_charAt_5068e_8 : decode cJ0_charAt_5068e 8 = .ok (.getfield 9, 3) := by decide +kernel
theorem dJ0_charAt_5068e_11 : decode cJ0_charAt_5068e 11 = .ok (.iload_n 1, 1) := by decide +kernel
theorem dJ0_charAt_5068e_12 : decode cJ0_charAt_5068e 12 = .ok (.invokestatic 495, 3) := by decide +kernel
theorem dJ0_charAt_5068e_15 : decode cJ0_charAt_5068e 15 = .ok (.ireturn, 1) := by decide +kernel
theorem dJ0_charAt_5068e_16 : decode cJ0_charAt_5068e 16 = .ok (.aload_n 0, 1) := by decide +kernel
theorem dJ0_charAt_5068e_17 : decode cJ0_charAt_5068e 17 = .ok (.getfield 9, 3) := by decide +kernel
theorem dJ0_charAt_5068e_20 : decode cJ0_charAt_5068e 20 = .ok (.iload_n 1, 1) := by decide +kernel
theorem dJ0_charAt_5068e_21 : decode cJ0_charAt_5068e 21 = .ok (.invokestatic 498, 3) := by decide +kernel
theorem dJ0_charAt_5068e_24 : decode cJ0_charAt_5068e 24 = .ok (.ireturn, 1) := by decide +kernel
def mJ0_charAt_5068e : MD := (yJ0_charAt_5068e, cJ0_charAt_5068e, 2, (some .char), 0, fun _ => 0)
theorem ok_J0_charAt_5068e : MOK mJ0_charAt_5068e 1 := ⟨by decide +kernel, rfl, by decide +kernel, ⟨by decide +kernel, by decide +kernel, by decide +kernel⟩, tw (i := 821) (by decide +kernel) (by decide +kernel), tw (i := 15) (by decide +kernel) (by decide +kernel)⟩
theorem im_J0_charAt_5068e : Cond.instanceMethod yJ0_charAt_5068e ∈ gw := tw (i := 819) (by decide +kernel) (by decide +kernel)
theorem se_J0_charAt_5068e : Cond.selects (yJ0_charAt_5068e).cls yJ0_charAt_5068e yJ0_charAt_5068e ∈ gw := tw (i := 820) (by decide +kernel) (by decide +kernel)
theorem dJ0_isLatin1_aae02_0 : decode cJ0_isLatin1_aae02 0 = .ok (.getstatic 38, 3) := by decide +kernel
theorem dJ0_isLatin1_aae02_3 : decode cJ0_isLatin1_aae02 3 = .ok (.ifCond .eq 14, 3) := by decide +kernel
theorem dJ0_isLatin1_aae02_6 : decode cJ0_isLatin1_aae02 6 = .ok (.aload_n 0, 1) := by decide +kernel
theorem dJ0_isLatin1_aae02_7 : decode cJ0_isLatin1_aae02 7 = .ok (.getfield 15, 3) := by decide +kernel
theorem dJ0_isLatin1_aae02_10 : decode cJ0_isLatin1_aae02 10 = .ok (.ifCond .ne 7, 3) := by decide +kernel
theorem dJ0_isLatin1_aae02_13 : decode cJ0_isLatin1_aae02 13 = .ok (.iconst 1, 1) := by decide +kernel
theorem dJ0_isLatin1_aae02_14 : decode cJ0_isLatin1_aae02 14 = .ok (.goto 4, 3) := by decide +kernel
theorem dJ0_isLatin1_aae02_17 : decode cJ0_isLatin1_aae02 17 = .ok (.iconst 0, 1) := by decide +kernel
theorem dJ0_isLatin1_aae02_18 : decode cJ0_isLatin1_aae02 18 = .ok (.ireturn, 1) := by decide +kernel
def mJ0_isLatin1_aae02 : MD := (yJ0_isLatin1_aae02, cJ0_isLatin1_aae02, 1, (some .boolean), 0, fun _ => 0)
theorem ok_J0_isLatin1_aae02 : MOK mJ0_isLatin1_aae02 0 := ⟨by decide +kernel, rfl, by decide +kernel, ⟨by decide +kernel, by decide +kernel, by decide +kernel⟩, tw (i := 825) (by decide +kernel) (by decide +kernel), tw (i := 15) (by decide +kernel) (by decide +kernel)⟩
theorem im_J0_isLatin1_aae02 : Cond.instanceMethod yJ0_isLatin1_aae02 ∈ gw := tw (i := 823) (by decide +kernel) (by decide +kernel)
theorem se_J0_isLatin1_aae02 : Cond.selects (yJ0_isLatin1_aae02).cls yJ0_isLatin1_aae02 yJ0_isLatin1_aae02 ∈ gw := tw (i := 824) (by decide +kernel) (by decide +kernel)
theorem dJ0_checkIndex_df160_0 : decode cJ0_checkIndex_df160 0 = .ok (.iload_n 0, 1) := by decide +kernel
theorem dJ0_checkIndex_df160_1 : decode cJ0_checkIndex_df160 1 = .ok (.iload_n 1, 1) := by decide +kernel
theorem dJ0_checkIndex_df160_2 : decode cJ0_checkIndex_df160 2 = .ok (.getstatic 1053, 3) := by decide +kernel
theorem dJ0_checkIndex_df160_5 : decode cJ0_checkIndex_df160 5 = .ok (.invokestatic 1059, 3) := by decide +kernel
theorem dJ0_checkIndex_df160_8 : decode cJ0_checkIndex_df160 8 = .ok (.pop, 1) := by decide +kernel
theorem dJ0_checkIndex_df160_9 : decode cJ0_checkIndex_df160 9 = .ok (.return_, 1) := by decide +kernel
def mJ0_checkIndex_df160 : MD := (yJ0_checkIndex_df160, cJ0_checkIndex_df160, 2, none, 0, fun _ => 0)
theorem ok_J0_checkIndex_df160 : MOK mJ0_checkIndex_df160 2 := ⟨by decide +kernel, rfl, by decide +kernel, ⟨by decide +kernel, by decide +kernel, by decide +kernel⟩, tw (i := 831) (by decide +kernel) (by decide +kernel), tw (i := 15) (by decide +kernel) (by decide +kernel)⟩
theorem sc_J0_checkIndex_df160 : Cond.static yJ0_checkIndex_df160 ∈ gw := tw (i := 830) (by decide +kernel) (by decide +kernel)
theorem dJ1_charAt_3b067_0 : decode cJ1_charAt_3b067 0 = .ok (.iload_n 1, 1) := by decide +kernel
theorem dJ1_charAt_3b067_1 : decode cJ1_charAt_3b067 1 = .ok (.aload_n 0, 1) := by decide +kernel
theorem dJ1_charAt_3b067_2 : decode cJ1_charAt_3b067 2 = .ok (.arraylength, 1) := by decide +kernel
theorem dJ1_charAt_3b067_3 : decode cJ1_charAt_3b067 3 = .ok (.invokestatic 9, 3) := by decide +kernel
theorem dJ1_charAt_3b067_6 : decode cJ1_charAt_3b067 6 = .ok (.aload_n 0, 1) := by decide +kernel
theorem dJ1_charAt_3b067_7 : decode cJ1_charAt_3b067 7 = .ok (.iload_n 1, 1) := by decide +kernel
theorem dJ1_charAt_3b067_8 : decode cJ1_charAt_3b067 8 = .ok (.baload, 1) := by decide +kernel
theorem dJ1_charAt_3b067_9 : decode cJ1_charAt_3b067 9 = .ok (.sipush 255, 3) := by decide +kernel
theorem dJ1_charAt_3b067_12 : decode cJ1_charAt_3b067 12 = .ok (.iand, 1) := by decide +kernel
theorem dJ1_charAt_3b067_13 : decode cJ1_charAt_3b067 13 = .ok (.i2c, 1) := by decide +kernel
theorem dJ1_charAt_3b067_14 : decode cJ1_charAt_3b067 14 = .ok (.ireturn, 1) := by decide +kernel
def mJ1_charAt_3b067 : MD := (yJ1_charAt_3b067, cJ1_charAt_3b067, 2, (some .char), 0, fun _ => 0)
theorem ok_J1_charAt_3b067 : MOK mJ1_charAt_3b067 2 := ⟨by decide +kernel, rfl, by decide +kernel, ⟨by decide +kernel, by decide +kernel, by decide +kernel⟩, tw (i := 828) (by decide +kernel) (by decide +kernel), tw (i := 16) (by decide +kernel) (by decide +kernel)⟩
theorem sc_J1_charAt_3b067 : Cond.static yJ1_charAt_3b067 ∈ gw := tw (i := 827) (by decide +kernel) (by decide +kernel)
theorem dJ3_checkIndex_8e157_0 : decode cJ3_checkIndex_8e157 0 = .ok (.iload_n 0, 1) := by decide +kernel
theorem dJ3_checkIndex_8e157_1 : decode cJ3_checkIndex_8e157 1 = .ok (.ifCond .lt 8, 3) := by decide +kernel
theorem dJ3_checkIndex_8e157_4 : decode cJ3_checkIndex_8e157 4 = .ok (.iload_n 0, 1) := by decide +kernel
theorem dJ3_checkIndex_8e157_5 : decode cJ3_checkIndex_8e157 5 = .ok (.iload_n 1, 1) := by decide +kernel
theorem dJ3_checkIndex_8e157_6 : decode cJ3_checkIndex_8e157 6 = .ok (.if_icmp .lt 10, 3) := by decide +kernel
theorem dJ3_checkIndex_8e157_9 : decode cJ3_checkIndex_8e157 9 = .ok (.aload_n 2, 1) := by decide +kernel
theorem dJ3_checkIndex_8e157_10 : decode cJ3_checkIndex_8e157 10 = .ok (.iload_n 0, 1) := by decide +kernel
theorem dJ3_checkIndex_8e157_11 : decode cJ3_checkIndex_8e157 11 = .ok (.iload_n 1, 1) := by decide +kernel
theorem dJ3_checkIndex_8e157_12 : decode cJ3_checkIndex_8e157 12 = .ok (.invokestatic 95, 3) := by decide +kernel
theorem dJ3_checkIndex_8e157_15 : decode cJ3_checkIndex_8e157 15 = .ok (.athrow, 1) := by decide +kernel
theorem dJ3_checkIndex_8e157_16 : decode cJ3_checkIndex_8e157 16 = .ok (.iload_n 0, 1) := by decide +kernel
theorem dJ3_checkIndex_8e157_17 : decode cJ3_checkIndex_8e157 17 = .ok (.ireturn, 1) := by decide +kernel
def mJ3_checkIndex_8e157 : MD := (yJ3_checkIndex_8e157, cJ3_checkIndex_8e157, 3, (some .int), 0, fun _ => 0)
theorem ok_J3_checkIndex_8e157 : MOK mJ3_checkIndex_8e157 3 := ⟨by decide +kernel, rfl, by decide +kernel, ⟨by decide +kernel, by decide +kernel, by decide +kernel⟩, tw (i := 836) (by decide +kernel) (by decide +kernel), tw (i := 17) (by decide +kernel) (by decide +kernel)⟩
theorem sc_J3_checkIndex_8e157 : Cond.static yJ3_checkIndex_8e157 ∈ gw := tw (i := 835) (by decide +kernel) (by decide +kernel)
theorem ml_X7_71 : Cond.methodLink "SpanMap$Script" 71 yJ0_length_8abf5 ∈ gw := tw (i := 808) (by decide +kernel) (by decide +kernel)
theorem ml_X7_76 : Cond.methodLink "SpanMap$Script" 76 yJ0_charAt_5068e ∈ gw := tw (i := 818) (by decide +kernel) (by decide +kernel)
theorem ml_J0_335 : Cond.methodLink "java/lang/String" 335 yJ0_coder_7d493 ∈ gw := tw (i := 812) (by decide +kernel) (by decide +kernel)
theorem ml_J0_492 : Cond.methodLink "java/lang/String" 492 yJ0_isLatin1_aae02 ∈ gw := tw (i := 822) (by decide +kernel) (by decide +kernel)
theorem ml_J0_495 : Cond.methodLink "java/lang/String" 495 yJ1_charAt_3b067 ∈ gw := tw (i := 826) (by decide +kernel) (by decide +kernel)
theorem ml_J1_9 : Cond.methodLink "java/lang/StringLatin1" 9 yJ0_checkIndex_df160 ∈ gw := tw (i := 829) (by decide +kernel) (by decide +kernel)
theorem ml_J0_1059 : Cond.methodLink "java/lang/String" 1059 yJ3_checkIndex_8e157 ∈ gw := tw (i := 834) (by decide +kernel) (by decide +kernel)
theorem fs_9 : Cond.fieldLink "java/lang/String" 9 "java/lang/String" "value" "[B" ∈ gw := tw (i := 1762) (by decide +kernel) (by decide +kernel)
theorem fs_15 : Cond.fieldLink "java/lang/String" 15 "java/lang/String" "code\x72" "B" ∈ gw := tw (i := 1763) (by decide +kernel) (by decide +kernel)
theorem fs_38 : Cond.fieldLink "java/lang/String" 38 "java/lang/String" "COMPACT_STRINGS" "Z" ∈ gw := tw (i := 816) (by decide +kernel) (by decide +kernel)
theorem fs_1053 : Cond.fieldLink "java/lang/String" 1053 "jdk/internal/util/Preconditions" "SIOOBE_FORMATTER" "Ljava/util/function/BiFunction;" ∈ gw := tw (i := 832) (by decide +kernel) (by decide +kernel)
theorem ct_coder {fi : FI} {fr : FR} {ai : FI} {ar : FR} {N : Nat}  : CP mJ0_coder_7d493 0 0 0 [.ref 61] fi fr ai ar N (xQ (some (.int (nI 0))) fi fr ai ar N) := by
  change EV mJ0_coder_7d493 0 0 0 0 [some (.ref 61)] [] fi fr ai ar N (xQ (some (.int (nI 0))) fi fr ai ar N)
  refine e_getsC dJ0_coder_7d493_0 rfl fs_38 ?_
  refine n_if_eq (tgt := 13) dJ0_coder_7d493_3 (by decide) (by decide) (fun h => absurd h (by decide)) (fun _ => ?_)
  refine e_aload_n dJ0_coder_7d493_6 rfl rfl ?_
  refine e_sgetC dJ0_coder_7d493_7 rfl fs_15 ?_
  refine e_goto (tgt := 14) dJ0_coder_7d493_10 (by decide) ?_
  refine e_ret (some _) rfl ⟨dJ0_coder_7d493_14, _, rfl, rfl⟩ ?_
  exact xq rfl rfl rfl rfl rfl rfl
theorem ct_latin {fi : FI} {fr : FR} {ai : FI} {ar : FR} {N : Nat}  : CP mJ0_isLatin1_aae02 0 0 0 [.ref 61] fi fr ai ar N (xQ (some (.int (nI 1))) fi fr ai ar N) := by
  change EV mJ0_isLatin1_aae02 0 0 0 0 [some (.ref 61)] [] fi fr ai ar N (xQ (some (.int (nI 1))) fi fr ai ar N)
  refine e_getsC dJ0_isLatin1_aae02_0 rfl fs_38 ?_
  refine n_if_eq (tgt := 17) dJ0_isLatin1_aae02_3 (by decide) (by decide) (fun h => absurd h (by decide)) (fun _ => ?_)
  refine e_aload_n dJ0_isLatin1_aae02_6 rfl rfl ?_
  refine e_sgetC dJ0_isLatin1_aae02_7 rfl fs_15 ?_
  refine n_if_ne (tgt := 17) dJ0_isLatin1_aae02_10 (by decide) (by decide) (fun h => absurd rfl h) (fun _ => ?_)
  refine e_iconst (v := nI 1) dJ0_isLatin1_aae02_13 rfl ?_
  refine e_goto (tgt := 18) dJ0_isLatin1_aae02_14 (by decide) ?_
  refine e_ret (some _) rfl ⟨dJ0_isLatin1_aae02_18, _, rfl, rfl⟩ ?_
  exact xq rfl rfl rfl rfl rfl rfl
theorem ct_slength {fi : FI} {fr : FR} {ai : FI} {ar : FR} {N : Nat}  : CP mJ0_length_8abf5 1 0 0 [.ref 61] fi fr ai ar N (xQ (some (.int (nI 81))) fi fr ai ar N) := by
  change EV mJ0_length_8abf5 1 0 0 0 [some (.ref 61)] [] fi fr ai ar N (xQ (some (.int (nI 81))) fi fr ai ar N)
  refine e_aload_n dJ0_length_8abf5_0 rfl rfl ?_
  refine e_sgetV dJ0_length_8abf5_1 rfl fs_9 ?_
  refine e_tslen dJ0_length_8abf5_4 ?_
  refine e_aload_n dJ0_length_8abf5_5 rfl rfl ?_
  refine e_callT (M' := mJ0_coder_7d493) (k2 := 0) (z2 := 0) (As := []) dJ0_length_8abf5_6 ml_J0_335 ok_J0_coder_7d493 rfl im_J0_coder_7d493 se_J0_coder_7d493 ct_coder rfl rfl (Nat.le_of_ble_eq_true rfl) (by decide) ⟨by omega, by omega⟩ (Nat.le_of_ble_eq_true rfl) (fun r1 f1 g1 a1 q1 n1 h => ?_)
  obtain ⟨i1, i2, i3, i4, i5, i6⟩ := h
  rw [i1, i2, i3, i4, i5, i6]
  clear i1 i2 i3 i4 i5 i6 r1 f1 g1 a1 q1 n1
  dsimp only [Option.toList, List.cons_append, List.nil_append]
  refine e_ishr dJ0_length_8abf5_9 ?_
  refine e_ret (some _) rfl ⟨dJ0_length_8abf5_10, _, rfl, rfl⟩ ?_
  exact xq rfl rfl rfl rfl rfl rfl
theorem ct_preN {fi : FI} {fr : FR} {ai : FI} {ar : FR} {N : Nat} {j n : Nat} (h : j < n) (hn : n < 1000) : CP mJ3_checkIndex_8e157 0 0 0 [.int (nI j), .int (nI n), .null] fi fr ai ar N (xQ (some (.int (nI j))) fi fr ai ar N) := by
  change EV mJ3_checkIndex_8e157 0 0 0 0 [some (.int (nI j)), some (.int (nI n)), some (.null)] [] fi fr ai ar N (xQ (some (.int (nI j))) fi fr ai ar N)
  refine e_iload_n dJ3_checkIndex_8e157_0 rfl rfl ?_
  refine n_if_lt (tgt := 9) dJ3_checkIndex_8e157_1 (by decide) (by omega) (fun h => h.elim) (fun _ => ?_)
  refine e_iload_n dJ3_checkIndex_8e157_4 rfl rfl ?_
  refine e_iload_n dJ3_checkIndex_8e157_5 rfl rfl ?_
  refine n_icmp_lt (tgt := 16) dJ3_checkIndex_8e157_6 (by decide) (by omega) (by omega) (fun _ => ?_) (fun h => by omega)
  refine e_iload_n dJ3_checkIndex_8e157_16 rfl rfl ?_
  refine e_ret (some _) rfl ⟨dJ3_checkIndex_8e157_17, _, rfl, rfl⟩ ?_
  exact xq rfl rfl rfl rfl rfl rfl
theorem ct_preR {fi : FI} {fr : FR} {ai : FI} {ar : FR} {N : Nat} {j n : Nat} (h : j < n) (hn : n < 1000) : CP mJ3_checkIndex_8e157 0 0 0 [.int (nI j), .int (nI n), .ref 124] fi fr ai ar N (xQ (some (.int (nI j))) fi fr ai ar N) := by
  change EV mJ3_checkIndex_8e157 0 0 0 0 [some (.int (nI j)), some (.int (nI n)), some (.ref 124)] [] fi fr ai ar N (xQ (some (.int (nI j))) fi fr ai ar N)
  refine e_iload_n dJ3_checkIndex_8e157_0 rfl rfl ?_
  refine n_if_lt (tgt := 9) dJ3_checkIndex_8e157_1 (by decide) (by omega) (fun h => h.elim) (fun _ => ?_)
  refine e_iload_n dJ3_checkIndex_8e157_4 rfl rfl ?_
  refine e_iload_n dJ3_checkIndex_8e157_5 rfl rfl ?_
  refine n_icmp_lt (tgt := 16) dJ3_checkIndex_8e157_6 (by decide) (by omega) (by omega) (fun _ => ?_) (fun h => by omega)
  refine e_iload_n dJ3_checkIndex_8e157_16 rfl rfl ?_
  refine e_ret (some _) rfl ⟨dJ3_checkIndex_8e157_17, _, rfl, rfl⟩ ?_
  exact xq rfl rfl rfl rfl rfl rfl
theorem ct_chk {fi : FI} {fr : FR} {ai : FI} {ar : FR} {N : Nat} {j n : Nat} (h : j < n) (hn : n < 1000) : CP mJ0_checkIndex_df160 1 0 0 [.int (nI j), .int (nI n)] fi fr ai ar N (xQ (none) fi fr ai ar N) := by
  change EV mJ0_checkIndex_df160 1 0 0 0 [some (.int (nI j)), some (.int (nI n))] [] fi fr ai ar N (xQ (none) fi fr ai ar N)
  refine e_iload_n dJ0_checkIndex_df160_0 rfl rfl ?_
  refine e_iload_n dJ0_checkIndex_df160_1 rfl rfl ?_
  refine e_getsF dJ0_checkIndex_df160_2 rfl fs_1053 (fun v hv => ?_)
  rcases hv with rfl | rfl
  · refine e_callX (M' := mJ3_checkIndex_8e157) (k2 := 0) (z2 := 0) (As := [_, _, _]) dJ0_checkIndex_df160_5 ml_J0_1059 ok_J3_checkIndex_8e157 sc_J3_checkIndex_8e157 (ct_preN h hn) rfl rfl (Nat.le_of_ble_eq_true rfl) (by decide) ⟨by omega, by omega⟩ (Nat.le_of_ble_eq_true rfl) (fun r1 f1 g1 a1 q1 n1 hh => ?_)
    obtain ⟨i1, i2, i3, i4, i5, i6⟩ := hh
    rw [i1, i2, i3, i4, i5, i6]
    clear i1 i2 i3 i4 i5 i6 r1 f1 g1 a1 q1 n1
    dsimp only [Option.toList, List.cons_append, List.nil_append]
    refine e_pop dJ0_checkIndex_df160_8 rfl ?_
    refine e_ret none rfl (r_void dJ0_checkIndex_df160_9 rfl) ?_
    exact xq rfl rfl rfl rfl rfl rfl
  · refine e_callX (M' := mJ3_checkIndex_8e157) (k2 := 0) (z2 := 0) (As := [_, _, _]) dJ0_checkIndex_df160_5 ml_J0_1059 ok_J3_checkIndex_8e157 sc_J3_checkIndex_8e157 (ct_preR h hn) rfl rfl (Nat.le_of_ble_eq_true rfl) (by decide) ⟨by omega, by omega⟩ (Nat.le_of_ble_eq_true rfl) (fun r1 f1 g1 a1 q1 n1 hh => ?_)
    obtain ⟨i1, i2, i3, i4, i5, i6⟩ := hh
    rw [i1, i2, i3, i4, i5, i6]
    clear i1 i2 i3 i4 i5 i6 r1 f1 g1 a1 q1 n1
    dsimp only [Option.toList, List.cons_append, List.nil_append]
    refine e_pop dJ0_checkIndex_df160_8 rfl ?_
    refine e_ret none rfl (r_void dJ0_checkIndex_df160_9 rfl) ?_
    exact xq rfl rfl rfl rfl rfl rfl
theorem vb_nar : ∀ j, j < 81 → narrow .char (.int (nI (vbM.getD j 0))) = .int (nI (vbM.getD j 0)) := by
  have h : ∀ j, j < 81 → (nI (vbM.getD j 0)).toUInt32.toUInt16.toUInt32.toInt32 = nI (vbM.getD j 0) := by decide +kernel
  intro j hj
  exact congrArg Value.int (h j hj)
theorem ct_lch {fi : FI} {fr : FR} {ai : FI} {ar : FR} {N : Nat} {j : Nat} (hj : j < 81) : CP mJ1_charAt_3b067 2 0 0 [.ref 62, .int (nI j)] fi fr ai ar N (xQ (some (.int (nI (vbM.getD j 0)))) fi fr ai ar N) := by
  change EV mJ1_charAt_3b067 2 0 0 0 [some (.ref 62), some (.int (nI j))] [] fi fr ai ar N (xQ (some (.int (nI (vbM.getD j 0)))) fi fr ai ar N)
  refine e_iload_n dJ1_charAt_3b067_0 rfl rfl ?_
  refine e_aload_n dJ1_charAt_3b067_1 rfl rfl ?_
  refine e_tslen dJ1_charAt_3b067_2 ?_
  refine e_callX (M' := mJ0_checkIndex_df160) (k2 := 0) (z2 := 0) (As := [_, _]) dJ1_charAt_3b067_3 ml_J1_9 ok_J0_checkIndex_df160 sc_J0_checkIndex_df160 (ct_chk hj (by decide)) rfl rfl (Nat.le_of_ble_eq_true rfl) (by decide) ⟨by omega, by omega⟩ (Nat.le_of_ble_eq_true rfl) (fun r1 f1 g1 a1 q1 n1 h => ?_)
  obtain ⟨i1, i2, i3, i4, i5, i6⟩ := h
  rw [i1, i2, i3, i4, i5, i6]
  clear i1 i2 i3 i4 i5 i6 r1 f1 g1 a1 q1 n1
  dsimp only [Option.toList, List.cons_append, List.nil_append]
  refine e_aload_n dJ1_charAt_3b067_6 rfl rfl ?_
  refine e_iload_n dJ1_charAt_3b067_7 rfl rfl ?_
  refine e_sald dJ1_charAt_3b067_8 hj ?_
  refine e_sipush (v := nI 255) dJ1_charAt_3b067_9 rfl ?_
  refine e_iand dJ1_charAt_3b067_12 ?_
  refine e_i2c dJ1_charAt_3b067_13 ?_
  rw [vbm_c j hj]
  refine e_ret (some _) rfl ⟨dJ1_charAt_3b067_14, _, rfl, vb_nar j hj⟩ ?_
  exact xq rfl rfl rfl rfl rfl rfl
theorem ct_charAt {fi : FI} {fr : FR} {ai : FI} {ar : FR} {N : Nat} {j : Nat} (hj : j < 81) : CP mJ0_charAt_5068e 3 0 0 [.ref 61, .int (nI j)] fi fr ai ar N (xQ (some (.int (nI (vbM.getD j 0)))) fi fr ai ar N) := by
  change EV mJ0_charAt_5068e 3 0 0 0 [some (.ref 61), some (.int (nI j))] [] fi fr ai ar N (xQ (some (.int (nI (vbM.getD j 0)))) fi fr ai ar N)
  refine e_aload_n dJ0_charAt_5068e_0 rfl rfl ?_
  refine e_callT (M' := mJ0_isLatin1_aae02) (k2 := 0) (z2 := 0) (As := []) dJ0_charAt_5068e_1 ml_J0_492 ok_J0_isLatin1_aae02 rfl im_J0_isLatin1_aae02 se_J0_isLatin1_aae02 ct_latin rfl rfl (Nat.le_of_ble_eq_true rfl) (by decide) ⟨by omega, by omega⟩ (Nat.le_of_ble_eq_true rfl) (fun r1 f1 g1 a1 q1 n1 h => ?_)
  obtain ⟨i1, i2, i3, i4, i5, i6⟩ := h
  rw [i1, i2, i3, i4, i5, i6]
  clear i1 i2 i3 i4 i5 i6 r1 f1 g1 a1 q1 n1
  dsimp only [Option.toList, List.cons_append, List.nil_append]
  refine n_if_eq (tgt := 16) dJ0_charAt_5068e_4 (by decide) (by decide) (fun h => absurd h (by decide)) (fun _ => ?_)
  refine e_aload_n dJ0_charAt_5068e_7 rfl rfl ?_
  refine e_sgetV dJ0_charAt_5068e_8 rfl fs_9 ?_
  refine e_iload_n dJ0_charAt_5068e_11 rfl rfl ?_
  refine e_callX (M' := mJ1_charAt_3b067) (k2 := 0) (z2 := 0) (As := [_, _]) dJ0_charAt_5068e_12 ml_J0_495 ok_J1_charAt_3b067 sc_J1_charAt_3b067 (ct_lch hj) rfl rfl (Nat.le_of_ble_eq_true rfl) (by decide) ⟨by omega, by omega⟩ (Nat.le_of_ble_eq_true rfl) (fun r1 f1 g1 a1 q1 n1 h => ?_)
  obtain ⟨i1, i2, i3, i4, i5, i6⟩ := h
  rw [i1, i2, i3, i4, i5, i6]
  clear i1 i2 i3 i4 i5 i6 r1 f1 g1 a1 q1 n1
  dsimp only [Option.toList, List.cons_append, List.nil_append]
  refine e_ret (some _) rfl ⟨dJ0_charAt_5068e_15, _, rfl, vb_nar j hj⟩ ?_
  exact xq rfl rfl rfl rfl rfl rfl
