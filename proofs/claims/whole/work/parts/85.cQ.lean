theorem ct_X0_init {fi : FI} {fr : FR} {ai : FI} {ar : FR} {N : Nat} {t : Nat} : CP mX0_init 1 1 7 [.ref (rf 0 t)] fi fr ai ar N (xQ none fi (up2 fr (32 * 0 + 0) (rf 0 t) (some (rf 28 N))) ai ar (N + 1)) := by
  change EV mX0_init 1 1 7 0 [some (.ref (rf 0 t))] [] fi fr ai ar N _
  refine e_aload_n dX0_init_0 rfl rfl ?_
  refine e_objInit dX0_init_1 ml_X0_3 im_O cd_O (by decide) (Nat.le_of_ble_eq_true rfl) ?_
  refine e_aload_n dX0_init_4 rfl rfl ?_
  refine e_bipush (v := nI 7) dX0_init_5 rfl ?_
  refine e_newq 28 dX0_init_7 ⟨by decide, by decide⟩ rfl cl_X0_9 (by decide) rfl (Nat.le_of_ble_eq_true rfl) (k2 := 0) (z2 := 0) ⟨by omega, by (show 7 + _ ≤ _; omega)⟩ ?_
  refine e_putRF dX0_init_10 fl_X0_11 rfl rfl rfl rfl ?_
  refine e_ret none rfl (r_void dX0_init_13 rfl) ?_
  exact xq rfl rfl rfl rfl rfl rfl
theorem ct_X1_init {fi : FI} {fr : FR} {ai : FI} {ar : FR} {N : Nat} {t u v : Nat} : CP mX1_init 1 0 0 [.ref (rf 1 t), .ref u, .ref v] fi fr ai ar N (xQ none fi (up2 (up2 fr (32 * 1 + 0) (rf 1 t) (some u)) (32 * 1 + 1) (rf 1 t) (some v)) ai ar N) := by
  change EV mX1_init 1 0 0 0 [some (.ref (rf 1 t)), some (.ref u), some (.ref v)] [] fi fr ai ar N _
  refine e_aload_n dX1_init_0 rfl rfl ?_
  refine e_objInit dX1_init_1 ml_X1_3 im_O cd_O (by decide) (Nat.le_of_ble_eq_true rfl) ?_
  refine e_aload_n dX1_init_4 rfl rfl ?_
  refine e_aload_n dX1_init_5 rfl rfl ?_
  refine e_putRF dX1_init_6 fl_X1_9 rfl rfl rfl rfl ?_
  refine e_aload_n dX1_init_9 rfl rfl ?_
  refine e_aload_n dX1_init_10 rfl rfl ?_
  refine e_putRF dX1_init_11 fl_X1_15 rfl rfl rfl rfl ?_
  refine e_ret none rfl (r_void dX1_init_14 rfl) ?_
  exact xq rfl rfl rfl rfl rfl rfl
theorem ct_X2_init {fi : FI} {fr : FR} {ai : FI} {ar : FR} {N : Nat} {t u v x : Nat} : CP mX2_init 1 0 0 [.ref (rf 2 t), .ref u, .ref v, .ref x] fi fr ai ar N (xQ none fi (up2 (up2 (up2 fr (32 * 2 + 0) (rf 2 t) (some u)) (32 * 2 + 1) (rf 2 t) (some v)) (32 * 2 + 2) (rf 2 t) (some x)) ai ar N) := by
  change EV mX2_init 1 0 0 0 [some (.ref (rf 2 t)), some (.ref u), some (.ref v), some (.ref x)] [] fi fr ai ar N _
  refine e_aload_n dX2_init_0 rfl rfl ?_
  refine e_objInit dX2_init_1 ml_X2_3 im_O cd_O (by decide) (Nat.le_of_ble_eq_true rfl) ?_
  refine e_aload_n dX2_init_4 rfl rfl ?_
  refine e_aload_n dX2_init_5 rfl rfl ?_
  refine e_putRF dX2_init_6 fl_X2_9 rfl rfl rfl rfl ?_
  refine e_aload_n dX2_init_9 rfl rfl ?_
  refine e_aload_n dX2_init_10 rfl rfl ?_
  refine e_putRF dX2_init_11 fl_X2_15 rfl rfl rfl rfl ?_
  refine e_aload_n dX2_init_14 rfl rfl ?_
  refine e_aload_n dX2_init_15 rfl rfl ?_
  refine e_putRF dX2_init_16 fl_X2_19 rfl rfl rfl rfl ?_
  refine e_ret none rfl (r_void dX2_init_19 rfl) ?_
  exact xq rfl rfl rfl rfl rfl rfl
theorem ct_X5_init {fi : FI} {fr : FR} {ai : FI} {ar : FR} {N : Nat} {t u v : Nat} : CP mX5_init 1 0 0 [.ref (rf 5 t), .ref u, .ref v] fi fr ai ar N (xQ none fi (up2 (up2 fr (32 * 5 + 0) (rf 5 t) (some u)) (32 * 5 + 1) (rf 5 t) (some v)) ai ar N) := by
  change EV mX5_init 1 0 0 0 [some (.ref (rf 5 t)), some (.ref u), some (.ref v)] [] fi fr ai ar N _
  refine e_aload_n dX5_init_0 rfl rfl ?_
  refine e_objInit dX5_init_1 ml_X5_3 im_O cd_O (by decide) (Nat.le_of_ble_eq_true rfl) ?_
  refine e_aload_n dX5_init_4 rfl rfl ?_
  refine e_aload_n dX5_init_5 rfl rfl ?_
  refine e_putRF dX5_init_6 fl_X5_9 rfl rfl rfl rfl ?_
  refine e_aload_n dX5_init_9 rfl rfl ?_
  refine e_aload_n dX5_init_10 rfl rfl ?_
  refine e_putRF dX5_init_11 fl_X5_15 rfl rfl rfl rfl ?_
  refine e_ret none rfl (r_void dX5_init_14 rfl) ?_
  exact xq rfl rfl rfl rfl rfl rfl
theorem ct_X6_init {fi : FI} {fr : FR} {ai : FI} {ar : FR} {N : Nat} {t : Nat} : CP mX6_init 1 5 1104 [.ref (rf 6 t)] fi fr ai ar N (xQ none fi (up2 (up2 (up2 (up2 (up2 fr (32 * 6 + 0) (rf 6 t) (some (rf 25 N))) (32 * 6 + 1) (rf 6 t) (some (rf 26 (N + 1)))) (32 * 6 + 2) (rf 6 t) (some (rf 16 (N + 1 + 1)))) (32 * 6 + 3) (rf 6 t) (some (rf 27 (N + 1 + 1 + 1)))) (32 * 6 + 4) (rf 6 t) (some (rf 23 (N + 1 + 1 + 1 + 1)))) ai ar (N + 1 + 1 + 1 + 1 + 1)) := by
  change EV mX6_init 1 5 1104 0 [some (.ref (rf 6 t))] [] fi fr ai ar N _
  refine e_aload_n dX6_init_0 rfl rfl ?_
  refine e_objInit dX6_init_1 ml_X6_3 im_O cd_O (by decide) (Nat.le_of_ble_eq_true rfl) ?_
  refine e_aload_n dX6_init_4 rfl rfl ?_
  refine e_sipush (v := nI 1001) dX6_init_5 rfl ?_
  refine e_newa 25 (at_ := .int) dX6_init_8 ⟨by decide, by decide⟩ rfl ⟨rfl, rfl, by decide, Nat.le_of_ble_eq_true rfl⟩ ac_int rfl (k2 := 4) (z2 := 103) ⟨by omega, by (show 1001 + _ ≤ _; omega)⟩ ?_
  refine e_putRF dX6_init_10 fl_X6_9 rfl rfl rfl rfl ?_
  refine e_aload_n dX6_init_13 rfl rfl ?_
  refine e_bipush (v := nI 33) dX6_init_14 rfl ?_
  refine e_newa 26 (at_ := .int) dX6_init_16 ⟨by decide, by decide⟩ rfl ⟨rfl, rfl, by decide, Nat.le_of_ble_eq_true rfl⟩ ac_int rfl (k2 := 3) (z2 := 70) ⟨by omega, by (show 33 + _ ≤ _; omega)⟩ ?_
  refine e_putRF dX6_init_18 fl_X6_15 rfl rfl rfl rfl ?_
  refine e_aload_n dX6_init_21 rfl rfl ?_
  refine e_bipush (v := nI 32) dX6_init_22 rfl ?_
  refine e_newa 16 (at_ := .int) dX6_init_24 ⟨by decide, by decide⟩ rfl ⟨rfl, rfl, by decide, Nat.le_of_ble_eq_true rfl⟩ ac_int rfl (k2 := 2) (z2 := 38) ⟨by omega, by (show 32 + _ ≤ _; omega)⟩ ?_
  refine e_putRF dX6_init_26 fl_X6_18 rfl rfl rfl rfl ?_
  refine e_aload_n dX6_init_29 rfl rfl ?_
  refine e_bipush (v := nI 32) dX6_init_30 rfl ?_
  refine e_newa 27 (at_ := .boolean) dX6_init_32 ⟨by decide, by decide⟩ rfl ⟨rfl, rfl, by decide, Nat.le_of_ble_eq_true rfl⟩ ac_boolean rfl (k2 := 1) (z2 := 6) ⟨by omega, by (show 32 + _ ≤ _; omega)⟩ ?_
  refine e_putRF dX6_init_34 fl_X6_21 rfl rfl rfl rfl ?_
  refine e_aload_n dX6_init_37 rfl rfl ?_
  refine e_bipush (v := nI 6) dX6_init_38 rfl ?_
  refine e_newa 23 (at_ := .int) dX6_init_40 ⟨by decide, by decide⟩ rfl ⟨rfl, rfl, by decide, Nat.le_of_ble_eq_true rfl⟩ ac_int rfl (k2 := 0) (z2 := 0) ⟨by omega, by (show 6 + _ ≤ _; omega)⟩ ?_
  refine e_putRF dX6_init_42 fl_X6_25 rfl rfl rfl rfl ?_
  refine e_ret none rfl (r_void dX6_init_45 rfl) ?_
  exact xq rfl rfl rfl rfl rfl rfl
theorem ct_X7_init {fi : FI} {fr : FR} {ai : FI} {ar : FR} {N : Nat} {t : Nat} : CP mX7_init 1 3 560 [.ref (rf 7 t)] fi fr ai ar N (xQ none (up2 fi (32 * 7 + 6) (rf 7 t) (-1)) (up2 (up2 (up2 fr (32 * 7 + 0) (rf 7 t) (some (rf 29 N))) (32 * 7 + 1) (rf 7 t) (some (rf 30 (N + 1)))) (32 * 7 + 2) (rf 7 t) (some (rf 31 (N + 1 + 1)))) ai ar (N + 1 + 1 + 1)) := by
  change EV mX7_init 1 3 560 0 [some (.ref (rf 7 t))] [] fi fr ai ar N _
  refine e_aload_n dX7_init_0 rfl rfl ?_
  refine e_objInit dX7_init_1 ml_X7_3 im_O cd_O (by decide) (Nat.le_of_ble_eq_true rfl) ?_
  refine e_aload_n dX7_init_4 rfl rfl ?_
  refine e_sipush (v := nI 400) dX7_init_5 rfl ?_
  refine e_newa 29 (at_ := .char) dX7_init_8 ⟨by decide, by decide⟩ rfl ⟨rfl, rfl, by decide, Nat.le_of_ble_eq_true rfl⟩ ac_char rfl (k2 := 2) (z2 := 160) ⟨by omega, by (show 400 + _ ≤ _; omega)⟩ ?_
  refine e_putRF dX7_init_10 fl_X7_9 rfl rfl rfl rfl ?_
  refine e_aload_n dX7_init_13 rfl rfl ?_
  refine e_bipush (v := nI 120) dX7_init_14 rfl ?_
  refine e_newa 30 (at_ := .int) dX7_init_16 ⟨by decide, by decide⟩ rfl ⟨rfl, rfl, by decide, Nat.le_of_ble_eq_true rfl⟩ ac_int rfl (k2 := 1) (z2 := 40) ⟨by omega, by (show 120 + _ ≤ _; omega)⟩ ?_
  refine e_putRF dX7_init_18 fl_X7_15 rfl rfl rfl rfl ?_
  refine e_aload_n dX7_init_21 rfl rfl ?_
  refine e_bipush (v := nI 40) dX7_init_22 rfl ?_
  refine e_newa 31 (at_ := .int) dX7_init_24 ⟨by decide, by decide⟩ rfl ⟨rfl, rfl, by decide, Nat.le_of_ble_eq_true rfl⟩ ac_int rfl (k2 := 0) (z2 := 0) ⟨by omega, by (show 40 + _ ≤ _; omega)⟩ ?_
  refine e_putRF dX7_init_26 fl_X7_19 rfl rfl rfl rfl ?_
  refine e_aload_n dX7_init_29 rfl rfl ?_
  refine e_iconst (v := -1) dX7_init_30 rfl ?_
  refine e_putI dX7_init_31 fl_X7_22 rfl rfl rfl rfl ?_
  refine e_ret none rfl (r_void dX7_init_34 rfl) ?_
  exact xq rfl rfl rfl rfl rfl rfl
theorem WL_fr {fr fr' ar ar' : FR} {b : Nat} (hf : ∀ f r, b ≤ r / 64 → r / 64 < b + 57 → fr' f r = fr f r) (ha : ∀ a i, b ≤ a / 64 → a / 64 < b + 57 → ar' a i = ar a i) (h : WL fr ar b) : WL fr' ar' b := by
  obtain ⟨h1, h2, h3, h4, h5, h6, h7, h8⟩ := h
  have q : ∀ f κ n, κ < 64 → b ≤ n → n < b + 57 → fr' f (rf κ n) = fr f (rf κ n) := fun f κ n h a c => hf f _ (by rw [rf_div h]; exact a) (by rw [rf_div h]; exact c)
  have q2 : ∀ κ n i, κ < 64 → b ≤ n → n < b + 57 → ar' (rf κ n) i = ar (rf κ n) i := fun κ n i h a c => ha _ i (by rw [rf_div h]; exact a) (by rw [rf_div h]; exact c)
  refine ⟨(q _ _ _ (by decide) (by omega) (by omega)).trans h1, (q _ _ _ (by decide) (by omega) (by omega)).trans h2, (q _ _ _ (by decide) (by omega) (by omega)).trans h3, (q _ _ _ (by decide) (by omega) (by omega)).trans h4, (q _ _ _ (by decide) (by omega) (by omega)).trans h5, TBL_fr (fun f => q _ _ _ (by decide) (by omega) (by omega)) h6, fun c hc => ⟨(q2 _ _ _ (by decide) (by omega) (by omega)).trans (h7 c hc).1, TBL_fr (fun f => q _ _ _ (by decide) (by omega) (by omega)) (h7 c hc).2⟩, fun m hm => ⟨(q2 _ _ _ (by decide) (by omega) (by omega)).trans (h8 m hm).1, (q _ _ _ (by decide) (by omega) (by omega)).trans (h8 m hm).2⟩⟩
theorem up2_b {α : Type} {g : Nat → Nat → α} {i j lo hi : Nat} {x : α} {f r : Nat} (hj : j / 64 < lo ∨ hi ≤ j / 64) (h : lo ≤ r / 64 ∧ r / 64 < hi) : up2 g i j x f r = g f r := up2_n _ _ (fun e => by rw [e.2] at h; omega)
def sQ : EQ := fun r fi fr ai ar N => r = none ∧ N = 80 ∧ CM fr ar ∧ KW 1 fi ai w00 ∧ (∀ a i, 58 ≤ a / 64 → ai a i = 0 ∧ ar a i = none) ∧ (∀ f r, 58 ≤ r / 64 → r ≠ rf 7 76 → fi f r = 0) ∧ (∀ f, f ≠ 32 * 7 + 6 → fi f (rf 7 76) = 0) ∧ fi (32 * 7 + 6) (rf 7 76) = -1 ∧ fi (32 * 10 + 10) (rf 10 0) = -1 ∧ fr (32 * 10 + 8) (rf 10 0) = none ∧ fr (32 * 10 + 9) (rf 10 0) = none
theorem ct_X10_init {fi : FI} {fr : FR} {ai : FI} {ar : FR} : CP mX10_init 3 79 12401 [.ref (rf 10 0)] fi fr ai ar 1 sQ := by
  change EV mX10_init 3 79 12401 0 [some (.ref (rf 10 0)), none, none, none] [] fi fr ai ar 1 sQ
  refine e_zr (fun zn0 => ?_)
  have hz1 : ∀ f, fi f (rf 9 1) = 0 := fun f => ((zn0 _ (by rw [rf_div (by decide)]; decide)).1 f).1
  refine e_aload_n dX10_init_0 rfl rfl ?_
  refine e_objInit dX10_init_1 ml_X10_3 im_O cd_O (by decide) (Nat.le_of_ble_eq_true rfl) ?_
  refine e_new 9 dX10_init_4 (by decide) cl_X10_9 iz_9 nz_9 df_9 (k2 := 78) (z2 := 12393) ⟨by omega, by (show 8 + _ ≤ _; omega)⟩ ?_
  refine e_dup dX10_init_7 rfl ?_
  refine e_callI (M' := mX9_init) (k' := 56) (z' := 8601) (k2 := 22) (z2 := 3792) (As := []) dX10_init_8 ml_X10_11 ok_X9_init rfl rfl im_X9_init (ct_X9_init (b := 1) hz1) rfl rfl (Nat.le_of_ble_eq_true rfl) (by decide) ⟨by omega, by omega⟩ (Nat.le_of_ble_eq_true rfl) (fun r1 f1 g1 a1 q1 n1 hI => ?_)
  obtain ⟨i1, i2, hW, hKW, hB⟩ := hI
  rw [i1, i2]
  clear i1 i2
  refine e_zr (fun zn => ?_)
  change ZN f1 g1 a1 q1 58 at zn
  change EV _ _ _ _ _ _ _ _ _ _ _ 58 _
  dsimp only [Option.toList, List.nil_append]
  refine e_astore_n dX10_init_11 rfl (Nat.le_of_ble_eq_true rfl) rfl ?_
  refine e_new 3 dX10_init_12 (by decide) cl_X10_12 iz_3 nz_3 df_3 (k2 := 21) (z2 := 3786) ⟨by omega, by (show 6 + _ ≤ _; omega)⟩ ?_
  refine e_dup dX10_init_15 rfl ?_
  refine e_callIN (M' := mX3_init) (k' := 6) (z' := 2087) (k2 := 15) (z2 := 1699) (As := []) dX10_init_16 (List.mem_of_getElem? (i := 2) rfl) ok_X3_init rfl rfl im_X3_init (ct_X3_init) rfl rfl (Nat.le_of_ble_eq_true rfl) (by decide) ⟨by omega, by omega⟩ (Nat.le_of_ble_eq_true rfl) (fun r1 f1 g1 a1 q1 n1 hI => ?_)
  obtain ⟨i1, i2, i3, i4, i5, i6⟩ := hI
  rw [i1, i2, i3, i4, i5, i6]
  clear i1 i2 i3 i4 i5 i6 r1 f1 g1 a1 q1 n1
  dsimp only [Option.toList, List.nil_append]
  refine e_astore_n dX10_init_19 rfl (Nat.le_of_ble_eq_true rfl) rfl ?_
  refine e_new 6 dX10_init_20 (by decide) cl_X10_15 iz_6 nz_6 df_6 (k2 := 14) (z2 := 1689) ⟨by omega, by (show 10 + _ ≤ _; omega)⟩ ?_
  refine e_dup dX10_init_23 rfl ?_
  refine e_callIN (M' := mX6_init) (k' := 5) (z' := 1104) (k2 := 9) (z2 := 585) (As := []) dX10_init_24 (List.mem_of_getElem? (i := 3) rfl) ok_X6_init rfl rfl im_X6_init (ct_X6_init) rfl rfl (Nat.le_of_ble_eq_true rfl) (by decide) ⟨by omega, by omega⟩ (Nat.le_of_ble_eq_true rfl) (fun r1 f1 g1 a1 q1 n1 hI => ?_)
  obtain ⟨i1, i2, i3, i4, i5, i6⟩ := hI
  rw [i1, i2, i3, i4, i5, i6]
  clear i1 i2 i3 i4 i5 i6 r1 f1 g1 a1 q1 n1
  dsimp only [Option.toList, List.nil_append]
  refine e_astore_n dX10_init_27 rfl (Nat.le_of_ble_eq_true rfl) rfl ?_
  refine e_aload_n dX10_init_28 rfl rfl ?_
  refine e_aload_n dX10_init_29 rfl rfl ?_
  refine e_putRF dX10_init_30 fl_X10_18 rfl rfl rfl rfl ?_
  refine e_aload_n dX10_init_33 rfl rfl ?_
  refine e_aload_n dX10_init_34 rfl rfl ?_
  refine e_putRF dX10_init_35 fl_X10_22 rfl rfl rfl rfl ?_
  refine e_aload_n dX10_init_38 rfl rfl ?_
  refine e_aload_n dX10_init_39 rfl rfl ?_
  refine e_putRF dX10_init_40 fl_X10_26 rfl rfl rfl rfl ?_
  refine e_aload_n dX10_init_43 rfl rfl ?_
  refine e_new 1 dX10_init_44 (by decide) cl_X10_30 iz_1 nz_1 df_1 (k2 := 8) (z2 := 583) ⟨by omega, by (show 2 + _ ≤ _; omega)⟩ ?_
  refine e_dup dX10_init_47 rfl ?_
  refine e_aload_n dX10_init_48 rfl rfl ?_
  refine e_aload_n dX10_init_49 rfl rfl ?_
  refine e_callI (M' := mX1_init) (k' := 0) (z' := 0) (k2 := 8) (z2 := 583) (As := [_, _]) dX10_init_50 ml_X10_32 ok_X1_init rfl rfl im_X1_init (ct_X1_init) rfl rfl (Nat.le_of_ble_eq_true rfl) (by decide) ⟨by omega, by omega⟩ (Nat.le_of_ble_eq_true rfl) (fun r1 f1 g1 a1 q1 n1 hI => ?_)
  obtain ⟨i1, i2, i3, i4, i5, i6⟩ := hI
  rw [i1, i2, i3, i4, i5, i6]
  clear i1 i2 i3 i4 i5 i6 r1 f1 g1 a1 q1 n1
  dsimp only [Option.toList, List.nil_append]
  refine e_putRF dX10_init_53 fl_X10_35 rfl rfl rfl rfl ?_
  refine e_aload_n dX10_init_56 rfl rfl ?_
  refine e_new 2 dX10_init_57 (by decide) cl_X10_39 iz_2 nz_2 df_2 (k2 := 7) (z2 := 580) ⟨by omega, by (show 3 + _ ≤ _; omega)⟩ ?_
  refine e_dup dX10_init_60 rfl ?_
  refine e_aload_n dX10_init_61 rfl rfl ?_
  refine e_aload_n dX10_init_62 rfl rfl ?_
  refine e_aload_n dX10_init_63 rfl rfl ?_
  refine e_callI (M' := mX2_init) (k' := 0) (z' := 0) (k2 := 7) (z2 := 580) (As := [_, _, _]) dX10_init_64 ml_X10_41 ok_X2_init rfl rfl im_X2_init (ct_X2_init) rfl rfl (Nat.le_of_ble_eq_true rfl) (by decide) ⟨by omega, by omega⟩ (Nat.le_of_ble_eq_true rfl) (fun r1 f1 g1 a1 q1 n1 hI => ?_)
  obtain ⟨i1, i2, i3, i4, i5, i6⟩ := hI
  rw [i1, i2, i3, i4, i5, i6]
  clear i1 i2 i3 i4 i5 i6 r1 f1 g1 a1 q1 n1
  dsimp only [Option.toList, List.nil_append]
  refine e_putRF dX10_init_67 fl_X10_44 rfl rfl rfl rfl ?_
  refine e_aload_n dX10_init_70 rfl rfl ?_
  refine e_new 5 dX10_init_71 (by decide) cl_X10_48 iz_5 nz_5 df_5 (k2 := 6) (z2 := 578) ⟨by omega, by (show 2 + _ ≤ _; omega)⟩ ?_
  refine e_dup dX10_init_74 rfl ?_
  refine e_aload_n dX10_init_75 rfl rfl ?_
  refine e_aload_n dX10_init_76 rfl rfl ?_
  refine e_callI (M' := mX5_init) (k' := 0) (z' := 0) (k2 := 6) (z2 := 578) (As := [_, _]) dX10_init_77 ml_X10_50 ok_X5_init rfl rfl im_X5_init (ct_X5_init) rfl rfl (Nat.le_of_ble_eq_true rfl) (by decide) ⟨by omega, by omega⟩ (Nat.le_of_ble_eq_true rfl) (fun r1 f1 g1 a1 q1 n1 hI => ?_)
  obtain ⟨i1, i2, i3, i4, i5, i6⟩ := hI
  rw [i1, i2, i3, i4, i5, i6]
  clear i1 i2 i3 i4 i5 i6 r1 f1 g1 a1 q1 n1
  dsimp only [Option.toList, List.nil_append]
  refine e_putRF dX10_init_80 fl_X10_51 rfl rfl rfl rfl ?_
  refine e_aload_n dX10_init_83 rfl rfl ?_
  refine e_new 0 dX10_init_84 (by decide) cl_X10_55 iz_0 nz_0 df_0 (k2 := 5) (z2 := 575) ⟨by omega, by (show 3 + _ ≤ _; omega)⟩ ?_
  refine e_dup dX10_init_87 rfl ?_
  refine e_callIN (M' := mX0_init) (k' := 1) (z' := 7) (k2 := 4) (z2 := 568) (As := []) dX10_init_88 (List.mem_of_getElem? (i := 4) rfl) ok_X0_init rfl rfl im_X0_init (ct_X0_init) rfl rfl (Nat.le_of_ble_eq_true rfl) (by decide) ⟨by omega, by omega⟩ (Nat.le_of_ble_eq_true rfl) (fun r1 f1 g1 a1 q1 n1 hI => ?_)
  obtain ⟨i1, i2, i3, i4, i5, i6⟩ := hI
  rw [i1, i2, i3, i4, i5, i6]
  clear i1 i2 i3 i4 i5 i6 r1 f1 g1 a1 q1 n1
  dsimp only [Option.toList, List.nil_append]
  refine e_putRF dX10_init_91 fl_X10_58 rfl rfl rfl rfl ?_
  refine e_aload_n dX10_init_94 rfl rfl ?_
  refine e_new 7 dX10_init_95 (by decide) cl_X10_62 iz_7 nz_7 df_7 (k2 := 3) (z2 := 560) ⟨by omega, by (show 8 + _ ≤ _; omega)⟩ ?_
  refine e_dup dX10_init_98 rfl ?_
  refine e_callIN (M' := mX7_init) (k' := 3) (z' := 560) (k2 := 0) (z2 := 0) (As := []) dX10_init_99 (List.mem_of_getElem? (i := 5) rfl) ok_X7_init rfl rfl im_X7_init (ct_X7_init) rfl rfl (Nat.le_of_ble_eq_true rfl) (by decide) ⟨by omega, by omega⟩ (Nat.le_of_ble_eq_true rfl) (fun r1 f1 g1 a1 q1 n1 hI => ?_)
  obtain ⟨i1, i2, i3, i4, i5, i6⟩ := hI
  rw [i1, i2, i3, i4, i5, i6]
  clear i1 i2 i3 i4 i5 i6 r1 f1 g1 a1 q1 n1
  dsimp only [Option.toList, List.nil_append]
  refine e_putRF dX10_init_102 fl_X10_65 rfl rfl rfl rfl ?_
  refine e_aload_n dX10_init_105 rfl rfl ?_
  refine e_null dX10_init_106 ?_
  refine e_putN dX10_init_107 fl_X10_69 rfl rfl ?_
  refine e_aload_n dX10_init_110 rfl rfl ?_
  refine e_null dX10_init_111 ?_
  refine e_putN dX10_init_112 fl_X10_72 rfl rfl ?_
  refine e_aload_n dX10_init_115 rfl rfl ?_
  refine e_iconst (v := -1) dX10_init_116 rfl ?_
  refine e_putI dX10_init_117 fl_X10_75 rfl rfl rfl rfl ?_
  refine e_ret none rfl (r_void dX10_init_120 rfl) ?_
  refine ⟨rfl, rfl, ⟨?_, ?_, ?_, ?_, ?_, ?_, ?_, ?_, ?_⟩, ?_, fun a i ha => (zn a ha).2 i, ?_, ?_, ?_, ?_, ?_, ?_⟩
  · refine WL_fr (fun f r h1 h2 => ?_) (fun _ _ _ _ => rfl) hW
    repeat rw [up2_b (lo := 1) (hi := 58) (by decide) ⟨h1, h2⟩]
  · exact ⟨rfl, rfl, rfl, rfl, rfl, rfl⟩
  · exact ⟨rfl, rfl, rfl, rfl, rfl⟩
  · exact ⟨rfl, rfl⟩
  · exact ⟨rfl, rfl, rfl⟩
  · exact ⟨rfl, rfl⟩
  · exact rfl
  · exact ⟨rfl, rfl, rfl⟩
  · exact ⟨rfl, rfl, rfl, rfl, rfl, rfl, rfl, rfl⟩
  · refine KW_fr (by decide) (fun f r h1 h2 => ?_) (fun _ _ _ => rfl) hKW
    repeat rw [up2_b (lo := 1) (hi := 58) (by decide) ⟨h1, h2⟩]
  · intro f r h1 h2
    rw [up2_n _ _ (fun e => by rw [e.2] at h1; exact absurd h1 (by decide)), up2_n _ _ (fun e => h2 e.2)]
    exact ((zn r h1).1 f).1
  · intro f h1
    rw [up2_n _ _ (fun e => absurd e.2 (by decide)), up2_n _ _ (fun e => h1 e.1)]
    exact ((zn _ (by decide)).1 f).1
  · rw [up2_n _ _ (by decide), up2_s]
  · rw [up2_s]
  · rfl
  · rfl
