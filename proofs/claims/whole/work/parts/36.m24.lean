def lokR (w : Nat → Nat) (u t : Nat) (y : Int32) : Int32 := if y.toInt = 0 then nI (w 0) else if y.toInt = 1 then nI (w 1) else if y.toInt = 2 then nI (ubF w 6) else if y.toInt = 3 then nI (w 3) else if y.toInt = 4 then nI (cnt (goB w) (w 3)) else if y.toInt = 5 then nI (rs (fun m => w (7694 + 72 * m + 7)) 0 (w 3)) else if y.toInt = 6 then nI (w 2) else if y.toInt = 7 then nI u else if y.toInt = 8 then nI t else if y.toInt = 9 then nI (rs (viF w) 0 (w 1)) else if y.toInt = 10 then nI (cnt (fzS w) (w 1)) else -1
theorem ct_X11_look {fi : FI} {fr : FR} {ai : FI} {ar : FR} {N : Nat} {w : Nat → Nat} (sm : SM fr) (iv : Inv w) (y0 : Int32) {u t : Nat} (hu : fi (32 * 11 + 4) (rf 11 80) = nI u) (ht : fi (32 * 11 + 10) (rf 11 80) = nI t) : CP mX11_look 5 0 0 [.ref (rf 11 80), .int y0] fi fr (mW ai w) ar N (xQ (some (.int (lokR w u t y0))) fi fr (mW ai w) ar N) := by
  obtain ⟨sW, sA, sK, sU, sC, sKC, sT, sCl⟩ := id sm
  have h1 := iv_n iv
  have h3 := iv_mm iv
  change EV mX11_look 5 0 0 0 [some (.ref (rf 11 80)), some (.int y0)] [] fi fr (mW ai w) ar N (xQ (some (.int (lokR w u t y0))) fi fr (mW ai w) ar N)
  refine e_iload_n dX11_look_0 rfl rfl ?_
  refine e_swc (tgt := 60) 0 dX11_look_1 (by decide) (by decide) rfl (by decide) (fun h1_0 => ?_) (fun h1_0 => ?_)
  · try first | contradiction | omega
    all_goals
      refine e_aload_n dX11_look_60 rfl rfl ?_
      refine e_getR dX11_look_61 fl_X11_7 rfl (by assumption) ?_
      refine e_iconst (v := nI 0) dX11_look_64 rfl ?_
      first | ((with_reducible refine mk_ldw ?_); refine e_ldw dX11_look_65 (by omega) ?_) | refine e_iald _ dX11_look_65 ⟨by decide, by decide⟩ rfl rfl (by simp only [lenK]; omega) ?_
      refine e_ret (some _) rfl (r_int dX11_look_66 rfl) ?_
      refine xq ?_ rfl rfl rfl rfl rfl
      unfold lokR
      grind
  refine e_swc (tgt := 67) 1 dX11_look_1 (by decide) (by decide) rfl (by decide) (fun h1_1 => ?_) (fun h1_1 => ?_)
  · try first | contradiction | omega
    all_goals
      refine e_aload_n dX11_look_67 rfl rfl ?_
      refine e_getR dX11_look_68 fl_X11_7 rfl (by assumption) ?_
      refine e_iconst (v := nI 1) dX11_look_71 rfl ?_
      first | ((with_reducible refine mk_ldw ?_); refine e_ldw dX11_look_72 (by omega) ?_) | refine e_iald _ dX11_look_72 ⟨by decide, by decide⟩ rfl rfl (by simp only [lenK]; omega) ?_
      refine e_ret (some _) rfl (r_int dX11_look_73 rfl) ?_
      refine xq ?_ rfl rfl rfl rfl rfl
      unfold lokR
      grind
  refine e_swc (tgt := 74) 2 dX11_look_1 (by decide) (by decide) rfl (by decide) (fun h1_2 => ?_) (fun h1_2 => ?_)
  · try first | contradiction | omega
    all_goals
      refine e_aload_n dX11_look_74 rfl rfl ?_
      refine x_V0 (M' := mX11_upOnes) dX11_look_75 ml_X11_406 ok_X11_upOnes (by decide) rfl im_X11_upOnes se_X11_upOnes (ct_X11_upOnes ‹_› ‹_›) (Nat.le_of_ble_eq_true rfl) (by decide) (Nat.le_of_ble_eq_true rfl) ?_
      refine e_ret (some _) rfl (r_int dX11_look_78 rfl) ?_
      refine xq ?_ rfl rfl rfl rfl rfl
      unfold lokR
      grind
  refine e_swc (tgt := 79) 3 dX11_look_1 (by decide) (by decide) rfl (by decide) (fun h1_3 => ?_) (fun h1_3 => ?_)
  · try first | contradiction | omega
    all_goals
      refine e_aload_n dX11_look_79 rfl rfl ?_
      refine e_getR dX11_look_80 fl_X11_7 rfl (by assumption) ?_
      refine e_iconst (v := nI 3) dX11_look_83 rfl ?_
      first | ((with_reducible refine mk_ldw ?_); refine e_ldw dX11_look_84 (by omega) ?_) | refine e_iald _ dX11_look_84 ⟨by decide, by decide⟩ rfl rfl (by simp only [lenK]; omega) ?_
      refine e_ret (some _) rfl (r_int dX11_look_85 rfl) ?_
      refine xq ?_ rfl rfl rfl rfl rfl
      unfold lokR
      grind
  refine e_swc (tgt := 86) 4 dX11_look_1 (by decide) (by decide) rfl (by decide) (fun h1_4 => ?_) (fun h1_4 => ?_)
  · try first | contradiction | omega
    all_goals
      refine e_aload_n dX11_look_86 rfl rfl ?_
      refine x_V0 (M' := mX11_going) dX11_look_87 ml_X11_164 ok_X11_going (by decide) rfl im_X11_going se_X11_going (ct_X11_going ‹_› ‹_›) (Nat.le_of_ble_eq_true rfl) (by decide) (Nat.le_of_ble_eq_true rfl) ?_
      refine e_ret (some _) rfl (r_int dX11_look_90 rfl) ?_
      refine xq ?_ rfl rfl rfl rfl rfl
      unfold lokR
      grind
  refine e_swc (tgt := 91) 5 dX11_look_1 (by decide) (by decide) rfl (by decide) (fun h1_5 => ?_) (fun h1_5 => ?_)
  · try first | contradiction | omega
    all_goals
      refine e_aload_n dX11_look_91 rfl rfl ?_
      refine x_V0 (M' := mX11_brokenOnes) dX11_look_92 ml_X11_409 ok_X11_brokenOnes (by decide) rfl im_X11_brokenOnes se_X11_brokenOnes (ct_X11_brokenOnes ‹_› ‹_›) (Nat.le_of_ble_eq_true rfl) (by decide) (Nat.le_of_ble_eq_true rfl) ?_
      refine e_ret (some _) rfl (r_int dX11_look_95 rfl) ?_
      refine xq ?_ rfl rfl rfl rfl rfl
      unfold lokR
      grind
  refine e_swc (tgt := 96) 6 dX11_look_1 (by decide) (by decide) rfl (by decide) (fun h1_6 => ?_) (fun h1_6 => ?_)
  · try first | contradiction | omega
    all_goals
      refine e_aload_n dX11_look_96 rfl rfl ?_
      refine e_getR dX11_look_97 fl_X11_7 rfl (by assumption) ?_
      refine e_iconst (v := nI 2) dX11_look_100 rfl ?_
      first | ((with_reducible refine mk_ldw ?_); refine e_ldw dX11_look_101 (by omega) ?_) | refine e_iald _ dX11_look_101 ⟨by decide, by decide⟩ rfl rfl (by simp only [lenK]; omega) ?_
      refine e_ret (some _) rfl (r_int dX11_look_102 rfl) ?_
      refine xq ?_ rfl rfl rfl rfl rfl
      unfold lokR
      grind
  refine e_swc (tgt := 103) 7 dX11_look_1 (by decide) (by decide) rfl (by decide) (fun h1_7 => ?_) (fun h1_7 => ?_)
  · try first | contradiction | omega
    all_goals
      refine e_aload_n dX11_look_103 rfl rfl ?_
      refine e_getI dX11_look_104 fl_X11_51 rfl ?_
      refine e_ret (some _) rfl (r_int dX11_look_107 rfl) ?_
      refine xq ?_ rfl rfl rfl rfl rfl
      unfold lokR
      grind
  refine e_swc (tgt := 108) 8 dX11_look_1 (by decide) (by decide) rfl (by decide) (fun h1_8 => ?_) (fun h1_8 => ?_)
  · try first | contradiction | omega
    all_goals
      refine e_aload_n dX11_look_108 rfl rfl ?_
      refine e_getI dX11_look_109 fl_X11_217 rfl ?_
      refine e_ret (some _) rfl (r_int dX11_look_112 rfl) ?_
      refine xq ?_ rfl rfl rfl rfl rfl
      unfold lokR
      grind
  refine e_swc (tgt := 113) 9 dX11_look_1 (by decide) (by decide) rfl (by decide) (fun h1_9 => ?_) (fun h1_9 => ?_)
  · try first | contradiction | omega
    all_goals
      refine e_aload_n dX11_look_113 rfl rfl ?_
      refine x_V0 (M' := mX11_owners) dX11_look_114 ml_X11_351 ok_X11_owners (by decide) rfl im_X11_owners se_X11_owners (ct_X11_owners ‹_› ‹_›) (Nat.le_of_ble_eq_true rfl) (by decide) (Nat.le_of_ble_eq_true rfl) ?_
      refine e_ret (some _) rfl (r_int dX11_look_117 rfl) ?_
      refine xq ?_ rfl rfl rfl rfl rfl
      unfold lokR
      grind
  refine e_swc (tgt := 118) 10 dX11_look_1 (by decide) (by decide) rfl (by decide) (fun h1_10 => ?_) (fun h1_10 => ?_)
  · try first | contradiction | omega
    all_goals
      refine e_aload_n dX11_look_118 rfl rfl ?_
      refine x_V0 (M' := mX11_frozenOnes) dX11_look_119 ml_X11_412 ok_X11_frozenOnes (by decide) rfl im_X11_frozenOnes se_X11_frozenOnes (ct_X11_frozenOnes ‹_› ‹_›) (Nat.le_of_ble_eq_true rfl) (by decide) (Nat.le_of_ble_eq_true rfl) ?_
      refine e_ret (some _) rfl (r_int dX11_look_122 rfl) ?_
      refine xq ?_ rfl rfl rfl rfl rfl
      unfold lokR
      grind
  refine e_tableOut (tgt := 123) dX11_look_1 (by omega) (by decide) ?_
  refine e_iconst (v := -1) dX11_look_123 rfl ?_
  refine e_ret (some _) rfl (r_int dX11_look_124 rfl) ?_
  refine xq ?_ rfl rfl rfl rfl rfl
  unfold lokR
  grind
def fltR (a b c : Int32) (y : Int32) : Int32 := if y = 0 then a else if y = 1 then b else if y = 2 then c else -1
theorem ct_X11_fault {fi : FI} {fr : FR} {ai : FI} {ar : FR} {N : Nat} {w : Nat → Nat} (sm : SM fr) (iv : Inv w) (y0 : Int32) : CP mX11_fault 0 0 0 [.ref (rf 11 80), .int y0] fi fr (mW ai w) ar N (xQ (some (.int (fltR (fi (32 * 11 + 12) (rf 11 80)) (fi (32 * 11 + 13) (rf 11 80)) (fi (32 * 11 + 14) (rf 11 80)) y0))) fi fr (mW ai w) ar N) := by
  obtain ⟨sW, sA, sK, sU, sC, sKC, sT, sCl⟩ := id sm
  have h1 := iv_n iv
  have h3 := iv_mm iv
  change EV mX11_fault 0 0 0 0 [some (.ref (rf 11 80)), some (.int y0)] [] fi fr (mW ai w) ar N (xQ (some (.int (fltR (fi (32 * 11 + 12) (rf 11 80)) (fi (32 * 11 + 13) (rf 11 80)) (fi (32 * 11 + 14) (rf 11 80)) y0))) fi fr (mW ai w) ar N)
  have z0 : nI 0 = 0 := rfl
  have z1 : nI 1 = 1 := rfl
  have z2 : nI 2 = 2 := rfl
  refine e_iload_n dX11_fault_0 rfl rfl ?_
  first | ((with_reducible refine mk_b ?_); refine b_if_ne (tgt := 11) dX11_fault_1 (by decide) (fun h1 => ?_) (fun h1 => ?_)) | ((with_reducible refine mk_ll ?_); refine m_if_ne (tgt := 11) dX11_fault_1 (by decide) (by omega) (by omega) (fun h1 => ?_) (fun h1 => ?_)) | ((with_reducible refine mk_lc ?_); refine l_if_ne (tgt := 11) dX11_fault_1 (by decide) (fun h1 => ?_) (fun h1 => ?_)) | ((with_reducible refine mk_n ?_); refine n_if_ne (tgt := 11) dX11_fault_1 (by decide) (by omega) (fun h1 => ?_) (fun h1 => ?_)) | refine e_if_ne (tgt := 11) dX11_fault_1 (by decide) (fun h1 => ?_) (fun h1 => ?_)
  · try first | contradiction | omega | (simp only [decide_eq_true_eq, decide_eq_false_iff_not] at h1; omega)
    all_goals
      refine e_iload_n dX11_fault_11 rfl rfl ?_
      refine e_iconst (v := nI 1) dX11_fault_12 rfl ?_
      first | ((with_reducible refine mk_mo ?_); refine p_icmp_ne (tgt := 23) dX11_fault_13 (by decide) (fun h13 => ?_) (fun h13 => ?_)) | ((with_reducible refine mk_ms ?_); refine s_icmp_ne (tgt := 23) dX11_fault_13 (by decide) (by omega) (fun h13 => ?_) (fun h13 => ?_)) | ((with_reducible refine mk_mn ?_); refine q_icmp_ne (tgt := 23) dX11_fault_13 (by decide) (by omega) (fun h13 => ?_) (fun h13 => ?_)) | ((with_reducible refine mk_nn ?_); refine n_icmp_ne (tgt := 23) dX11_fault_13 (by decide) (by omega) (by omega) (fun h13 => ?_) (fun h13 => ?_)) | refine e_icmp_ne (tgt := 23) dX11_fault_13 (by decide) (fun h13 => ?_) (fun h13 => ?_)
      · try first | contradiction | omega
        all_goals
          refine e_iload_n dX11_fault_23 rfl rfl ?_
          refine e_iconst (v := nI 2) dX11_fault_24 rfl ?_
          first | ((with_reducible refine mk_mo ?_); refine p_icmp_ne (tgt := 35) dX11_fault_25 (by decide) (fun h25 => ?_) (fun h25 => ?_)) | ((with_reducible refine mk_ms ?_); refine s_icmp_ne (tgt := 35) dX11_fault_25 (by decide) (by omega) (fun h25 => ?_) (fun h25 => ?_)) | ((with_reducible refine mk_mn ?_); refine q_icmp_ne (tgt := 35) dX11_fault_25 (by decide) (by omega) (fun h25 => ?_) (fun h25 => ?_)) | ((with_reducible refine mk_nn ?_); refine n_icmp_ne (tgt := 35) dX11_fault_25 (by decide) (by omega) (by omega) (fun h25 => ?_) (fun h25 => ?_)) | refine e_icmp_ne (tgt := 35) dX11_fault_25 (by decide) (fun h25 => ?_) (fun h25 => ?_)
          · try first | contradiction | omega
            all_goals
              refine e_iconst (v := -1) dX11_fault_35 rfl ?_
              refine e_ret (some _) rfl (r_int dX11_fault_36 rfl) ?_
              refine xq ?_ rfl rfl rfl rfl rfl
              unfold fltR
              grind
          · try first | contradiction | omega
            all_goals
              refine e_aload_n dX11_fault_28 rfl rfl ?_
              refine e_getI dX11_fault_29 fl_X11_37 rfl ?_
              refine e_goto (tgt := 36) dX11_fault_32 (by decide) ?_
              refine e_ret (some _) rfl (r_int dX11_fault_36 rfl) ?_
              refine xq ?_ rfl rfl rfl rfl rfl
              unfold fltR
              grind
      · try first | contradiction | omega
        all_goals
          refine e_aload_n dX11_fault_16 rfl rfl ?_
          refine e_getI dX11_fault_17 fl_X11_33 rfl ?_
          refine e_goto (tgt := 36) dX11_fault_20 (by decide) ?_
          refine e_ret (some _) rfl (r_int dX11_fault_36 rfl) ?_
          refine xq ?_ rfl rfl rfl rfl rfl
          unfold fltR
          grind
  · try first | contradiction | omega | (simp only [decide_eq_true_eq, decide_eq_false_iff_not] at h1; omega)
    all_goals
      refine e_aload_n dX11_fault_4 rfl rfl ?_
      refine e_getI dX11_fault_5 fl_X11_226 rfl ?_
      refine e_goto (tgt := 36) dX11_fault_8 (by decide) ?_
      refine e_ret (some _) rfl (r_int dX11_fault_36 rfl) ?_
      refine xq ?_ rfl rfl rfl rfl rfl
      unfold fltR
      grind
theorem ct_X11_end {fi : FI} {fr : FR} {ai : FI} {ar : FR} {N : Nat} {w : Nat → Nat} (sm : SM fr) (iv : Inv w) (y0 : Int32) {t : Nat} (ht : fi (32 * 11 + 10) (rf 11 80) = nI t) (ht2 : t ≤ 400) : CP mX11_end 1 0 0 [.ref (rf 11 80), .int y0] fi fr (mW ai w) ar N (xQ (some (.int (bI (inR y0 (t + 1))))) (if inR y0 (t + 1) then up2 fi (32 * 11 + 10) (rf 11 80) y0 else fi) fr (mW ai w) ar N) := by
  obtain ⟨sW, sA, sK, sU, sC, sKC, sT, sCl⟩ := id sm
  have h1 := iv_n iv
  have h3 := iv_mm iv
  change EV mX11_end 1 0 0 0 [some (.ref (rf 11 80)), some (.int y0)] [] fi fr (mW ai w) ar N (xQ (some (.int (bI (inR y0 (t + 1))))) (if inR y0 (t + 1) then up2 fi (32 * 11 + 10) (rf 11 80) y0 else fi) fr (mW ai w) ar N)
  cases hx : inR y0 (t + 1) with
  | false =>
    have hx2 := inR_f hx
    refine e_iload_n dX11_end_0 rfl rfl ?_
    first | ((with_reducible refine mk_n ?_); refine n_i2l dX11_end_1 (by omega) ?_) | refine e_i2l dX11_end_1 ?_
    refine e_lconst (v := lN 0) dX11_end_2 rfl ?_
    refine e_aload_n dX11_end_3 rfl rfl ?_
    refine e_getI dX11_end_4 fl_X11_217 rfl ?_
    rw [ht]
    first | ((with_reducible refine mk_n ?_); refine n_i2l dX11_end_7 (by omega) ?_) | refine e_i2l dX11_end_7 ?_
    refine x_S3 (M' := mX11_isIn) dX11_end_8 ml_X11_45 ok_X11_isIn rfl sc_X11_isIn (by first | ((with_reducible refine ct_isInN ?_ ?_ ?_) <;> omega) | ((with_reducible refine ct_isInX ?_ ?_) <;> omega) | exact ct_X11_isIn _ _ _) (Nat.le_of_ble_eq_true rfl) (by decide) (Nat.le_of_ble_eq_true rfl) ?_
    first | ((with_reducible refine mk_b ?_); refine b_if_ne (tgt := 16) dX11_end_11 (by decide) (fun h11 => ?_) (fun h11 => ?_)) | ((with_reducible refine mk_ll ?_); refine m_if_ne (tgt := 16) dX11_end_11 (by decide) (by omega) (by omega) (fun h11 => ?_) (fun h11 => ?_)) | ((with_reducible refine mk_lc ?_); refine l_if_ne (tgt := 16) dX11_end_11 (by decide) (fun h11 => ?_) (fun h11 => ?_)) | ((with_reducible refine mk_n ?_); refine n_if_ne (tgt := 16) dX11_end_11 (by decide) (by omega) (fun h11 => ?_) (fun h11 => ?_)) | refine e_if_ne (tgt := 16) dX11_end_11 (by decide) (fun h11 => ?_) (fun h11 => ?_)
    · try first | contradiction | omega | (simp only [decide_eq_true_eq, decide_eq_false_iff_not] at h11; omega)
      all_goals
        omega
    · try first | contradiction | omega | (simp only [decide_eq_true_eq, decide_eq_false_iff_not] at h11; omega)
      all_goals
        refine e_iconst (v := nI 0) dX11_end_14 rfl ?_
        first | ((with_reducible refine mk_b ?_); refine e_ret (some _) rfl (r_bool dX11_end_15 rfl) ?_) | ((with_reducible refine mk_n1 ?_); refine e_ret (some _) rfl (r_b1 dX11_end_15 rfl) ?_) | ((with_reducible refine mk_n0 ?_); refine e_ret (some _) rfl (r_b0 dX11_end_15 rfl) ?_)
        exact xq rfl rfl rfl rfl rfl rfl
  | true =>
    obtain ⟨a, ha, ha2, rfl⟩ := inR_ex hx
    have e2 := nI_toInt (b31 ha2)
    refine e_iload_n dX11_end_0 rfl rfl ?_
    first | ((with_reducible refine mk_n ?_); refine n_i2l dX11_end_1 (by omega) ?_) | refine e_i2l dX11_end_1 ?_
    refine e_lconst (v := lN 0) dX11_end_2 rfl ?_
    refine e_aload_n dX11_end_3 rfl rfl ?_
    refine e_getI dX11_end_4 fl_X11_217 rfl ?_
    rw [ht]
    first | ((with_reducible refine mk_n ?_); refine n_i2l dX11_end_7 (by omega) ?_) | refine e_i2l dX11_end_7 ?_
    refine x_S3 (M' := mX11_isIn) dX11_end_8 ml_X11_45 ok_X11_isIn rfl sc_X11_isIn (by first | ((with_reducible refine ct_isInN ?_ ?_ ?_) <;> omega) | ((with_reducible refine ct_isInX ?_ ?_) <;> omega) | exact ct_X11_isIn _ _ _) (Nat.le_of_ble_eq_true rfl) (by decide) (Nat.le_of_ble_eq_true rfl) ?_
    first | ((with_reducible refine mk_b ?_); refine b_if_ne (tgt := 16) dX11_end_11 (by decide) (fun h11 => ?_) (fun h11 => ?_)) | ((with_reducible refine mk_ll ?_); refine m_if_ne (tgt := 16) dX11_end_11 (by decide) (by omega) (by omega) (fun h11 => ?_) (fun h11 => ?_)) | ((with_reducible refine mk_lc ?_); refine l_if_ne (tgt := 16) dX11_end_11 (by decide) (fun h11 => ?_) (fun h11 => ?_)) | ((with_reducible refine mk_n ?_); refine n_if_ne (tgt := 16) dX11_end_11 (by decide) (by omega) (fun h11 => ?_) (fun h11 => ?_)) | refine e_if_ne (tgt := 16) dX11_end_11 (by decide) (fun h11 => ?_) (fun h11 => ?_)
    · try first | contradiction | omega | (simp only [decide_eq_true_eq, decide_eq_false_iff_not] at h11; omega)
      all_goals
        refine e_aload_n dX11_end_16 rfl rfl ?_
        refine e_iload_n dX11_end_17 rfl rfl ?_
        refine e_putI dX11_end_18 fl_X11_217 rfl rfl rfl rfl ?_
        refine e_iconst (v := nI 1) dX11_end_21 rfl ?_
        first | ((with_reducible refine mk_b ?_); refine e_ret (some _) rfl (r_bool dX11_end_22 rfl) ?_) | ((with_reducible refine mk_n1 ?_); refine e_ret (some _) rfl (r_b1 dX11_end_22 rfl) ?_) | ((with_reducible refine mk_n0 ?_); refine e_ret (some _) rfl (r_b0 dX11_end_22 rfl) ?_)
        exact xq rfl rfl rfl rfl rfl rfl
    · try first | contradiction | omega | (simp only [decide_eq_true_eq, decide_eq_false_iff_not] at h11; omega)
      all_goals
        omega
def chgR (w : Nat → Nat) (ch : Nat → Int32) (x y : Int32) : Int32 := if 1 ≤ x.toInt ∧ x.toInt ≤ w 0 ∧ inR y 3 then (if x.toInt = 1 then (if y.toInt = 0 then 0 else -1) else ch (3 * x.toNatClampNeg + y.toNatClampNeg)) else -1
theorem ct_X11_changeOf {fi : FI} {fr : FR} {ai : FI} {ar : FR} {N : Nat} {w : Nat → Nat} (sm : SM fr) (iv : Inv w) (y0 y1 : Int32) : CP mX11_changeOf 1 0 0 [.ref (rf 11 80), .int y0, .int y1] fi fr (mW ai w) ar N (xQ (some (.int (chgR w (ai (rf 34 85)) y0 y1))) fi fr (mW ai w) ar N) := by
  obtain ⟨sW, sA, sK, sU, sC, sKC, sT, sCl⟩ := id sm
  have h1 := iv_n iv
  have h3 := iv_mm iv
  have he0 := iv_ep0 iv
  change EV mX11_changeOf 1 0 0 0 [some (.ref (rf 11 80)), some (.int y0), some (.int y1)] [] fi fr (mW ai w) ar N (xQ (some (.int (chgR w (ai (rf 34 85)) y0 y1))) fi fr (mW ai w) ar N)
  by_cases hx : 1 ≤ y0.toInt ∧ y0.toInt ≤ w 0
  · obtain ⟨a, ha, rfl, hai, hac⟩ := int_ex (x := y0) (by omega)
    cases hy : inR y1 3 with
    | false =>
      have hy2 := inR_f hy
      have e1 : chgR w (ai (rf 34 85)) (nI a) y1 = -1 := by unfold chgR; rw [if_neg (by rw [hy]; simp)]
      rw [e1]
      refine e_iload_n dX11_changeOf_0 rfl rfl ?_
      first | ((with_reducible refine mk_n ?_); refine n_i2l dX11_changeOf_1 (by omega) ?_) | refine e_i2l dX11_changeOf_1 ?_
      refine e_lconst (v := lN 1) dX11_changeOf_2 rfl ?_
      refine e_aload_n dX11_changeOf_3 rfl rfl ?_
      refine e_getR dX11_changeOf_4 fl_X11_7 rfl (by assumption) ?_
      refine e_iconst (v := nI 0) dX11_changeOf_7 rfl ?_
      first | ((with_reducible refine mk_ldw ?_); refine e_ldw dX11_changeOf_8 (by omega) ?_) | refine e_iald _ dX11_changeOf_8 ⟨by decide, by decide⟩ rfl rfl (by simp only [lenK]; omega) ?_
      first | ((with_reducible refine mk_n ?_); refine n_i2l dX11_changeOf_9 (by omega) ?_) | refine e_i2l dX11_changeOf_9 ?_
      refine x_S3 (M' := mX11_isIn) dX11_changeOf_10 ml_X11_45 ok_X11_isIn rfl sc_X11_isIn (by first | ((with_reducible refine ct_isInN ?_ ?_ ?_) <;> omega) | ((with_reducible refine ct_isInX ?_ ?_) <;> omega) | exact ct_X11_isIn _ _ _) (Nat.le_of_ble_eq_true rfl) (by decide) (Nat.le_of_ble_eq_true rfl) ?_
      first | ((with_reducible refine mk_b ?_); refine b_if_eq (tgt := 35) dX11_changeOf_13 (by decide) (fun h13 => ?_) (fun h13 => ?_)) | ((with_reducible refine mk_ll ?_); refine m_if_eq (tgt := 35) dX11_changeOf_13 (by decide) (by omega) (by omega) (fun h13 => ?_) (fun h13 => ?_)) | ((with_reducible refine mk_lc ?_); refine l_if_eq (tgt := 35) dX11_changeOf_13 (by decide) (fun h13 => ?_) (fun h13 => ?_)) | ((with_reducible refine mk_n ?_); refine n_if_eq (tgt := 35) dX11_changeOf_13 (by decide) (by omega) (fun h13 => ?_) (fun h13 => ?_)) | refine e_if_eq (tgt := 35) dX11_changeOf_13 (by decide) (fun h13 => ?_) (fun h13 => ?_)
      · try first | contradiction | omega | (simp only [decide_eq_true_eq, decide_eq_false_iff_not] at h13; omega)
        all_goals
          refine e_iconst (v := -1) dX11_changeOf_35 rfl ?_
          refine e_ret (some _) rfl (r_int dX11_changeOf_36 rfl) ?_
          exact xq rfl rfl rfl rfl rfl rfl
      · try first | contradiction | omega | (simp only [decide_eq_true_eq, decide_eq_false_iff_not] at h13; omega)
        all_goals
          refine e_iload_n dX11_changeOf_16 rfl rfl ?_
          refine e_sipush (v := nI 4000) dX11_changeOf_17 rfl ?_
          first | ((with_reducible refine mk_nn ?_); refine n_icmp_ge (tgt := 35) dX11_changeOf_20 (by decide) (by omega) (by omega) (fun h20 => ?_) (fun h20 => ?_)) | refine e_icmp_ge (tgt := 35) dX11_changeOf_20 (by decide) (fun h20 => ?_) (fun h20 => ?_)
          · try first | contradiction | omega
            all_goals
              refine e_iconst (v := -1) dX11_changeOf_35 rfl ?_
              refine e_ret (some _) rfl (r_int dX11_changeOf_36 rfl) ?_
              exact xq rfl rfl rfl rfl rfl rfl
          · try first | contradiction | omega
            all_goals
              refine e_iload_n dX11_changeOf_23 rfl rfl ?_
              first | ((with_reducible refine mk_n ?_); refine n_i2l dX11_changeOf_24 (by omega) ?_) | refine e_i2l dX11_changeOf_24 ?_
              refine e_lconst (v := lN 0) dX11_changeOf_25 rfl ?_
              refine e_ldc2 dX11_changeOf_26 co_X11_77 ?_
              refine x_S3 (M' := mX11_isIn) dX11_changeOf_29 ml_X11_45 ok_X11_isIn rfl sc_X11_isIn (by first | ((with_reducible refine ct_isInN ?_ ?_ ?_) <;> omega) | ((with_reducible refine ct_isInX ?_ ?_) <;> omega) | exact ct_X11_isIn _ _ _) (Nat.le_of_ble_eq_true rfl) (by decide) (Nat.le_of_ble_eq_true rfl) ?_
              first | ((with_reducible refine mk_b ?_); refine b_if_ne (tgt := 37) dX11_changeOf_32 (by decide) (fun h32 => ?_) (fun h32 => ?_)) | ((with_reducible refine mk_ll ?_); refine m_if_ne (tgt := 37) dX11_changeOf_32 (by decide) (by omega) (by omega) (fun h32 => ?_) (fun h32 => ?_)) | ((with_reducible refine mk_lc ?_); refine l_if_ne (tgt := 37) dX11_changeOf_32 (by decide) (fun h32 => ?_) (fun h32 => ?_)) | ((with_reducible refine mk_n ?_); refine n_if_ne (tgt := 37) dX11_changeOf_32 (by decide) (by omega) (fun h32 => ?_) (fun h32 => ?_)) | refine e_if_ne (tgt := 37) dX11_changeOf_32 (by decide) (fun h32 => ?_) (fun h32 => ?_)
              · try first | contradiction | omega | (simp only [decide_eq_true_eq, decide_eq_false_iff_not] at h32; omega)
                all_goals
                  omega
              · try first | contradiction | omega | (simp only [decide_eq_true_eq, decide_eq_false_iff_not] at h32; omega)
                all_goals
                  refine e_iconst (v := -1) dX11_changeOf_35 rfl ?_
                  refine e_ret (some _) rfl (r_int dX11_changeOf_36 rfl) ?_
                  exact xq rfl rfl rfl rfl rfl rfl
    | true =>
      obtain ⟨b, hb, hb2, rfl⟩ := inR_ex hy
      have hbc : (nI b).toNatClampNeg = b := nI_clamp hb2
      have hbi := nI_toInt (b31 hb2)
      have e1 : chgR w (ai (rf 34 85)) (nI a) (nI b) = if a = 1 then (if b = 0 then 0 else -1) else ai (rf 34 85) (3 * a + b) := by
        unfold chgR
        rw [if_pos ⟨hx.1, hx.2, hy⟩, hac, hbc, hai, hbi]
        simp only [Int.natCast_eq_zero]
        congr 1
        exact propext (by omega)
      rw [e1]
      refine e_iload_n dX11_changeOf_0 rfl rfl ?_
      first | ((with_reducible refine mk_n ?_); refine n_i2l dX11_changeOf_1 (by omega) ?_) | refine e_i2l dX11_changeOf_1 ?_
      refine e_lconst (v := lN 1) dX11_changeOf_2 rfl ?_
      refine e_aload_n dX11_changeOf_3 rfl rfl ?_
      refine e_getR dX11_changeOf_4 fl_X11_7 rfl (by assumption) ?_
      refine e_iconst (v := nI 0) dX11_changeOf_7 rfl ?_
      first | ((with_reducible refine mk_ldw ?_); refine e_ldw dX11_changeOf_8 (by omega) ?_) | refine e_iald _ dX11_changeOf_8 ⟨by decide, by decide⟩ rfl rfl (by simp only [lenK]; omega) ?_
      first | ((with_reducible refine mk_n ?_); refine n_i2l dX11_changeOf_9 (by omega) ?_) | refine e_i2l dX11_changeOf_9 ?_
      refine x_S3 (M' := mX11_isIn) dX11_changeOf_10 ml_X11_45 ok_X11_isIn rfl sc_X11_isIn (by first | ((with_reducible refine ct_isInN ?_ ?_ ?_) <;> omega) | ((with_reducible refine ct_isInX ?_ ?_) <;> omega) | exact ct_X11_isIn _ _ _) (Nat.le_of_ble_eq_true rfl) (by decide) (Nat.le_of_ble_eq_true rfl) ?_
      first | ((with_reducible refine mk_b ?_); refine b_if_eq (tgt := 35) dX11_changeOf_13 (by decide) (fun h13 => ?_) (fun h13 => ?_)) | ((with_reducible refine mk_ll ?_); refine m_if_eq (tgt := 35) dX11_changeOf_13 (by decide) (by omega) (by omega) (fun h13 => ?_) (fun h13 => ?_)) | ((with_reducible refine mk_lc ?_); refine l_if_eq (tgt := 35) dX11_changeOf_13 (by decide) (fun h13 => ?_) (fun h13 => ?_)) | ((with_reducible refine mk_n ?_); refine n_if_eq (tgt := 35) dX11_changeOf_13 (by decide) (by omega) (fun h13 => ?_) (fun h13 => ?_)) | refine e_if_eq (tgt := 35) dX11_changeOf_13 (by decide) (fun h13 => ?_) (fun h13 => ?_)
      · try first | contradiction | omega | (simp only [decide_eq_true_eq, decide_eq_false_iff_not] at h13; omega)
        all_goals
          omega
      · try first | contradiction | omega | (simp only [decide_eq_true_eq, decide_eq_false_iff_not] at h13; omega)
        all_goals
          refine e_iload_n dX11_changeOf_16 rfl rfl ?_
          refine e_sipush (v := nI 4000) dX11_changeOf_17 rfl ?_
          first | ((with_reducible refine mk_nn ?_); refine n_icmp_ge (tgt := 35) dX11_changeOf_20 (by decide) (by omega) (by omega) (fun h20 => ?_) (fun h20 => ?_)) | refine e_icmp_ge (tgt := 35) dX11_changeOf_20 (by decide) (fun h20 => ?_) (fun h20 => ?_)
          · try first | contradiction | omega
            all_goals
              omega
          · try first | contradiction | omega
            all_goals
              refine e_iload_n dX11_changeOf_23 rfl rfl ?_
              first | ((with_reducible refine mk_n ?_); refine n_i2l dX11_changeOf_24 (by omega) ?_) | refine e_i2l dX11_changeOf_24 ?_
              refine e_lconst (v := lN 0) dX11_changeOf_25 rfl ?_
              refine e_ldc2 dX11_changeOf_26 co_X11_77 ?_
              refine x_S3 (M' := mX11_isIn) dX11_changeOf_29 ml_X11_45 ok_X11_isIn rfl sc_X11_isIn (by first | ((with_reducible refine ct_isInN ?_ ?_ ?_) <;> omega) | ((with_reducible refine ct_isInX ?_ ?_) <;> omega) | exact ct_X11_isIn _ _ _) (Nat.le_of_ble_eq_true rfl) (by decide) (Nat.le_of_ble_eq_true rfl) ?_
              first | ((with_reducible refine mk_b ?_); refine b_if_ne (tgt := 37) dX11_changeOf_32 (by decide) (fun h32 => ?_) (fun h32 => ?_)) | ((with_reducible refine mk_ll ?_); refine m_if_ne (tgt := 37) dX11_changeOf_32 (by decide) (by omega) (by omega) (fun h32 => ?_) (fun h32 => ?_)) | ((with_reducible refine mk_lc ?_); refine l_if_ne (tgt := 37) dX11_changeOf_32 (by decide) (fun h32 => ?_) (fun h32 => ?_)) | ((with_reducible refine mk_n ?_); refine n_if_ne (tgt := 37) dX11_changeOf_32 (by decide) (by omega) (fun h32 => ?_) (fun h32 => ?_)) | refine e_if_ne (tgt := 37) dX11_changeOf_32 (by decide) (fun h32 => ?_) (fun h32 => ?_)
              · try first | contradiction | omega | (simp only [decide_eq_true_eq, decide_eq_false_iff_not] at h32; omega)
                all_goals
                  refine e_iload_n dX11_changeOf_37 rfl rfl ?_
                  refine e_iconst (v := nI 1) dX11_changeOf_38 rfl ?_
                  first | ((with_reducible refine mk_mo ?_); refine p_icmp_ne (tgt := 54) dX11_changeOf_39 (by decide) (fun h39 => ?_) (fun h39 => ?_)) | ((with_reducible refine mk_ms ?_); refine s_icmp_ne (tgt := 54) dX11_changeOf_39 (by decide) (by omega) (fun h39 => ?_) (fun h39 => ?_)) | ((with_reducible refine mk_mn ?_); refine q_icmp_ne (tgt := 54) dX11_changeOf_39 (by decide) (by omega) (fun h39 => ?_) (fun h39 => ?_)) | ((with_reducible refine mk_nn ?_); refine n_icmp_ne (tgt := 54) dX11_changeOf_39 (by decide) (by omega) (by omega) (fun h39 => ?_) (fun h39 => ?_)) | refine e_icmp_ne (tgt := 54) dX11_changeOf_39 (by decide) (fun h39 => ?_) (fun h39 => ?_)
                  · try first | contradiction | omega
                    all_goals
                      refine e_aload_n dX11_changeOf_54 rfl rfl ?_
                      refine e_getR dX11_changeOf_55 fl_X11_23 rfl (by assumption) ?_
                      refine e_iconst (v := nI 3) dX11_changeOf_58 rfl ?_
                      refine e_iload_n dX11_changeOf_59 rfl rfl ?_
                      first | ((with_reducible refine mk_nn ?_); refine n_imul dX11_changeOf_60 ?_) | refine e_imul dX11_changeOf_60 ?_
                      refine e_iload_n dX11_changeOf_61 rfl rfl ?_
                      first | ((with_reducible refine mk_nn ?_); refine n_iadd dX11_changeOf_62 ?_) | refine e_iadd dX11_changeOf_62 ?_
                      first | ((with_reducible refine mk_ldw ?_); refine e_ldw dX11_changeOf_63 (by omega) ?_) | refine e_iald _ dX11_changeOf_63 ⟨by decide, by decide⟩ rfl rfl (by simp only [lenK]; omega) ?_
                      refine e_ret (some _) rfl (r_int dX11_changeOf_64 rfl) ?_
                      refine xq ?_ rfl rfl rfl rfl rfl
                      first | rw [if_neg (by omega)]; rw [mW_o (by decide)] | rw [if_pos (by omega), if_pos (by omega)]; rfl | rw [if_pos (by omega), if_neg (by omega)]
                  · try first | contradiction | omega
                    all_goals
                      refine e_iload_n dX11_changeOf_42 rfl rfl ?_
                      first | ((with_reducible refine mk_b ?_); refine b_if_ne (tgt := 50) dX11_changeOf_43 (by decide) (fun h43 => ?_) (fun h43 => ?_)) | ((with_reducible refine mk_ll ?_); refine m_if_ne (tgt := 50) dX11_changeOf_43 (by decide) (by omega) (by omega) (fun h43 => ?_) (fun h43 => ?_)) | ((with_reducible refine mk_lc ?_); refine l_if_ne (tgt := 50) dX11_changeOf_43 (by decide) (fun h43 => ?_) (fun h43 => ?_)) | ((with_reducible refine mk_n ?_); refine n_if_ne (tgt := 50) dX11_changeOf_43 (by decide) (by omega) (fun h43 => ?_) (fun h43 => ?_)) | refine e_if_ne (tgt := 50) dX11_changeOf_43 (by decide) (fun h43 => ?_) (fun h43 => ?_)
                      · try first | contradiction | omega | (simp only [decide_eq_true_eq, decide_eq_false_iff_not] at h43; omega)
                        all_goals
                          refine e_iconst (v := -1) dX11_changeOf_50 rfl ?_
                          refine e_goto (tgt := 64) dX11_changeOf_51 (by decide) ?_
                          refine e_ret (some _) rfl (r_int dX11_changeOf_64 rfl) ?_
                          refine xq ?_ rfl rfl rfl rfl rfl
                          first | rw [if_neg (by omega)]; rw [mW_o (by decide)] | rw [if_pos (by omega), if_pos (by omega)]; rfl | rw [if_pos (by omega), if_neg (by omega)]
                      · try first | contradiction | omega | (simp only [decide_eq_true_eq, decide_eq_false_iff_not] at h43; omega)
                        all_goals
                          refine e_iconst (v := nI 0) dX11_changeOf_46 rfl ?_
                          refine e_goto (tgt := 64) dX11_changeOf_47 (by decide) ?_
                          refine e_ret (some _) rfl (r_int dX11_changeOf_64 rfl) ?_
                          refine xq ?_ rfl rfl rfl rfl rfl
                          first | rw [if_neg (by omega)]; rw [mW_o (by decide)] | rw [if_pos (by omega), if_pos (by omega)]; rfl | rw [if_pos (by omega), if_neg (by omega)]
              · try first | contradiction | omega | (simp only [decide_eq_true_eq, decide_eq_false_iff_not] at h32; omega)
                all_goals
                  omega
  · have e1 : chgR w (ai (rf 34 85)) y0 y1 = -1 := by unfold chgR; rw [if_neg (by omega)]
    rw [e1]
    refine e_iload_n dX11_changeOf_0 rfl rfl ?_
    first | ((with_reducible refine mk_n ?_); refine n_i2l dX11_changeOf_1 (by omega) ?_) | refine e_i2l dX11_changeOf_1 ?_
    refine e_lconst (v := lN 1) dX11_changeOf_2 rfl ?_
    refine e_aload_n dX11_changeOf_3 rfl rfl ?_
    refine e_getR dX11_changeOf_4 fl_X11_7 rfl (by assumption) ?_
    refine e_iconst (v := nI 0) dX11_changeOf_7 rfl ?_
    first | ((with_reducible refine mk_ldw ?_); refine e_ldw dX11_changeOf_8 (by omega) ?_) | refine e_iald _ dX11_changeOf_8 ⟨by decide, by decide⟩ rfl rfl (by simp only [lenK]; omega) ?_
    first | ((with_reducible refine mk_n ?_); refine n_i2l dX11_changeOf_9 (by omega) ?_) | refine e_i2l dX11_changeOf_9 ?_
    refine x_S3 (M' := mX11_isIn) dX11_changeOf_10 ml_X11_45 ok_X11_isIn rfl sc_X11_isIn (by first | ((with_reducible refine ct_isInN ?_ ?_ ?_) <;> omega) | ((with_reducible refine ct_isInX ?_ ?_) <;> omega) | exact ct_X11_isIn _ _ _) (Nat.le_of_ble_eq_true rfl) (by decide) (Nat.le_of_ble_eq_true rfl) ?_
    first | ((with_reducible refine mk_b ?_); refine b_if_eq (tgt := 35) dX11_changeOf_13 (by decide) (fun h13 => ?_) (fun h13 => ?_)) | ((with_reducible refine mk_ll ?_); refine m_if_eq (tgt := 35) dX11_changeOf_13 (by decide) (by omega) (by omega) (fun h13 => ?_) (fun h13 => ?_)) | ((with_reducible refine mk_lc ?_); refine l_if_eq (tgt := 35) dX11_changeOf_13 (by decide) (fun h13 => ?_) (fun h13 => ?_)) | ((with_reducible refine mk_n ?_); refine n_if_eq (tgt := 35) dX11_changeOf_13 (by decide) (by omega) (fun h13 => ?_) (fun h13 => ?_)) | refine e_if_eq (tgt := 35) dX11_changeOf_13 (by decide) (fun h13 => ?_) (fun h13 => ?_)
    · try first | contradiction | omega | (simp only [decide_eq_true_eq, decide_eq_false_iff_not] at h13; omega)
      all_goals
        refine e_iconst (v := -1) dX11_changeOf_35 rfl ?_
        refine e_ret (some _) rfl (r_int dX11_changeOf_36 rfl) ?_
        exact xq rfl rfl rfl rfl rfl rfl
    · try first | contradiction | omega | (simp only [decide_eq_true_eq, decide_eq_false_iff_not] at h13; omega)
      all_goals
        omega
