def loF (w : Nat → Nat) (a j : Nat) : Nat → Nat := fun q => if a ≤ q ∧ q < a + j then 0 else w q
theorem loF_0 (w : Nat → Nat) (a : Nat) : loF w a 0 = w := by
  funext q
  exact if_neg (by omega)
theorem loF_s (w : Nat → Nat) (a j : Nat) : upN (loF w a j) (a + j) 0 = loF w a (j + 1) := by
  funext q
  unfold upN loF
  repeat' split
  all_goals first | rfl | omega
theorem loF_fr {w : Nat → Nat} {a j q : Nat} (h : q < a ∨ a + j ≤ q) : loF w a j q = w q := if_neg (by omega)
def losW (w : Nat → Nat) (m s : Nat) : Nat → Nat := loF w (1106 + 1000 * s + w (7694 + 72 * m + 1)) (w (7694 + 72 * m + 2) - w (7694 + 72 * m + 1))
def endB (w : Nat → Nat) (m : Nat) : Bool := decide (w (7694 + 72 * m + 0) ≤ 3)
def endS (w : Nat → Nat) (m : Nat) : Nat := if w (7694 + 72 * m + 0) ≤ 3 then 6 else 5
def endW (w : Nat → Nat) (m : Nat) : Nat → Nat := upN (upN (upN (losW w m (if w (7694 + 72 * m + 0) ≤ 3 then w (7694 + 72 * m + 4) else w (7694 + 72 * m + 3))) (7694 + 72 * m + 0) (endS w m)) (7694 + 72 * m + 7) 0) (8558 + (if w (7694 + 72 * m + 0) ≤ 3 then 10 else 9)) (w (8558 + (if w (7694 + 72 * m + 0) ≤ 3 then 10 else 9)) + 1)
theorem ct_X11_loses {fi : FI} {fr : FR} {ai : FI} {ar : FR} {N : Nat} {w : Nat → Nat} (sm : SM fr) (iv : Inv w) {m s : Nat} (hm : m < w 3) (hs : s < 6) : CP mX11_loses 1 0 0 [.ref (rf 11 80), .int (nI (7694 + 72 * m)), .int (nI s)] fi fr (mW ai w) ar N (xQ none fi fr (mW ai (losW w m s)) ar N) := by
  obtain ⟨sW, sA0, sK, sU, sC, sKC, sT, sCl⟩ := id sm
  have hq := iv_mv iv hm
  have h3 := iv_mm iv
  change EV mX11_loses 1 0 0 0 [some (.ref (rf 11 80)), some (.int (nI (7694 + 72 * m))), some (.int (nI s)), none] [] fi fr (mW ai w) ar N (xQ none fi fr (mW ai (losW w m s)) ar N)
  have key := ev_up (P := fun j => EV mX11_loses 1 0 0 9 [some (.ref (rf 11 80)), some (.int (nI (7694 + 72 * m))), some (.int (nI s)), some (.int (nI (w (7694 + 72 * m + 1) + j)))] [] fi fr (mW ai (loF w (1106 + 1000 * s + w (7694 + 72 * m + 1)) j)) ar N (xQ none fi fr (mW ai (losW w m s)) ar N)) (w (7694 + 72 * m + 2) - w (7694 + 72 * m + 1)) (fun j hj ih => by
    have r2 : loF w (1106 + 1000 * s + w (7694 + 72 * m + 1)) j (7694 + 72 * m + 2) = w (7694 + 72 * m + 2) := loF_fr (by omega)
    refine e_iload_n dX11_loses_9 rfl rfl ?_
    refine e_aload_n dX11_loses_10 rfl rfl ?_
    refine e_getR dX11_loses_11 fl_X11_7 rfl (by assumption) ?_
    refine e_iload_n dX11_loses_14 rfl rfl ?_
    refine e_iconst (v := nI 2) dX11_loses_15 rfl ?_
    first | ((with_reducible refine mk_nn ?_); refine n_iadd dX11_loses_16 ?_) | refine e_iadd dX11_loses_16 ?_
    first | ((with_reducible refine mk_ldw ?_); refine e_ldw dX11_loses_17 (by omega) ?_) | refine e_iald _ dX11_loses_17 ⟨by decide, by decide⟩ rfl rfl (by simp only [lenK]; omega) ?_
    rw [r2]
    first | ((with_reducible refine mk_nn ?_); refine n_icmp_ge (tgt := 38) dX11_loses_18 (by decide) (by omega) (by omega) (fun h18 => ?_) (fun h18 => ?_)) | refine e_icmp_ge (tgt := 38) dX11_loses_18 (by decide) (fun h18 => ?_) (fun h18 => ?_)
    · try first | contradiction | omega
      all_goals
        refine e_ret none rfl (r_void dX11_loses_38 rfl) ?_
        exact xq (by first | rfl | simp_all [bI_t, bI_f]) rfl rfl rfl rfl rfl
    · try first | contradiction | omega
      all_goals
        refine e_aload_n dX11_loses_21 rfl rfl ?_
        refine e_getR dX11_loses_22 fl_X11_7 rfl (by assumption) ?_
        refine e_iload_n dX11_loses_25 rfl rfl ?_
        refine e_iload_n dX11_loses_26 rfl rfl ?_
        refine x_S2 (M' := mX11_storeAt) dX11_loses_27 ml_X11_136 ok_X11_storeAt rfl sc_X11_storeAt (ct_X11_storeAt) (Nat.le_of_ble_eq_true rfl) (by decide) (Nat.le_of_ble_eq_true rfl) ?_
        refine e_iconst (v := nI 0) dX11_loses_30 rfl ?_
        first | ((with_reducible refine mk_stw ?_); refine e_stw dX11_loses_31 (by omega) ?_) | refine e_iast _ dX11_loses_31 ⟨by decide, by decide⟩ rfl rfl (by simp only [lenK]; omega) ?_
        first | refine n_inc dX11_loses_32 rfl (Nat.le_of_ble_eq_true rfl) rfl ?_ | refine e_iinc dX11_loses_32 rfl rfl (Nat.le_of_ble_eq_true rfl) rfl ?_
        refine e_goto (tgt := 9) dX11_loses_35 (by decide) ?_
        rw [← Nat.add_assoc, loF_s]
        exact ih
    ) (by
    have r2 : loF w (1106 + 1000 * s + w (7694 + 72 * m + 1)) (w (7694 + 72 * m + 2) - w (7694 + 72 * m + 1)) (7694 + 72 * m + 2) = w (7694 + 72 * m + 2) := loF_fr (by omega)
    refine e_iload_n dX11_loses_9 rfl rfl ?_
    refine e_aload_n dX11_loses_10 rfl rfl ?_
    refine e_getR dX11_loses_11 fl_X11_7 rfl (by assumption) ?_
    refine e_iload_n dX11_loses_14 rfl rfl ?_
    refine e_iconst (v := nI 2) dX11_loses_15 rfl ?_
    first | ((with_reducible refine mk_nn ?_); refine n_iadd dX11_loses_16 ?_) | refine e_iadd dX11_loses_16 ?_
    first | ((with_reducible refine mk_ldw ?_); refine e_ldw dX11_loses_17 (by omega) ?_) | refine e_iald _ dX11_loses_17 ⟨by decide, by decide⟩ rfl rfl (by simp only [lenK]; omega) ?_
    rw [r2]
    first | ((with_reducible refine mk_nn ?_); refine n_icmp_ge (tgt := 38) dX11_loses_18 (by decide) (by omega) (by omega) (fun h18 => ?_) (fun h18 => ?_)) | refine e_icmp_ge (tgt := 38) dX11_loses_18 (by decide) (fun h18 => ?_) (fun h18 => ?_)
    · try first | contradiction | omega
      all_goals
        refine e_ret none rfl (r_void dX11_loses_38 rfl) ?_
        exact xq rfl rfl rfl rfl rfl rfl
    · try first | contradiction | omega
      all_goals
        refine e_aload_n dX11_loses_21 rfl rfl ?_
        refine e_getR dX11_loses_22 fl_X11_7 rfl (by assumption) ?_
        refine e_iload_n dX11_loses_25 rfl rfl ?_
        refine e_iload_n dX11_loses_26 rfl rfl ?_
        refine x_S2 (M' := mX11_storeAt) dX11_loses_27 ml_X11_136 ok_X11_storeAt rfl sc_X11_storeAt (ct_X11_storeAt) (Nat.le_of_ble_eq_true rfl) (by decide) (Nat.le_of_ble_eq_true rfl) ?_
        refine e_iconst (v := nI 0) dX11_loses_30 rfl ?_
        first | ((with_reducible refine mk_stw ?_); refine e_stw dX11_loses_31 (by omega) ?_) | refine e_iast _ dX11_loses_31 ⟨by decide, by decide⟩ rfl rfl (by simp only [lenK]; omega) ?_
        first | refine n_inc dX11_loses_32 rfl (Nat.le_of_ble_eq_true rfl) rfl ?_ | refine e_iinc dX11_loses_32 rfl rfl (Nat.le_of_ble_eq_true rfl) rfl ?_
        refine e_goto (tgt := 9) dX11_loses_35 (by decide) ?_
        rw [← Nat.add_assoc, loF_s]
        exact ih
    )
  have kk := key 0 (by omega)
  rw [loF_0] at kk
  refine e_aload_n dX11_loses_0 rfl rfl ?_
  refine e_getR dX11_loses_1 fl_X11_7 rfl (by assumption) ?_
  refine e_iload_n dX11_loses_4 rfl rfl ?_
  refine e_iconst (v := nI 1) dX11_loses_5 rfl ?_
  first | ((with_reducible refine mk_nn ?_); refine n_iadd dX11_loses_6 ?_) | refine e_iadd dX11_loses_6 ?_
  first | ((with_reducible refine mk_ldw ?_); refine e_ldw dX11_loses_7 (by omega) ?_) | refine e_iald _ dX11_loses_7 ⟨by decide, by decide⟩ rfl rfl (by simp only [lenK]; omega) ?_
  refine e_istore_n dX11_loses_8 rfl (Nat.le_of_ble_eq_true rfl) rfl ?_
  exact kk
theorem ct_X11_ends {fi : FI} {fr : FR} {ai : FI} {ar : FR} {N : Nat} {w : Nat → Nat} (sm : SM fr) (iv : Inv w) {m : Nat} (hm : m < w 3) : CP mX11_ends 2 0 0 [.ref (rf 11 80), .int (nI (7694 + 72 * m))] fi fr (mW ai w) ar N (xQ (some (.int (nI (endS w m)))) fi fr (mW ai (endW w m)) ar N) := by
  obtain ⟨sW, sA0, sK, sU, sC, sKC, sT, sCl⟩ := id sm
  have hq := iv_mv iv hm
  have h3 := iv_mm iv
  change EV mX11_ends 2 0 0 0 [some (.ref (rf 11 80)), some (.int (nI (7694 + 72 * m))), none] [] fi fr (mW ai w) ar N (xQ (some (.int (nI (endS w m)))) fi fr (mW ai (endW w m)) ar N)
  by_cases hst : w (7694 + 72 * m + 0) ≤ 3
  · have eS : endS w m = 6 := if_pos hst
    have eW : endW w m = upN (upN (upN (losW w m (w (7694 + 72 * m + 4))) (7694 + 72 * m + 0) 6) (7694 + 72 * m + 7) 0) (8558 + 10) (w (8558 + 10) + 1) := by unfold endW; rw [if_pos hst, if_pos hst, eS]
    rw [eS, eW]
    have rc : losW w m (w (7694 + 72 * m + 4)) (8558 + 10) = w (8558 + 10) := loF_fr (by omega)
    refine e_aload_n dX11_ends_0 rfl rfl ?_
    refine e_getR dX11_ends_1 fl_X11_7 rfl (by assumption) ?_
    refine e_iload_n dX11_ends_4 rfl rfl ?_
    refine e_iconst (v := nI 0) dX11_ends_5 rfl ?_
    first | ((with_reducible refine mk_nn ?_); refine n_iadd dX11_ends_6 ?_) | refine e_iadd dX11_ends_6 ?_
    first | ((with_reducible refine mk_ldw ?_); refine e_ldw dX11_ends_7 (by omega) ?_) | refine e_iald _ dX11_ends_7 ⟨by decide, by decide⟩ rfl rfl (by simp only [lenK]; omega) ?_
    refine e_iconst (v := nI 3) dX11_ends_8 rfl ?_
    first | ((with_reducible refine mk_nn ?_); refine n_icmp_gt (tgt := 16) dX11_ends_9 (by decide) (by omega) (by omega) (fun h9 => ?_) (fun h9 => ?_)) | refine e_icmp_gt (tgt := 16) dX11_ends_9 (by decide) (fun h9 => ?_) (fun h9 => ?_)
    · try first | contradiction | omega
      all_goals
        refine e_iconst (v := nI 0) dX11_ends_16 rfl ?_
        refine e_istore_n dX11_ends_17 rfl (Nat.le_of_ble_eq_true rfl) rfl ?_
        refine e_aload_n dX11_ends_18 rfl rfl ?_
        refine e_iload_n dX11_ends_19 rfl rfl ?_
        refine e_aload_n dX11_ends_20 rfl rfl ?_
        refine e_getR dX11_ends_21 fl_X11_7 rfl (by assumption) ?_
        refine e_iload_n dX11_ends_24 rfl rfl ?_
        refine e_iload_n dX11_ends_25 rfl rfl ?_
        first | ((with_reducible refine mk_b ?_); refine b_if_eq (tgt := 33) dX11_ends_26 (by decide) (fun h26 => ?_) (fun h26 => ?_)) | ((with_reducible refine mk_ll ?_); refine m_if_eq (tgt := 33) dX11_ends_26 (by decide) (by omega) (by omega) (fun h26 => ?_) (fun h26 => ?_)) | ((with_reducible refine mk_lc ?_); refine l_if_eq (tgt := 33) dX11_ends_26 (by decide) (fun h26 => ?_) (fun h26 => ?_)) | ((with_reducible refine mk_n ?_); refine n_if_eq (tgt := 33) dX11_ends_26 (by decide) (by omega) (fun h26 => ?_) (fun h26 => ?_)) | refine e_if_eq (tgt := 33) dX11_ends_26 (by decide) (fun h26 => ?_) (fun h26 => ?_)
        · try first | contradiction | omega | (simp only [decide_eq_true_eq, decide_eq_false_iff_not] at h26; omega)
          all_goals
            refine e_iconst (v := nI 3) dX11_ends_33 rfl ?_
            first | ((with_reducible refine mk_nn ?_); refine n_iadd dX11_ends_34 ?_) | refine e_iadd dX11_ends_34 ?_
            first | ((with_reducible refine mk_ldw ?_); refine e_ldw dX11_ends_35 (by omega) ?_) | refine e_iald _ dX11_ends_35 ⟨by decide, by decide⟩ rfl rfl (by simp only [lenK]; omega) ?_
            refine y_V2 (M' := mX11_loses) dX11_ends_36 ml_X11_202 ok_X11_loses (by decide) rfl im_X11_loses se_X11_loses (ct_X11_loses ‹_› ‹_› (by omega) (by omega)) (Nat.le_of_ble_eq_true rfl) (by decide) (Nat.le_of_ble_eq_true rfl) ?_
            refine e_aload_n dX11_ends_39 rfl rfl ?_
            refine e_getR dX11_ends_40 fl_X11_7 rfl (by assumption) ?_
            refine e_iload_n dX11_ends_43 rfl rfl ?_
            refine e_iconst (v := nI 0) dX11_ends_44 rfl ?_
            first | ((with_reducible refine mk_nn ?_); refine n_iadd dX11_ends_45 ?_) | refine e_iadd dX11_ends_45 ?_
            refine e_iload_n dX11_ends_46 rfl rfl ?_
            first | ((with_reducible refine mk_b ?_); refine b_if_eq (tgt := 55) dX11_ends_47 (by decide) (fun h47 => ?_) (fun h47 => ?_)) | ((with_reducible refine mk_ll ?_); refine m_if_eq (tgt := 55) dX11_ends_47 (by decide) (by omega) (by omega) (fun h47 => ?_) (fun h47 => ?_)) | ((with_reducible refine mk_lc ?_); refine l_if_eq (tgt := 55) dX11_ends_47 (by decide) (fun h47 => ?_) (fun h47 => ?_)) | ((with_reducible refine mk_n ?_); refine n_if_eq (tgt := 55) dX11_ends_47 (by decide) (by omega) (fun h47 => ?_) (fun h47 => ?_)) | refine e_if_eq (tgt := 55) dX11_ends_47 (by decide) (fun h47 => ?_) (fun h47 => ?_)
            · try first | contradiction | omega | (simp only [decide_eq_true_eq, decide_eq_false_iff_not] at h47; omega)
              all_goals
                refine e_iconst (v := nI 5) dX11_ends_55 rfl ?_
                first | ((with_reducible refine mk_stw ?_); refine e_stw dX11_ends_56 (by omega) ?_) | refine e_iast _ dX11_ends_56 ⟨by decide, by decide⟩ rfl rfl (by simp only [lenK]; omega) ?_
                refine e_aload_n dX11_ends_57 rfl rfl ?_
                refine e_getR dX11_ends_58 fl_X11_7 rfl (by assumption) ?_
                refine e_iload_n dX11_ends_61 rfl rfl ?_
                refine e_bipush (v := nI 7) dX11_ends_62 rfl ?_
                first | ((with_reducible refine mk_nn ?_); refine n_iadd dX11_ends_64 ?_) | refine e_iadd dX11_ends_64 ?_
                refine e_iconst (v := nI 0) dX11_ends_65 rfl ?_
                first | ((with_reducible refine mk_stw ?_); refine e_stw dX11_ends_66 (by omega) ?_) | refine e_iast _ dX11_ends_66 ⟨by decide, by decide⟩ rfl rfl (by simp only [lenK]; omega) ?_
                refine e_aload_n dX11_ends_67 rfl rfl ?_
                refine e_iload_n dX11_ends_68 rfl rfl ?_
                first | ((with_reducible refine mk_b ?_); refine b_if_eq (tgt := 77) dX11_ends_69 (by decide) (fun h69 => ?_) (fun h69 => ?_)) | ((with_reducible refine mk_ll ?_); refine m_if_eq (tgt := 77) dX11_ends_69 (by decide) (by omega) (by omega) (fun h69 => ?_) (fun h69 => ?_)) | ((with_reducible refine mk_lc ?_); refine l_if_eq (tgt := 77) dX11_ends_69 (by decide) (fun h69 => ?_) (fun h69 => ?_)) | ((with_reducible refine mk_n ?_); refine n_if_eq (tgt := 77) dX11_ends_69 (by decide) (by omega) (fun h69 => ?_) (fun h69 => ?_)) | refine e_if_eq (tgt := 77) dX11_ends_69 (by decide) (fun h69 => ?_) (fun h69 => ?_)
                · try first | contradiction | omega | (simp only [decide_eq_true_eq, decide_eq_false_iff_not] at h69; omega)
                  all_goals
                    refine e_bipush (v := nI 9) dX11_ends_77 rfl ?_
                    refine e_iconst (v := nI 1) dX11_ends_79 rfl ?_
                    refine y_V2 (M' := mX11_counts) dX11_ends_80 ml_X11_97 ok_X11_counts (by decide) rfl im_X11_counts se_X11_counts (ct_X11_counts ‹_› (by omega)) (Nat.le_of_ble_eq_true rfl) (by decide) (Nat.le_of_ble_eq_true rfl) ?_
                    refine e_aload_n dX11_ends_83 rfl rfl ?_
                    refine e_getR dX11_ends_84 fl_X11_7 rfl (by assumption) ?_
                    refine e_iload_n dX11_ends_87 rfl rfl ?_
                    refine e_iconst (v := nI 0) dX11_ends_88 rfl ?_
                    first | ((with_reducible refine mk_nn ?_); refine n_iadd dX11_ends_89 ?_) | refine e_iadd dX11_ends_89 ?_
                    first | ((with_reducible refine mk_ldw ?_); refine e_ldw dX11_ends_90 (by omega) ?_) | refine e_iald _ dX11_ends_90 ⟨by decide, by decide⟩ rfl rfl (by simp only [lenK]; omega) ?_
                    refine e_ret (some _) rfl (r_int dX11_ends_91 rfl) ?_
                    refine xq ?_ rfl rfl ?_ rfl rfl
                    · simp (disch := omega) only [upN_n, upN_s]
                    · simp (disch := omega) only [upN_n, rc]
                · try first | contradiction | omega | (simp only [decide_eq_true_eq, decide_eq_false_iff_not] at h69; omega)
                  all_goals
                    refine e_bipush (v := nI 10) dX11_ends_72 rfl ?_
                    refine e_goto (tgt := 79) dX11_ends_74 (by decide) ?_
                    refine e_iconst (v := nI 1) dX11_ends_79 rfl ?_
                    refine y_V2 (M' := mX11_counts) dX11_ends_80 ml_X11_97 ok_X11_counts (by decide) rfl im_X11_counts se_X11_counts (ct_X11_counts ‹_› (by omega)) (Nat.le_of_ble_eq_true rfl) (by decide) (Nat.le_of_ble_eq_true rfl) ?_
                    refine e_aload_n dX11_ends_83 rfl rfl ?_
                    refine e_getR dX11_ends_84 fl_X11_7 rfl (by assumption) ?_
                    refine e_iload_n dX11_ends_87 rfl rfl ?_
                    refine e_iconst (v := nI 0) dX11_ends_88 rfl ?_
                    first | ((with_reducible refine mk_nn ?_); refine n_iadd dX11_ends_89 ?_) | refine e_iadd dX11_ends_89 ?_
                    first | ((with_reducible refine mk_ldw ?_); refine e_ldw dX11_ends_90 (by omega) ?_) | refine e_iald _ dX11_ends_90 ⟨by decide, by decide⟩ rfl rfl (by simp only [lenK]; omega) ?_
                    refine e_ret (some _) rfl (r_int dX11_ends_91 rfl) ?_
                    refine xq ?_ rfl rfl ?_ rfl rfl
                    · simp (disch := omega) only [upN_n, upN_s]
                    · simp (disch := omega) only [upN_n, rc]
            · try first | contradiction | omega | (simp only [decide_eq_true_eq, decide_eq_false_iff_not] at h47; omega)
              all_goals
                refine e_bipush (v := nI 6) dX11_ends_50 rfl ?_
                refine e_goto (tgt := 56) dX11_ends_52 (by decide) ?_
                first | ((with_reducible refine mk_stw ?_); refine e_stw dX11_ends_56 (by omega) ?_) | refine e_iast _ dX11_ends_56 ⟨by decide, by decide⟩ rfl rfl (by simp only [lenK]; omega) ?_
                refine e_aload_n dX11_ends_57 rfl rfl ?_
                refine e_getR dX11_ends_58 fl_X11_7 rfl (by assumption) ?_
                refine e_iload_n dX11_ends_61 rfl rfl ?_
                refine e_bipush (v := nI 7) dX11_ends_62 rfl ?_
                first | ((with_reducible refine mk_nn ?_); refine n_iadd dX11_ends_64 ?_) | refine e_iadd dX11_ends_64 ?_
                refine e_iconst (v := nI 0) dX11_ends_65 rfl ?_
                first | ((with_reducible refine mk_stw ?_); refine e_stw dX11_ends_66 (by omega) ?_) | refine e_iast _ dX11_ends_66 ⟨by decide, by decide⟩ rfl rfl (by simp only [lenK]; omega) ?_
                refine e_aload_n dX11_ends_67 rfl rfl ?_
                refine e_iload_n dX11_ends_68 rfl rfl ?_
                first | ((with_reducible refine mk_b ?_); refine b_if_eq (tgt := 77) dX11_ends_69 (by decide) (fun h69 => ?_) (fun h69 => ?_)) | ((with_reducible refine mk_ll ?_); refine m_if_eq (tgt := 77) dX11_ends_69 (by decide) (by omega) (by omega) (fun h69 => ?_) (fun h69 => ?_)) | ((with_reducible refine mk_lc ?_); refine l_if_eq (tgt := 77) dX11_ends_69 (by decide) (fun h69 => ?_) (fun h69 => ?_)) | ((with_reducible refine mk_n ?_); refine n_if_eq (tgt := 77) dX11_ends_69 (by decide) (by omega) (fun h69 => ?_) (fun h69 => ?_)) | refine e_if_eq (tgt := 77) dX11_ends_69 (by decide) (fun h69 => ?_) (fun h69 => ?_)
                · try first | contradiction | omega | (simp only [decide_eq_true_eq, decide_eq_false_iff_not] at h69; omega)
                  all_goals
                    refine e_bipush (v := nI 9) dX11_ends_77 rfl ?_
                    refine e_iconst (v := nI 1) dX11_ends_79 rfl ?_
                    refine y_V2 (M' := mX11_counts) dX11_ends_80 ml_X11_97 ok_X11_counts (by decide) rfl im_X11_counts se_X11_counts (ct_X11_counts ‹_› (by omega)) (Nat.le_of_ble_eq_true rfl) (by decide) (Nat.le_of_ble_eq_true rfl) ?_
                    refine e_aload_n dX11_ends_83 rfl rfl ?_
                    refine e_getR dX11_ends_84 fl_X11_7 rfl (by assumption) ?_
                    refine e_iload_n dX11_ends_87 rfl rfl ?_
                    refine e_iconst (v := nI 0) dX11_ends_88 rfl ?_
                    first | ((with_reducible refine mk_nn ?_); refine n_iadd dX11_ends_89 ?_) | refine e_iadd dX11_ends_89 ?_
                    first | ((with_reducible refine mk_ldw ?_); refine e_ldw dX11_ends_90 (by omega) ?_) | refine e_iald _ dX11_ends_90 ⟨by decide, by decide⟩ rfl rfl (by simp only [lenK]; omega) ?_
                    refine e_ret (some _) rfl (r_int dX11_ends_91 rfl) ?_
                    refine xq ?_ rfl rfl ?_ rfl rfl
                    · simp (disch := omega) only [upN_n, upN_s]
                    · simp (disch := omega) only [upN_n, rc]
                · try first | contradiction | omega | (simp only [decide_eq_true_eq, decide_eq_false_iff_not] at h69; omega)
                  all_goals
                    refine e_bipush (v := nI 10) dX11_ends_72 rfl ?_
                    refine e_goto (tgt := 79) dX11_ends_74 (by decide) ?_
                    refine e_iconst (v := nI 1) dX11_ends_79 rfl ?_
                    refine y_V2 (M' := mX11_counts) dX11_ends_80 ml_X11_97 ok_X11_counts (by decide) rfl im_X11_counts se_X11_counts (ct_X11_counts ‹_› (by omega)) (Nat.le_of_ble_eq_true rfl) (by decide) (Nat.le_of_ble_eq_true rfl) ?_
                    refine e_aload_n dX11_ends_83 rfl rfl ?_
                    refine e_getR dX11_ends_84 fl_X11_7 rfl (by assumption) ?_
                    refine e_iload_n dX11_ends_87 rfl rfl ?_
                    refine e_iconst (v := nI 0) dX11_ends_88 rfl ?_
                    first | ((with_reducible refine mk_nn ?_); refine n_iadd dX11_ends_89 ?_) | refine e_iadd dX11_ends_89 ?_
                    first | ((with_reducible refine mk_ldw ?_); refine e_ldw dX11_ends_90 (by omega) ?_) | refine e_iald _ dX11_ends_90 ⟨by decide, by decide⟩ rfl rfl (by simp only [lenK]; omega) ?_
                    refine e_ret (some _) rfl (r_int dX11_ends_91 rfl) ?_
                    refine xq ?_ rfl rfl ?_ rfl rfl
                    · simp (disch := omega) only [upN_n, upN_s]
                    · simp (disch := omega) only [upN_n, rc]
        · try first | contradiction | omega | (simp only [decide_eq_true_eq, decide_eq_false_iff_not] at h26; omega)
          all_goals
            refine e_iconst (v := nI 4) dX11_ends_29 rfl ?_
            refine e_goto (tgt := 34) dX11_ends_30 (by decide) ?_
            first | ((with_reducible refine mk_nn ?_); refine n_iadd dX11_ends_34 ?_) | refine e_iadd dX11_ends_34 ?_
            first | ((with_reducible refine mk_ldw ?_); refine e_ldw dX11_ends_35 (by omega) ?_) | refine e_iald _ dX11_ends_35 ⟨by decide, by decide⟩ rfl rfl (by simp only [lenK]; omega) ?_
            refine y_V2 (M' := mX11_loses) dX11_ends_36 ml_X11_202 ok_X11_loses (by decide) rfl im_X11_loses se_X11_loses (ct_X11_loses ‹_› ‹_› (by omega) (by omega)) (Nat.le_of_ble_eq_true rfl) (by decide) (Nat.le_of_ble_eq_true rfl) ?_
            refine e_aload_n dX11_ends_39 rfl rfl ?_
            refine e_getR dX11_ends_40 fl_X11_7 rfl (by assumption) ?_
            refine e_iload_n dX11_ends_43 rfl rfl ?_
            refine e_iconst (v := nI 0) dX11_ends_44 rfl ?_
            first | ((with_reducible refine mk_nn ?_); refine n_iadd dX11_ends_45 ?_) | refine e_iadd dX11_ends_45 ?_
            refine e_iload_n dX11_ends_46 rfl rfl ?_
            first | ((with_reducible refine mk_b ?_); refine b_if_eq (tgt := 55) dX11_ends_47 (by decide) (fun h47 => ?_) (fun h47 => ?_)) | ((with_reducible refine mk_ll ?_); refine m_if_eq (tgt := 55) dX11_ends_47 (by decide) (by omega) (by omega) (fun h47 => ?_) (fun h47 => ?_)) | ((with_reducible refine mk_lc ?_); refine l_if_eq (tgt := 55) dX11_ends_47 (by decide) (fun h47 => ?_) (fun h47 => ?_)) | ((with_reducible refine mk_n ?_); refine n_if_eq (tgt := 55) dX11_ends_47 (by decide) (by omega) (fun h47 => ?_) (fun h47 => ?_)) | refine e_if_eq (tgt := 55) dX11_ends_47 (by decide) (fun h47 => ?_) (fun h47 => ?_)
            · try first | contradiction | omega | (simp only [decide_eq_true_eq, decide_eq_false_iff_not] at h47; omega)
              all_goals
                refine e_iconst (v := nI 5) dX11_ends_55 rfl ?_
                first | ((with_reducible refine mk_stw ?_); refine e_stw dX11_ends_56 (by omega) ?_) | refine e_iast _ dX11_ends_56 ⟨by decide, by decide⟩ rfl rfl (by simp only [lenK]; omega) ?_
                refine e_aload_n dX11_ends_57 rfl rfl ?_
                refine e_getR dX11_ends_58 fl_X11_7 rfl (by assumption) ?_
                refine e_iload_n dX11_ends_61 rfl rfl ?_
                refine e_bipush (v := nI 7) dX11_ends_62 rfl ?_
                first | ((with_reducible refine mk_nn ?_); refine n_iadd dX11_ends_64 ?_) | refine e_iadd dX11_ends_64 ?_
                refine e_iconst (v := nI 0) dX11_ends_65 rfl ?_
                first | ((with_reducible refine mk_stw ?_); refine e_stw dX11_ends_66 (by omega) ?_) | refine e_iast _ dX11_ends_66 ⟨by decide, by decide⟩ rfl rfl (by simp only [lenK]; omega) ?_
                refine e_aload_n dX11_ends_67 rfl rfl ?_
                refine e_iload_n dX11_ends_68 rfl rfl ?_
                first | ((with_reducible refine mk_b ?_); refine b_if_eq (tgt := 77) dX11_ends_69 (by decide) (fun h69 => ?_) (fun h69 => ?_)) | ((with_reducible refine mk_ll ?_); refine m_if_eq (tgt := 77) dX11_ends_69 (by decide) (by omega) (by omega) (fun h69 => ?_) (fun h69 => ?_)) | ((with_reducible refine mk_lc ?_); refine l_if_eq (tgt := 77) dX11_ends_69 (by decide) (fun h69 => ?_) (fun h69 => ?_)) | ((with_reducible refine mk_n ?_); refine n_if_eq (tgt := 77) dX11_ends_69 (by decide) (by omega) (fun h69 => ?_) (fun h69 => ?_)) | refine e_if_eq (tgt := 77) dX11_ends_69 (by decide) (fun h69 => ?_) (fun h69 => ?_)
                · try first | contradiction | omega | (simp only [decide_eq_true_eq, decide_eq_false_iff_not] at h69; omega)
                  all_goals
                    refine e_bipush (v := nI 9) dX11_ends_77 rfl ?_
                    refine e_iconst (v := nI 1) dX11_ends_79 rfl ?_
                    refine y_V2 (M' := mX11_counts) dX11_ends_80 ml_X11_97 ok_X11_counts (by decide) rfl im_X11_counts se_X11_counts (ct_X11_counts ‹_› (by omega)) (Nat.le_of_ble_eq_true rfl) (by decide) (Nat.le_of_ble_eq_true rfl) ?_
                    refine e_aload_n dX11_ends_83 rfl rfl ?_
                    refine e_getR dX11_ends_84 fl_X11_7 rfl (by assumption) ?_
                    refine e_iload_n dX11_ends_87 rfl rfl ?_
                    refine e_iconst (v := nI 0) dX11_ends_88 rfl ?_
                    first | ((with_reducible refine mk_nn ?_); refine n_iadd dX11_ends_89 ?_) | refine e_iadd dX11_ends_89 ?_
                    first | ((with_reducible refine mk_ldw ?_); refine e_ldw dX11_ends_90 (by omega) ?_) | refine e_iald _ dX11_ends_90 ⟨by decide, by decide⟩ rfl rfl (by simp only [lenK]; omega) ?_
                    refine e_ret (some _) rfl (r_int dX11_ends_91 rfl) ?_
                    refine xq ?_ rfl rfl ?_ rfl rfl
                    · simp (disch := omega) only [upN_n, upN_s]
                    · simp (disch := omega) only [upN_n, rc]
                · try first | contradiction | omega | (simp only [decide_eq_true_eq, decide_eq_false_iff_not] at h69; omega)
                  all_goals
                    refine e_bipush (v := nI 10) dX11_ends_72 rfl ?_
                    refine e_goto (tgt := 79) dX11_ends_74 (by decide) ?_
                    refine e_iconst (v := nI 1) dX11_ends_79 rfl ?_
                    refine y_V2 (M' := mX11_counts) dX11_ends_80 ml_X11_97 ok_X11_counts (by decide) rfl im_X11_counts se_X11_counts (ct_X11_counts ‹_› (by omega)) (Nat.le_of_ble_eq_true rfl) (by decide) (Nat.le_of_ble_eq_true rfl) ?_
                    refine e_aload_n dX11_ends_83 rfl rfl ?_
                    refine e_getR dX11_ends_84 fl_X11_7 rfl (by assumption) ?_
                    refine e_iload_n dX11_ends_87 rfl rfl ?_
                    refine e_iconst (v := nI 0) dX11_ends_88 rfl ?_
                    first | ((with_reducible refine mk_nn ?_); refine n_iadd dX11_ends_89 ?_) | refine e_iadd dX11_ends_89 ?_
                    first | ((with_reducible refine mk_ldw ?_); refine e_ldw dX11_ends_90 (by omega) ?_) | refine e_iald _ dX11_ends_90 ⟨by decide, by decide⟩ rfl rfl (by simp only [lenK]; omega) ?_
                    refine e_ret (some _) rfl (r_int dX11_ends_91 rfl) ?_
                    refine xq ?_ rfl rfl ?_ rfl rfl
                    · simp (disch := omega) only [upN_n, upN_s]
                    · simp (disch := omega) only [upN_n, rc]
            · try first | contradiction | omega | (simp only [decide_eq_true_eq, decide_eq_false_iff_not] at h47; omega)
              all_goals
                refine e_bipush (v := nI 6) dX11_ends_50 rfl ?_
                refine e_goto (tgt := 56) dX11_ends_52 (by decide) ?_
                first | ((with_reducible refine mk_stw ?_); refine e_stw dX11_ends_56 (by omega) ?_) | refine e_iast _ dX11_ends_56 ⟨by decide, by decide⟩ rfl rfl (by simp only [lenK]; omega) ?_
                refine e_aload_n dX11_ends_57 rfl rfl ?_
                refine e_getR dX11_ends_58 fl_X11_7 rfl (by assumption) ?_
                refine e_iload_n dX11_ends_61 rfl rfl ?_
                refine e_bipush (v := nI 7) dX11_ends_62 rfl ?_
                first | ((with_reducible refine mk_nn ?_); refine n_iadd dX11_ends_64 ?_) | refine e_iadd dX11_ends_64 ?_
                refine e_iconst (v := nI 0) dX11_ends_65 rfl ?_
                first | ((with_reducible refine mk_stw ?_); refine e_stw dX11_ends_66 (by omega) ?_) | refine e_iast _ dX11_ends_66 ⟨by decide, by decide⟩ rfl rfl (by simp only [lenK]; omega) ?_
                refine e_aload_n dX11_ends_67 rfl rfl ?_
                refine e_iload_n dX11_ends_68 rfl rfl ?_
                first | ((with_reducible refine mk_b ?_); refine b_if_eq (tgt := 77) dX11_ends_69 (by decide) (fun h69 => ?_) (fun h69 => ?_)) | ((with_reducible refine mk_ll ?_); refine m_if_eq (tgt := 77) dX11_ends_69 (by decide) (by omega) (by omega) (fun h69 => ?_) (fun h69 => ?_)) | ((with_reducible refine mk_lc ?_); refine l_if_eq (tgt := 77) dX11_ends_69 (by decide) (fun h69 => ?_) (fun h69 => ?_)) | ((with_reducible refine mk_n ?_); refine n_if_eq (tgt := 77) dX11_ends_69 (by decide) (by omega) (fun h69 => ?_) (fun h69 => ?_)) | refine e_if_eq (tgt := 77) dX11_ends_69 (by decide) (fun h69 => ?_) (fun h69 => ?_)
                · try first | contradiction | omega | (simp only [decide_eq_true_eq, decide_eq_false_iff_not] at h69; omega)
                  all_goals
                    refine e_bipush (v := nI 9) dX11_ends_77 rfl ?_
                    refine e_iconst (v := nI 1) dX11_ends_79 rfl ?_
                    refine y_V2 (M' := mX11_counts) dX11_ends_80 ml_X11_97 ok_X11_counts (by decide) rfl im_X11_counts se_X11_counts (ct_X11_counts ‹_› (by omega)) (Nat.le_of_ble_eq_true rfl) (by decide) (Nat.le_of_ble_eq_true rfl) ?_
                    refine e_aload_n dX11_ends_83 rfl rfl ?_
                    refine e_getR dX11_ends_84 fl_X11_7 rfl (by assumption) ?_
                    refine e_iload_n dX11_ends_87 rfl rfl ?_
                    refine e_iconst (v := nI 0) dX11_ends_88 rfl ?_
                    first | ((with_reducible refine mk_nn ?_); refine n_iadd dX11_ends_89 ?_) | refine e_iadd dX11_ends_89 ?_
                    first | ((with_reducible refine mk_ldw ?_); refine e_ldw dX11_ends_90 (by omega) ?_) | refine e_iald _ dX11_ends_90 ⟨by decide, by decide⟩ rfl rfl (by simp only [lenK]; omega) ?_
                    refine e_ret (some _) rfl (r_int dX11_ends_91 rfl) ?_
                    refine xq ?_ rfl rfl ?_ rfl rfl
                    · simp (disch := omega) only [upN_n, upN_s]
                    · simp (disch := omega) only [upN_n, rc]
                · try first | contradiction | omega | (simp only [decide_eq_true_eq, decide_eq_false_iff_not] at h69; omega)
                  all_goals
                    refine e_bipush (v := nI 10) dX11_ends_72 rfl ?_
                    refine e_goto (tgt := 79) dX11_ends_74 (by decide) ?_
                    refine e_iconst (v := nI 1) dX11_ends_79 rfl ?_
                    refine y_V2 (M' := mX11_counts) dX11_ends_80 ml_X11_97 ok_X11_counts (by decide) rfl im_X11_counts se_X11_counts (ct_X11_counts ‹_› (by omega)) (Nat.le_of_ble_eq_true rfl) (by decide) (Nat.le_of_ble_eq_true rfl) ?_
                    refine e_aload_n dX11_ends_83 rfl rfl ?_
                    refine e_getR dX11_ends_84 fl_X11_7 rfl (by assumption) ?_
                    refine e_iload_n dX11_ends_87 rfl rfl ?_
                    refine e_iconst (v := nI 0) dX11_ends_88 rfl ?_
                    first | ((with_reducible refine mk_nn ?_); refine n_iadd dX11_ends_89 ?_) | refine e_iadd dX11_ends_89 ?_
                    first | ((with_reducible refine mk_ldw ?_); refine e_ldw dX11_ends_90 (by omega) ?_) | refine e_iald _ dX11_ends_90 ⟨by decide, by decide⟩ rfl rfl (by simp only [lenK]; omega) ?_
                    refine e_ret (some _) rfl (r_int dX11_ends_91 rfl) ?_
                    refine xq ?_ rfl rfl ?_ rfl rfl
                    · simp (disch := omega) only [upN_n, upN_s]
                    · simp (disch := omega) only [upN_n, rc]
    · try first | contradiction | omega
      all_goals
        refine e_iconst (v := nI 1) dX11_ends_12 rfl ?_
        refine e_goto (tgt := 17) dX11_ends_13 (by decide) ?_
        refine e_istore_n dX11_ends_17 rfl (Nat.le_of_ble_eq_true rfl) rfl ?_
        refine e_aload_n dX11_ends_18 rfl rfl ?_
        refine e_iload_n dX11_ends_19 rfl rfl ?_
        refine e_aload_n dX11_ends_20 rfl rfl ?_
        refine e_getR dX11_ends_21 fl_X11_7 rfl (by assumption) ?_
        refine e_iload_n dX11_ends_24 rfl rfl ?_
        refine e_iload_n dX11_ends_25 rfl rfl ?_
        first | ((with_reducible refine mk_b ?_); refine b_if_eq (tgt := 33) dX11_ends_26 (by decide) (fun h26 => ?_) (fun h26 => ?_)) | ((with_reducible refine mk_ll ?_); refine m_if_eq (tgt := 33) dX11_ends_26 (by decide) (by omega) (by omega) (fun h26 => ?_) (fun h26 => ?_)) | ((with_reducible refine mk_lc ?_); refine l_if_eq (tgt := 33) dX11_ends_26 (by decide) (fun h26 => ?_) (fun h26 => ?_)) | ((with_reducible refine mk_n ?_); refine n_if_eq (tgt := 33) dX11_ends_26 (by decide) (by omega) (fun h26 => ?_) (fun h26 => ?_)) | refine e_if_eq (tgt := 33) dX11_ends_26 (by decide) (fun h26 => ?_) (fun h26 => ?_)
        · try first | contradiction | omega | (simp only [decide_eq_true_eq, decide_eq_false_iff_not] at h26; omega)
          all_goals
            refine e_iconst (v := nI 3) dX11_ends_33 rfl ?_
            first | ((with_reducible refine mk_nn ?_); refine n_iadd dX11_ends_34 ?_) | refine e_iadd dX11_ends_34 ?_
            first | ((with_reducible refine mk_ldw ?_); refine e_ldw dX11_ends_35 (by omega) ?_) | refine e_iald _ dX11_ends_35 ⟨by decide, by decide⟩ rfl rfl (by simp only [lenK]; omega) ?_
            refine y_V2 (M' := mX11_loses) dX11_ends_36 ml_X11_202 ok_X11_loses (by decide) rfl im_X11_loses se_X11_loses (ct_X11_loses ‹_› ‹_› (by omega) (by omega)) (Nat.le_of_ble_eq_true rfl) (by decide) (Nat.le_of_ble_eq_true rfl) ?_
            refine e_aload_n dX11_ends_39 rfl rfl ?_
            refine e_getR dX11_ends_40 fl_X11_7 rfl (by assumption) ?_
            refine e_iload_n dX11_ends_43 rfl rfl ?_
            refine e_iconst (v := nI 0) dX11_ends_44 rfl ?_
            first | ((with_reducible refine mk_nn ?_); refine n_iadd dX11_ends_45 ?_) | refine e_iadd dX11_ends_45 ?_
            refine e_iload_n dX11_ends_46 rfl rfl ?_
            first | ((with_reducible refine mk_b ?_); refine b_if_eq (tgt := 55) dX11_ends_47 (by decide) (fun h47 => ?_) (fun h47 => ?_)) | ((with_reducible refine mk_ll ?_); refine m_if_eq (tgt := 55) dX11_ends_47 (by decide) (by omega) (by omega) (fun h47 => ?_) (fun h47 => ?_)) | ((with_reducible refine mk_lc ?_); refine l_if_eq (tgt := 55) dX11_ends_47 (by decide) (fun h47 => ?_) (fun h47 => ?_)) | ((with_reducible refine mk_n ?_); refine n_if_eq (tgt := 55) dX11_ends_47 (by decide) (by omega) (fun h47 => ?_) (fun h47 => ?_)) | refine e_if_eq (tgt := 55) dX11_ends_47 (by decide) (fun h47 => ?_) (fun h47 => ?_)
            · try first | contradiction | omega | (simp only [decide_eq_true_eq, decide_eq_false_iff_not] at h47; omega)
              all_goals
                refine e_iconst (v := nI 5) dX11_ends_55 rfl ?_
                first | ((with_reducible refine mk_stw ?_); refine e_stw dX11_ends_56 (by omega) ?_) | refine e_iast _ dX11_ends_56 ⟨by decide, by decide⟩ rfl rfl (by simp only [lenK]; omega) ?_
                refine e_aload_n dX11_ends_57 rfl rfl ?_
                refine e_getR dX11_ends_58 fl_X11_7 rfl (by assumption) ?_
                refine e_iload_n dX11_ends_61 rfl rfl ?_
                refine e_bipush (v := nI 7) dX11_ends_62 rfl ?_
                first | ((with_reducible refine mk_nn ?_); refine n_iadd dX11_ends_64 ?_) | refine e_iadd dX11_ends_64 ?_
                refine e_iconst (v := nI 0) dX11_ends_65 rfl ?_
                first | ((with_reducible refine mk_stw ?_); refine e_stw dX11_ends_66 (by omega) ?_) | refine e_iast _ dX11_ends_66 ⟨by decide, by decide⟩ rfl rfl (by simp only [lenK]; omega) ?_
                refine e_aload_n dX11_ends_67 rfl rfl ?_
                refine e_iload_n dX11_ends_68 rfl rfl ?_
                first | ((with_reducible refine mk_b ?_); refine b_if_eq (tgt := 77) dX11_ends_69 (by decide) (fun h69 => ?_) (fun h69 => ?_)) | ((with_reducible refine mk_ll ?_); refine m_if_eq (tgt := 77) dX11_ends_69 (by decide) (by omega) (by omega) (fun h69 => ?_) (fun h69 => ?_)) | ((with_reducible refine mk_lc ?_); refine l_if_eq (tgt := 77) dX11_ends_69 (by decide) (fun h69 => ?_) (fun h69 => ?_)) | ((with_reducible refine mk_n ?_); refine n_if_eq (tgt := 77) dX11_ends_69 (by decide) (by omega) (fun h69 => ?_) (fun h69 => ?_)) | refine e_if_eq (tgt := 77) dX11_ends_69 (by decide) (fun h69 => ?_) (fun h69 => ?_)
                · try first | contradiction | omega | (simp only [decide_eq_true_eq, decide_eq_false_iff_not] at h69; omega)
                  all_goals
                    refine e_bipush (v := nI 9) dX11_ends_77 rfl ?_
                    refine e_iconst (v := nI 1) dX11_ends_79 rfl ?_
                    refine y_V2 (M' := mX11_counts) dX11_ends_80 ml_X11_97 ok_X11_counts (by decide) rfl im_X11_counts se_X11_counts (ct_X11_counts ‹_› (by omega)) (Nat.le_of_ble_eq_true rfl) (by decide) (Nat.le_of_ble_eq_true rfl) ?_
                    refine e_aload_n dX11_ends_83 rfl rfl ?_
                    refine e_getR dX11_ends_84 fl_X11_7 rfl (by assumption) ?_
                    refine e_iload_n dX11_ends_87 rfl rfl ?_
                    refine e_iconst (v := nI 0) dX11_ends_88 rfl ?_
                    first | ((with_reducible refine mk_nn ?_); refine n_iadd dX11_ends_89 ?_) | refine e_iadd dX11_ends_89 ?_
                    first | ((with_reducible refine mk_ldw ?_); refine e_ldw dX11_ends_90 (by omega) ?_) | refine e_iald _ dX11_ends_90 ⟨by decide, by decide⟩ rfl rfl (by simp only [lenK]; omega) ?_
                    refine e_ret (some _) rfl (r_int dX11_ends_91 rfl) ?_
                    refine xq ?_ rfl rfl ?_ rfl rfl
                    · simp (disch := omega) only [upN_n, upN_s]
                    · simp (disch := omega) only [upN_n, rc]
                · try first | contradiction | omega | (simp only [decide_eq_true_eq, decide_eq_false_iff_not] at h69; omega)
                  all_goals
                    refine e_bipush (v := nI 10) dX11_ends_72 rfl ?_
                    refine e_goto (tgt := 79) dX11_ends_74 (by decide) ?_
                    refine e_iconst (v := nI 1) dX11_ends_79 rfl ?_
                    refine y_V2 (M' := mX11_counts) dX11_ends_80 ml_X11_97 ok_X11_counts (by decide) rfl im_X11_counts se_X11_counts (ct_X11_counts ‹_› (by omega)) (Nat.le_of_ble_eq_true rfl) (by decide) (Nat.le_of_ble_eq_true rfl) ?_
                    refine e_aload_n dX11_ends_83 rfl rfl ?_
                    refine e_getR dX11_ends_84 fl_X11_7 rfl (by assumption) ?_
                    refine e_iload_n dX11_ends_87 rfl rfl ?_
                    refine e_iconst (v := nI 0) dX11_ends_88 rfl ?_
                    first | ((with_reducible refine mk_nn ?_); refine n_iadd dX11_ends_89 ?_) | refine e_iadd dX11_ends_89 ?_
                    first | ((with_reducible refine mk_ldw ?_); refine e_ldw dX11_ends_90 (by omega) ?_) | refine e_iald _ dX11_ends_90 ⟨by decide, by decide⟩ rfl rfl (by simp only [lenK]; omega) ?_
                    refine e_ret (some _) rfl (r_int dX11_ends_91 rfl) ?_
                    refine xq ?_ rfl rfl ?_ rfl rfl
                    · simp (disch := omega) only [upN_n, upN_s]
                    · simp (disch := omega) only [upN_n, rc]
            · try first | contradiction | omega | (simp only [decide_eq_true_eq, decide_eq_false_iff_not] at h47; omega)
              all_goals
                refine e_bipush (v := nI 6) dX11_ends_50 rfl ?_
                refine e_goto (tgt := 56) dX11_ends_52 (by decide) ?_
                first | ((with_reducible refine mk_stw ?_); refine e_stw dX11_ends_56 (by omega) ?_) | refine e_iast _ dX11_ends_56 ⟨by decide, by decide⟩ rfl rfl (by simp only [lenK]; omega) ?_
                refine e_aload_n dX11_ends_57 rfl rfl ?_
                refine e_getR dX11_ends_58 fl_X11_7 rfl (by assumption) ?_
                refine e_iload_n dX11_ends_61 rfl rfl ?_
                refine e_bipush (v := nI 7) dX11_ends_62 rfl ?_
                first | ((with_reducible refine mk_nn ?_); refine n_iadd dX11_ends_64 ?_) | refine e_iadd dX11_ends_64 ?_
                refine e_iconst (v := nI 0) dX11_ends_65 rfl ?_
                first | ((with_reducible refine mk_stw ?_); refine e_stw dX11_ends_66 (by omega) ?_) | refine e_iast _ dX11_ends_66 ⟨by decide, by decide⟩ rfl rfl (by simp only [lenK]; omega) ?_
                refine e_aload_n dX11_ends_67 rfl rfl ?_
                refine e_iload_n dX11_ends_68 rfl rfl ?_
                first | ((with_reducible refine mk_b ?_); refine b_if_eq (tgt := 77) dX11_ends_69 (by decide) (fun h69 => ?_) (fun h69 => ?_)) | ((with_reducible refine mk_ll ?_); refine m_if_eq (tgt := 77) dX11_ends_69 (by decide) (by omega) (by omega) (fun h69 => ?_) (fun h69 => ?_)) | ((with_reducible refine mk_lc ?_); refine l_if_eq (tgt := 77) dX11_ends_69 (by decide) (fun h69 => ?_) (fun h69 => ?_)) | ((with_reducible refine mk_n ?_); refine n_if_eq (tgt := 77) dX11_ends_69 (by decide) (by omega) (fun h69 => ?_) (fun h69 => ?_)) | refine e_if_eq (tgt := 77) dX11_ends_69 (by decide) (fun h69 => ?_) (fun h69 => ?_)
                · try first | contradiction | omega | (simp only [decide_eq_true_eq, decide_eq_false_iff_not] at h69; omega)
                  all_goals
                    refine e_bipush (v := nI 9) dX11_ends_77 rfl ?_
                    refine e_iconst (v := nI 1) dX11_ends_79 rfl ?_
                    refine y_V2 (M' := mX11_counts) dX11_ends_80 ml_X11_97 ok_X11_counts (by decide) rfl im_X11_counts se_X11_counts (ct_X11_counts ‹_› (by omega)) (Nat.le_of_ble_eq_true rfl) (by decide) (Nat.le_of_ble_eq_true rfl) ?_
                    refine e_aload_n dX11_ends_83 rfl rfl ?_
                    refine e_getR dX11_ends_84 fl_X11_7 rfl (by assumption) ?_
                    refine e_iload_n dX11_ends_87 rfl rfl ?_
                    refine e_iconst (v := nI 0) dX11_ends_88 rfl ?_
                    first | ((with_reducible refine mk_nn ?_); refine n_iadd dX11_ends_89 ?_) | refine e_iadd dX11_ends_89 ?_
                    first | ((with_reducible refine mk_ldw ?_); refine e_ldw dX11_ends_90 (by omega) ?_) | refine e_iald _ dX11_ends_90 ⟨by decide, by decide⟩ rfl rfl (by simp only [lenK]; omega) ?_
                    refine e_ret (some _) rfl (r_int dX11_ends_91 rfl) ?_
                    refine xq ?_ rfl rfl ?_ rfl rfl
                    · simp (disch := omega) only [upN_n, upN_s]
                    · simp (disch := omega) only [upN_n, rc]
                · try first | contradiction | omega | (simp only [decide_eq_true_eq, decide_eq_false_iff_not] at h69; omega)
                  all_goals
                    refine e_bipush (v := nI 10) dX11_ends_72 rfl ?_
                    refine e_goto (tgt := 79) dX11_ends_74 (by decide) ?_
                    refine e_iconst (v := nI 1) dX11_ends_79 rfl ?_
                    refine y_V2 (M' := mX11_counts) dX11_ends_80 ml_X11_97 ok_X11_counts (by decide) rfl im_X11_counts se_X11_counts (ct_X11_counts ‹_› (by omega)) (Nat.le_of_ble_eq_true rfl) (by decide) (Nat.le_of_ble_eq_true rfl) ?_
                    refine e_aload_n dX11_ends_83 rfl rfl ?_
                    refine e_getR dX11_ends_84 fl_X11_7 rfl (by assumption) ?_
                    refine e_iload_n dX11_ends_87 rfl rfl ?_
                    refine e_iconst (v := nI 0) dX11_ends_88 rfl ?_
                    first | ((with_reducible refine mk_nn ?_); refine n_iadd dX11_ends_89 ?_) | refine e_iadd dX11_ends_89 ?_
                    first | ((with_reducible refine mk_ldw ?_); refine e_ldw dX11_ends_90 (by omega) ?_) | refine e_iald _ dX11_ends_90 ⟨by decide, by decide⟩ rfl rfl (by simp only [lenK]; omega) ?_
                    refine e_ret (some _) rfl (r_int dX11_ends_91 rfl) ?_
                    refine xq ?_ rfl rfl ?_ rfl rfl
                    · simp (disch := omega) only [upN_n, upN_s]
                    · simp (disch := omega) only [upN_n, rc]
        · try first | contradiction | omega | (simp only [decide_eq_true_eq, decide_eq_false_iff_not] at h26; omega)
          all_goals
            refine e_iconst (v := nI 4) dX11_ends_29 rfl ?_
            refine e_goto (tgt := 34) dX11_ends_30 (by decide) ?_
            first | ((with_reducible refine mk_nn ?_); refine n_iadd dX11_ends_34 ?_) | refine e_iadd dX11_ends_34 ?_
            first | ((with_reducible refine mk_ldw ?_); refine e_ldw dX11_ends_35 (by omega) ?_) | refine e_iald _ dX11_ends_35 ⟨by decide, by decide⟩ rfl rfl (by simp only [lenK]; omega) ?_
            refine y_V2 (M' := mX11_loses) dX11_ends_36 ml_X11_202 ok_X11_loses (by decide) rfl im_X11_loses se_X11_loses (ct_X11_loses ‹_› ‹_› (by omega) (by omega)) (Nat.le_of_ble_eq_true rfl) (by decide) (Nat.le_of_ble_eq_true rfl) ?_
            refine e_aload_n dX11_ends_39 rfl rfl ?_
            refine e_getR dX11_ends_40 fl_X11_7 rfl (by assumption) ?_
            refine e_iload_n dX11_ends_43 rfl rfl ?_
            refine e_iconst (v := nI 0) dX11_ends_44 rfl ?_
            first | ((with_reducible refine mk_nn ?_); refine n_iadd dX11_ends_45 ?_) | refine e_iadd dX11_ends_45 ?_
            refine e_iload_n dX11_ends_46 rfl rfl ?_
            first | ((with_reducible refine mk_b ?_); refine b_if_eq (tgt := 55) dX11_ends_47 (by decide) (fun h47 => ?_) (fun h47 => ?_)) | ((with_reducible refine mk_ll ?_); refine m_if_eq (tgt := 55) dX11_ends_47 (by decide) (by omega) (by omega) (fun h47 => ?_) (fun h47 => ?_)) | ((with_reducible refine mk_lc ?_); refine l_if_eq (tgt := 55) dX11_ends_47 (by decide) (fun h47 => ?_) (fun h47 => ?_)) | ((with_reducible refine mk_n ?_); refine n_if_eq (tgt := 55) dX11_ends_47 (by decide) (by omega) (fun h47 => ?_) (fun h47 => ?_)) | refine e_if_eq (tgt := 55) dX11_ends_47 (by decide) (fun h47 => ?_) (fun h47 => ?_)
            · try first | contradiction | omega | (simp only [decide_eq_true_eq, decide_eq_false_iff_not] at h47; omega)
              all_goals
                refine e_iconst (v := nI 5) dX11_ends_55 rfl ?_
                first | ((with_reducible refine mk_stw ?_); refine e_stw dX11_ends_56 (by omega) ?_) | refine e_iast _ dX11_ends_56 ⟨by decide, by decide⟩ rfl rfl (by simp only [lenK]; omega) ?_
                refine e_aload_n dX11_ends_57 rfl rfl ?_
                refine e_getR dX11_ends_58 fl_X11_7 rfl (by assumption) ?_
                refine e_iload_n dX11_ends_61 rfl rfl ?_
                refine e_bipush (v := nI 7) dX11_ends_62 rfl ?_
                first | ((with_reducible refine mk_nn ?_); refine n_iadd dX11_ends_64 ?_) | refine e_iadd dX11_ends_64 ?_
                refine e_iconst (v := nI 0) dX11_ends_65 rfl ?_
                first | ((with_reducible refine mk_stw ?_); refine e_stw dX11_ends_66 (by omega) ?_) | refine e_iast _ dX11_ends_66 ⟨by decide, by decide⟩ rfl rfl (by simp only [lenK]; omega) ?_
                refine e_aload_n dX11_ends_67 rfl rfl ?_
                refine e_iload_n dX11_ends_68 rfl rfl ?_
                first | ((with_reducible refine mk_b ?_); refine b_if_eq (tgt := 77) dX11_ends_69 (by decide) (fun h69 => ?_) (fun h69 => ?_)) | ((with_reducible refine mk_ll ?_); refine m_if_eq (tgt := 77) dX11_ends_69 (by decide) (by omega) (by omega) (fun h69 => ?_) (fun h69 => ?_)) | ((with_reducible refine mk_lc ?_); refine l_if_eq (tgt := 77) dX11_ends_69 (by decide) (fun h69 => ?_) (fun h69 => ?_)) | ((with_reducible refine mk_n ?_); refine n_if_eq (tgt := 77) dX11_ends_69 (by decide) (by omega) (fun h69 => ?_) (fun h69 => ?_)) | refine e_if_eq (tgt := 77) dX11_ends_69 (by decide) (fun h69 => ?_) (fun h69 => ?_)
                · try first | contradiction | omega | (simp only [decide_eq_true_eq, decide_eq_false_iff_not] at h69; omega)
                  all_goals
                    refine e_bipush (v := nI 9) dX11_ends_77 rfl ?_
                    refine e_iconst (v := nI 1) dX11_ends_79 rfl ?_
                    refine y_V2 (M' := mX11_counts) dX11_ends_80 ml_X11_97 ok_X11_counts (by decide) rfl im_X11_counts se_X11_counts (ct_X11_counts ‹_› (by omega)) (Nat.le_of_ble_eq_true rfl) (by decide) (Nat.le_of_ble_eq_true rfl) ?_
                    refine e_aload_n dX11_ends_83 rfl rfl ?_
                    refine e_getR dX11_ends_84 fl_X11_7 rfl (by assumption) ?_
                    refine e_iload_n dX11_ends_87 rfl rfl ?_
                    refine e_iconst (v := nI 0) dX11_ends_88 rfl ?_
                    first | ((with_reducible refine mk_nn ?_); refine n_iadd dX11_ends_89 ?_) | refine e_iadd dX11_ends_89 ?_
                    first | ((with_reducible refine mk_ldw ?_); refine e_ldw dX11_ends_90 (by omega) ?_) | refine e_iald _ dX11_ends_90 ⟨by decide, by decide⟩ rfl rfl (by simp only [lenK]; omega) ?_
                    refine e_ret (some _) rfl (r_int dX11_ends_91 rfl) ?_
                    refine xq ?_ rfl rfl ?_ rfl rfl
                    · simp (disch := omega) only [upN_n, upN_s]
                    · simp (disch := omega) only [upN_n, rc]
                · try first | contradiction | omega | (simp only [decide_eq_true_eq, decide_eq_false_iff_not] at h69; omega)
                  all_goals
                    refine e_bipush (v := nI 10) dX11_ends_72 rfl ?_
                    refine e_goto (tgt := 79) dX11_ends_74 (by decide) ?_
                    refine e_iconst (v := nI 1) dX11_ends_79 rfl ?_
                    refine y_V2 (M' := mX11_counts) dX11_ends_80 ml_X11_97 ok_X11_counts (by decide) rfl im_X11_counts se_X11_counts (ct_X11_counts ‹_› (by omega)) (Nat.le_of_ble_eq_true rfl) (by decide) (Nat.le_of_ble_eq_true rfl) ?_
                    refine e_aload_n dX11_ends_83 rfl rfl ?_
                    refine e_getR dX11_ends_84 fl_X11_7 rfl (by assumption) ?_
                    refine e_iload_n dX11_ends_87 rfl rfl ?_
                    refine e_iconst (v := nI 0) dX11_ends_88 rfl ?_
                    first | ((with_reducible refine mk_nn ?_); refine n_iadd dX11_ends_89 ?_) | refine e_iadd dX11_ends_89 ?_
                    first | ((with_reducible refine mk_ldw ?_); refine e_ldw dX11_ends_90 (by omega) ?_) | refine e_iald _ dX11_ends_90 ⟨by decide, by decide⟩ rfl rfl (by simp only [lenK]; omega) ?_
                    refine e_ret (some _) rfl (r_int dX11_ends_91 rfl) ?_
                    refine xq ?_ rfl rfl ?_ rfl rfl
                    · simp (disch := omega) only [upN_n, upN_s]
                    · simp (disch := omega) only [upN_n, rc]
            · try first | contradiction | omega | (simp only [decide_eq_true_eq, decide_eq_false_iff_not] at h47; omega)
              all_goals
                refine e_bipush (v := nI 6) dX11_ends_50 rfl ?_
                refine e_goto (tgt := 56) dX11_ends_52 (by decide) ?_
                first | ((with_reducible refine mk_stw ?_); refine e_stw dX11_ends_56 (by omega) ?_) | refine e_iast _ dX11_ends_56 ⟨by decide, by decide⟩ rfl rfl (by simp only [lenK]; omega) ?_
                refine e_aload_n dX11_ends_57 rfl rfl ?_
                refine e_getR dX11_ends_58 fl_X11_7 rfl (by assumption) ?_
                refine e_iload_n dX11_ends_61 rfl rfl ?_
                refine e_bipush (v := nI 7) dX11_ends_62 rfl ?_
                first | ((with_reducible refine mk_nn ?_); refine n_iadd dX11_ends_64 ?_) | refine e_iadd dX11_ends_64 ?_
                refine e_iconst (v := nI 0) dX11_ends_65 rfl ?_
                first | ((with_reducible refine mk_stw ?_); refine e_stw dX11_ends_66 (by omega) ?_) | refine e_iast _ dX11_ends_66 ⟨by decide, by decide⟩ rfl rfl (by simp only [lenK]; omega) ?_
                refine e_aload_n dX11_ends_67 rfl rfl ?_
                refine e_iload_n dX11_ends_68 rfl rfl ?_
                first | ((with_reducible refine mk_b ?_); refine b_if_eq (tgt := 77) dX11_ends_69 (by decide) (fun h69 => ?_) (fun h69 => ?_)) | ((with_reducible refine mk_ll ?_); refine m_if_eq (tgt := 77) dX11_ends_69 (by decide) (by omega) (by omega) (fun h69 => ?_) (fun h69 => ?_)) | ((with_reducible refine mk_lc ?_); refine l_if_eq (tgt := 77) dX11_ends_69 (by decide) (fun h69 => ?_) (fun h69 => ?_)) | ((with_reducible refine mk_n ?_); refine n_if_eq (tgt := 77) dX11_ends_69 (by decide) (by omega) (fun h69 => ?_) (fun h69 => ?_)) | refine e_if_eq (tgt := 77) dX11_ends_69 (by decide) (fun h69 => ?_) (fun h69 => ?_)
                · try first | contradiction | omega | (simp only [decide_eq_true_eq, decide_eq_false_iff_not] at h69; omega)
                  all_goals
                    refine e_bipush (v := nI 9) dX11_ends_77 rfl ?_
                    refine e_iconst (v := nI 1) dX11_ends_79 rfl ?_
                    refine y_V2 (M' := mX11_counts) dX11_ends_80 ml_X11_97 ok_X11_counts (by decide) rfl im_X11_counts se_X11_counts (ct_X11_counts ‹_› (by omega)) (Nat.le_of_ble_eq_true rfl) (by decide) (Nat.le_of_ble_eq_true rfl) ?_
                    refine e_aload_n dX11_ends_83 rfl rfl ?_
                    refine e_getR dX11_ends_84 fl_X11_7 rfl (by assumption) ?_
                    refine e_iload_n dX11_ends_87 rfl rfl ?_
                    refine e_iconst (v := nI 0) dX11_ends_88 rfl ?_
                    first | ((with_reducible refine mk_nn ?_); refine n_iadd dX11_ends_89 ?_) | refine e_iadd dX11_ends_89 ?_
                    first | ((with_reducible refine mk_ldw ?_); refine e_ldw dX11_ends_90 (by omega) ?_) | refine e_iald _ dX11_ends_90 ⟨by decide, by decide⟩ rfl rfl (by simp only [lenK]; omega) ?_
                    refine e_ret (some _) rfl (r_int dX11_ends_91 rfl) ?_
                    refine xq ?_ rfl rfl ?_ rfl rfl
                    · simp (disch := omega) only [upN_n, upN_s]
                    · simp (disch := omega) only [upN_n, rc]
                · try first | contradiction | omega | (simp only [decide_eq_true_eq, decide_eq_false_iff_not] at h69; omega)
                  all_goals
                    refine e_bipush (v := nI 10) dX11_ends_72 rfl ?_
                    refine e_goto (tgt := 79) dX11_ends_74 (by decide) ?_
                    refine e_iconst (v := nI 1) dX11_ends_79 rfl ?_
                    refine y_V2 (M' := mX11_counts) dX11_ends_80 ml_X11_97 ok_X11_counts (by decide) rfl im_X11_counts se_X11_counts (ct_X11_counts ‹_› (by omega)) (Nat.le_of_ble_eq_true rfl) (by decide) (Nat.le_of_ble_eq_true rfl) ?_
                    refine e_aload_n dX11_ends_83 rfl rfl ?_
                    refine e_getR dX11_ends_84 fl_X11_7 rfl (by assumption) ?_
                    refine e_iload_n dX11_ends_87 rfl rfl ?_
                    refine e_iconst (v := nI 0) dX11_ends_88 rfl ?_
                    first | ((with_reducible refine mk_nn ?_); refine n_iadd dX11_ends_89 ?_) | refine e_iadd dX11_ends_89 ?_
                    first | ((with_reducible refine mk_ldw ?_); refine e_ldw dX11_ends_90 (by omega) ?_) | refine e_iald _ dX11_ends_90 ⟨by decide, by decide⟩ rfl rfl (by simp only [lenK]; omega) ?_
                    refine e_ret (some _) rfl (r_int dX11_ends_91 rfl) ?_
                    refine xq ?_ rfl rfl ?_ rfl rfl
                    · simp (disch := omega) only [upN_n, upN_s]
                    · simp (disch := omega) only [upN_n, rc]
  · have eS : endS w m = 5 := if_neg hst
    have eW : endW w m = upN (upN (upN (losW w m (w (7694 + 72 * m + 3))) (7694 + 72 * m + 0) 5) (7694 + 72 * m + 7) 0) (8558 + 9) (w (8558 + 9) + 1) := by unfold endW; rw [if_neg hst, if_neg hst, eS]
    rw [eS, eW]
    have rc : losW w m (w (7694 + 72 * m + 3)) (8558 + 9) = w (8558 + 9) := loF_fr (by omega)
    refine e_aload_n dX11_ends_0 rfl rfl ?_
    refine e_getR dX11_ends_1 fl_X11_7 rfl (by assumption) ?_
    refine e_iload_n dX11_ends_4 rfl rfl ?_
    refine e_iconst (v := nI 0) dX11_ends_5 rfl ?_
    first | ((with_reducible refine mk_nn ?_); refine n_iadd dX11_ends_6 ?_) | refine e_iadd dX11_ends_6 ?_
    first | ((with_reducible refine mk_ldw ?_); refine e_ldw dX11_ends_7 (by omega) ?_) | refine e_iald _ dX11_ends_7 ⟨by decide, by decide⟩ rfl rfl (by simp only [lenK]; omega) ?_
    refine e_iconst (v := nI 3) dX11_ends_8 rfl ?_
    first | ((with_reducible refine mk_nn ?_); refine n_icmp_gt (tgt := 16) dX11_ends_9 (by decide) (by omega) (by omega) (fun h9 => ?_) (fun h9 => ?_)) | refine e_icmp_gt (tgt := 16) dX11_ends_9 (by decide) (fun h9 => ?_) (fun h9 => ?_)
    · try first | contradiction | omega
      all_goals
        refine e_iconst (v := nI 0) dX11_ends_16 rfl ?_
        refine e_istore_n dX11_ends_17 rfl (Nat.le_of_ble_eq_true rfl) rfl ?_
        refine e_aload_n dX11_ends_18 rfl rfl ?_
        refine e_iload_n dX11_ends_19 rfl rfl ?_
        refine e_aload_n dX11_ends_20 rfl rfl ?_
        refine e_getR dX11_ends_21 fl_X11_7 rfl (by assumption) ?_
        refine e_iload_n dX11_ends_24 rfl rfl ?_
        refine e_iload_n dX11_ends_25 rfl rfl ?_
        first | ((with_reducible refine mk_b ?_); refine b_if_eq (tgt := 33) dX11_ends_26 (by decide) (fun h26 => ?_) (fun h26 => ?_)) | ((with_reducible refine mk_ll ?_); refine m_if_eq (tgt := 33) dX11_ends_26 (by decide) (by omega) (by omega) (fun h26 => ?_) (fun h26 => ?_)) | ((with_reducible refine mk_lc ?_); refine l_if_eq (tgt := 33) dX11_ends_26 (by decide) (fun h26 => ?_) (fun h26 => ?_)) | ((with_reducible refine mk_n ?_); refine n_if_eq (tgt := 33) dX11_ends_26 (by decide) (by omega) (fun h26 => ?_) (fun h26 => ?_)) | refine e_if_eq (tgt := 33) dX11_ends_26 (by decide) (fun h26 => ?_) (fun h26 => ?_)
        · try first | contradiction | omega | (simp only [decide_eq_true_eq, decide_eq_false_iff_not] at h26; omega)
          all_goals
            refine e_iconst (v := nI 3) dX11_ends_33 rfl ?_
            first | ((with_reducible refine mk_nn ?_); refine n_iadd dX11_ends_34 ?_) | refine e_iadd dX11_ends_34 ?_
            first | ((with_reducible refine mk_ldw ?_); refine e_ldw dX11_ends_35 (by omega) ?_) | refine e_iald _ dX11_ends_35 ⟨by decide, by decide⟩ rfl rfl (by simp only [lenK]; omega) ?_
            refine y_V2 (M' := mX11_loses) dX11_ends_36 ml_X11_202 ok_X11_loses (by decide) rfl im_X11_loses se_X11_loses (ct_X11_loses ‹_› ‹_› (by omega) (by omega)) (Nat.le_of_ble_eq_true rfl) (by decide) (Nat.le_of_ble_eq_true rfl) ?_
            refine e_aload_n dX11_ends_39 rfl rfl ?_
            refine e_getR dX11_ends_40 fl_X11_7 rfl (by assumption) ?_
            refine e_iload_n dX11_ends_43 rfl rfl ?_
            refine e_iconst (v := nI 0) dX11_ends_44 rfl ?_
            first | ((with_reducible refine mk_nn ?_); refine n_iadd dX11_ends_45 ?_) | refine e_iadd dX11_ends_45 ?_
            refine e_iload_n dX11_ends_46 rfl rfl ?_
            first | ((with_reducible refine mk_b ?_); refine b_if_eq (tgt := 55) dX11_ends_47 (by decide) (fun h47 => ?_) (fun h47 => ?_)) | ((with_reducible refine mk_ll ?_); refine m_if_eq (tgt := 55) dX11_ends_47 (by decide) (by omega) (by omega) (fun h47 => ?_) (fun h47 => ?_)) | ((with_reducible refine mk_lc ?_); refine l_if_eq (tgt := 55) dX11_ends_47 (by decide) (fun h47 => ?_) (fun h47 => ?_)) | ((with_reducible refine mk_n ?_); refine n_if_eq (tgt := 55) dX11_ends_47 (by decide) (by omega) (fun h47 => ?_) (fun h47 => ?_)) | refine e_if_eq (tgt := 55) dX11_ends_47 (by decide) (fun h47 => ?_) (fun h47 => ?_)
            · try first | contradiction | omega | (simp only [decide_eq_true_eq, decide_eq_false_iff_not] at h47; omega)
              all_goals
                refine e_iconst (v := nI 5) dX11_ends_55 rfl ?_
                first | ((with_reducible refine mk_stw ?_); refine e_stw dX11_ends_56 (by omega) ?_) | refine e_iast _ dX11_ends_56 ⟨by decide, by decide⟩ rfl rfl (by simp only [lenK]; omega) ?_
                refine e_aload_n dX11_ends_57 rfl rfl ?_
                refine e_getR dX11_ends_58 fl_X11_7 rfl (by assumption) ?_
                refine e_iload_n dX11_ends_61 rfl rfl ?_
                refine e_bipush (v := nI 7) dX11_ends_62 rfl ?_
                first | ((with_reducible refine mk_nn ?_); refine n_iadd dX11_ends_64 ?_) | refine e_iadd dX11_ends_64 ?_
                refine e_iconst (v := nI 0) dX11_ends_65 rfl ?_
                first | ((with_reducible refine mk_stw ?_); refine e_stw dX11_ends_66 (by omega) ?_) | refine e_iast _ dX11_ends_66 ⟨by decide, by decide⟩ rfl rfl (by simp only [lenK]; omega) ?_
                refine e_aload_n dX11_ends_67 rfl rfl ?_
                refine e_iload_n dX11_ends_68 rfl rfl ?_
                first | ((with_reducible refine mk_b ?_); refine b_if_eq (tgt := 77) dX11_ends_69 (by decide) (fun h69 => ?_) (fun h69 => ?_)) | ((with_reducible refine mk_ll ?_); refine m_if_eq (tgt := 77) dX11_ends_69 (by decide) (by omega) (by omega) (fun h69 => ?_) (fun h69 => ?_)) | ((with_reducible refine mk_lc ?_); refine l_if_eq (tgt := 77) dX11_ends_69 (by decide) (fun h69 => ?_) (fun h69 => ?_)) | ((with_reducible refine mk_n ?_); refine n_if_eq (tgt := 77) dX11_ends_69 (by decide) (by omega) (fun h69 => ?_) (fun h69 => ?_)) | refine e_if_eq (tgt := 77) dX11_ends_69 (by decide) (fun h69 => ?_) (fun h69 => ?_)
                · try first | contradiction | omega | (simp only [decide_eq_true_eq, decide_eq_false_iff_not] at h69; omega)
                  all_goals
                    refine e_bipush (v := nI 9) dX11_ends_77 rfl ?_
                    refine e_iconst (v := nI 1) dX11_ends_79 rfl ?_
                    refine y_V2 (M' := mX11_counts) dX11_ends_80 ml_X11_97 ok_X11_counts (by decide) rfl im_X11_counts se_X11_counts (ct_X11_counts ‹_› (by omega)) (Nat.le_of_ble_eq_true rfl) (by decide) (Nat.le_of_ble_eq_true rfl) ?_
                    refine e_aload_n dX11_ends_83 rfl rfl ?_
                    refine e_getR dX11_ends_84 fl_X11_7 rfl (by assumption) ?_
                    refine e_iload_n dX11_ends_87 rfl rfl ?_
                    refine e_iconst (v := nI 0) dX11_ends_88 rfl ?_
                    first | ((with_reducible refine mk_nn ?_); refine n_iadd dX11_ends_89 ?_) | refine e_iadd dX11_ends_89 ?_
                    first | ((with_reducible refine mk_ldw ?_); refine e_ldw dX11_ends_90 (by omega) ?_) | refine e_iald _ dX11_ends_90 ⟨by decide, by decide⟩ rfl rfl (by simp only [lenK]; omega) ?_
                    refine e_ret (some _) rfl (r_int dX11_ends_91 rfl) ?_
                    refine xq ?_ rfl rfl ?_ rfl rfl
                    · simp (disch := omega) only [upN_n, upN_s]
                    · simp (disch := omega) only [upN_n, rc]
                · try first | contradiction | omega | (simp only [decide_eq_true_eq, decide_eq_false_iff_not] at h69; omega)
                  all_goals
                    refine e_bipush (v := nI 10) dX11_ends_72 rfl ?_
                    refine e_goto (tgt := 79) dX11_ends_74 (by decide) ?_
                    refine e_iconst (v := nI 1) dX11_ends_79 rfl ?_
                    refine y_V2 (M' := mX11_counts) dX11_ends_80 ml_X11_97 ok_X11_counts (by decide) rfl im_X11_counts se_X11_counts (ct_X11_counts ‹_› (by omega)) (Nat.le_of_ble_eq_true rfl) (by decide) (Nat.le_of_ble_eq_true rfl) ?_
                    refine e_aload_n dX11_ends_83 rfl rfl ?_
                    refine e_getR dX11_ends_84 fl_X11_7 rfl (by assumption) ?_
                    refine e_iload_n dX11_ends_87 rfl rfl ?_
                    refine e_iconst (v := nI 0) dX11_ends_88 rfl ?_
                    first | ((with_reducible refine mk_nn ?_); refine n_iadd dX11_ends_89 ?_) | refine e_iadd dX11_ends_89 ?_
                    first | ((with_reducible refine mk_ldw ?_); refine e_ldw dX11_ends_90 (by omega) ?_) | refine e_iald _ dX11_ends_90 ⟨by decide, by decide⟩ rfl rfl (by simp only [lenK]; omega) ?_
                    refine e_ret (some _) rfl (r_int dX11_ends_91 rfl) ?_
                    refine xq ?_ rfl rfl ?_ rfl rfl
                    · simp (disch := omega) only [upN_n, upN_s]
                    · simp (disch := omega) only [upN_n, rc]
            · try first | contradiction | omega | (simp only [decide_eq_true_eq, decide_eq_false_iff_not] at h47; omega)
              all_goals
                refine e_bipush (v := nI 6) dX11_ends_50 rfl ?_
                refine e_goto (tgt := 56) dX11_ends_52 (by decide) ?_
                first | ((with_reducible refine mk_stw ?_); refine e_stw dX11_ends_56 (by omega) ?_) | refine e_iast _ dX11_ends_56 ⟨by decide, by decide⟩ rfl rfl (by simp only [lenK]; omega) ?_
                refine e_aload_n dX11_ends_57 rfl rfl ?_
                refine e_getR dX11_ends_58 fl_X11_7 rfl (by assumption) ?_
                refine e_iload_n dX11_ends_61 rfl rfl ?_
                refine e_bipush (v := nI 7) dX11_ends_62 rfl ?_
                first | ((with_reducible refine mk_nn ?_); refine n_iadd dX11_ends_64 ?_) | refine e_iadd dX11_ends_64 ?_
                refine e_iconst (v := nI 0) dX11_ends_65 rfl ?_
                first | ((with_reducible refine mk_stw ?_); refine e_stw dX11_ends_66 (by omega) ?_) | refine e_iast _ dX11_ends_66 ⟨by decide, by decide⟩ rfl rfl (by simp only [lenK]; omega) ?_
                refine e_aload_n dX11_ends_67 rfl rfl ?_
                refine e_iload_n dX11_ends_68 rfl rfl ?_
                first | ((with_reducible refine mk_b ?_); refine b_if_eq (tgt := 77) dX11_ends_69 (by decide) (fun h69 => ?_) (fun h69 => ?_)) | ((with_reducible refine mk_ll ?_); refine m_if_eq (tgt := 77) dX11_ends_69 (by decide) (by omega) (by omega) (fun h69 => ?_) (fun h69 => ?_)) | ((with_reducible refine mk_lc ?_); refine l_if_eq (tgt := 77) dX11_ends_69 (by decide) (fun h69 => ?_) (fun h69 => ?_)) | ((with_reducible refine mk_n ?_); refine n_if_eq (tgt := 77) dX11_ends_69 (by decide) (by omega) (fun h69 => ?_) (fun h69 => ?_)) | refine e_if_eq (tgt := 77) dX11_ends_69 (by decide) (fun h69 => ?_) (fun h69 => ?_)
                · try first | contradiction | omega | (simp only [decide_eq_true_eq, decide_eq_false_iff_not] at h69; omega)
                  all_goals
                    refine e_bipush (v := nI 9) dX11_ends_77 rfl ?_
                    refine e_iconst (v := nI 1) dX11_ends_79 rfl ?_
                    refine y_V2 (M' := mX11_counts) dX11_ends_80 ml_X11_97 ok_X11_counts (by decide) rfl im_X11_counts se_X11_counts (ct_X11_counts ‹_› (by omega)) (Nat.le_of_ble_eq_true rfl) (by decide) (Nat.le_of_ble_eq_true rfl) ?_
                    refine e_aload_n dX11_ends_83 rfl rfl ?_
                    refine e_getR dX11_ends_84 fl_X11_7 rfl (by assumption) ?_
                    refine e_iload_n dX11_ends_87 rfl rfl ?_
                    refine e_iconst (v := nI 0) dX11_ends_88 rfl ?_
                    first | ((with_reducible refine mk_nn ?_); refine n_iadd dX11_ends_89 ?_) | refine e_iadd dX11_ends_89 ?_
                    first | ((with_reducible refine mk_ldw ?_); refine e_ldw dX11_ends_90 (by omega) ?_) | refine e_iald _ dX11_ends_90 ⟨by decide, by decide⟩ rfl rfl (by simp only [lenK]; omega) ?_
                    refine e_ret (some _) rfl (r_int dX11_ends_91 rfl) ?_
                    refine xq ?_ rfl rfl ?_ rfl rfl
                    · simp (disch := omega) only [upN_n, upN_s]
                    · simp (disch := omega) only [upN_n, rc]
                · try first | contradiction | omega | (simp only [decide_eq_true_eq, decide_eq_false_iff_not] at h69; omega)
                  all_goals
                    refine e_bipush (v := nI 10) dX11_ends_72 rfl ?_
                    refine e_goto (tgt := 79) dX11_ends_74 (by decide) ?_
                    refine e_iconst (v := nI 1) dX11_ends_79 rfl ?_
                    refine y_V2 (M' := mX11_counts) dX11_ends_80 ml_X11_97 ok_X11_counts (by decide) rfl im_X11_counts se_X11_counts (ct_X11_counts ‹_› (by omega)) (Nat.le_of_ble_eq_true rfl) (by decide) (Nat.le_of_ble_eq_true rfl) ?_
                    refine e_aload_n dX11_ends_83 rfl rfl ?_
                    refine e_getR dX11_ends_84 fl_X11_7 rfl (by assumption) ?_
                    refine e_iload_n dX11_ends_87 rfl rfl ?_
                    refine e_iconst (v := nI 0) dX11_ends_88 rfl ?_
                    first | ((with_reducible refine mk_nn ?_); refine n_iadd dX11_ends_89 ?_) | refine e_iadd dX11_ends_89 ?_
                    first | ((with_reducible refine mk_ldw ?_); refine e_ldw dX11_ends_90 (by omega) ?_) | refine e_iald _ dX11_ends_90 ⟨by decide, by decide⟩ rfl rfl (by simp only [lenK]; omega) ?_
                    refine e_ret (some _) rfl (r_int dX11_ends_91 rfl) ?_
                    refine xq ?_ rfl rfl ?_ rfl rfl
                    · simp (disch := omega) only [upN_n, upN_s]
                    · simp (disch := omega) only [upN_n, rc]
        · try first | contradiction | omega | (simp only [decide_eq_true_eq, decide_eq_false_iff_not] at h26; omega)
          all_goals
            refine e_iconst (v := nI 4) dX11_ends_29 rfl ?_
            refine e_goto (tgt := 34) dX11_ends_30 (by decide) ?_
            first | ((with_reducible refine mk_nn ?_); refine n_iadd dX11_ends_34 ?_) | refine e_iadd dX11_ends_34 ?_
            first | ((with_reducible refine mk_ldw ?_); refine e_ldw dX11_ends_35 (by omega) ?_) | refine e_iald _ dX11_ends_35 ⟨by decide, by decide⟩ rfl rfl (by simp only [lenK]; omega) ?_
            refine y_V2 (M' := mX11_loses) dX11_ends_36 ml_X11_202 ok_X11_loses (by decide) rfl im_X11_loses se_X11_loses (ct_X11_loses ‹_› ‹_› (by omega) (by omega)) (Nat.le_of_ble_eq_true rfl) (by decide) (Nat.le_of_ble_eq_true rfl) ?_
            refine e_aload_n dX11_ends_39 rfl rfl ?_
            refine e_getR dX11_ends_40 fl_X11_7 rfl (by assumption) ?_
            refine e_iload_n dX11_ends_43 rfl rfl ?_
            refine e_iconst (v := nI 0) dX11_ends_44 rfl ?_
            first | ((with_reducible refine mk_nn ?_); refine n_iadd dX11_ends_45 ?_) | refine e_iadd dX11_ends_45 ?_
            refine e_iload_n dX11_ends_46 rfl rfl ?_
            first | ((with_reducible refine mk_b ?_); refine b_if_eq (tgt := 55) dX11_ends_47 (by decide) (fun h47 => ?_) (fun h47 => ?_)) | ((with_reducible refine mk_ll ?_); refine m_if_eq (tgt := 55) dX11_ends_47 (by decide) (by omega) (by omega) (fun h47 => ?_) (fun h47 => ?_)) | ((with_reducible refine mk_lc ?_); refine l_if_eq (tgt := 55) dX11_ends_47 (by decide) (fun h47 => ?_) (fun h47 => ?_)) | ((with_reducible refine mk_n ?_); refine n_if_eq (tgt := 55) dX11_ends_47 (by decide) (by omega) (fun h47 => ?_) (fun h47 => ?_)) | refine e_if_eq (tgt := 55) dX11_ends_47 (by decide) (fun h47 => ?_) (fun h47 => ?_)
            · try first | contradiction | omega | (simp only [decide_eq_true_eq, decide_eq_false_iff_not] at h47; omega)
              all_goals
                refine e_iconst (v := nI 5) dX11_ends_55 rfl ?_
                first | ((with_reducible refine mk_stw ?_); refine e_stw dX11_ends_56 (by omega) ?_) | refine e_iast _ dX11_ends_56 ⟨by decide, by decide⟩ rfl rfl (by simp only [lenK]; omega) ?_
                refine e_aload_n dX11_ends_57 rfl rfl ?_
                refine e_getR dX11_ends_58 fl_X11_7 rfl (by assumption) ?_
                refine e_iload_n dX11_ends_61 rfl rfl ?_
                refine e_bipush (v := nI 7) dX11_ends_62 rfl ?_
                first | ((with_reducible refine mk_nn ?_); refine n_iadd dX11_ends_64 ?_) | refine e_iadd dX11_ends_64 ?_
                refine e_iconst (v := nI 0) dX11_ends_65 rfl ?_
                first | ((with_reducible refine mk_stw ?_); refine e_stw dX11_ends_66 (by omega) ?_) | refine e_iast _ dX11_ends_66 ⟨by decide, by decide⟩ rfl rfl (by simp only [lenK]; omega) ?_
                refine e_aload_n dX11_ends_67 rfl rfl ?_
                refine e_iload_n dX11_ends_68 rfl rfl ?_
                first | ((with_reducible refine mk_b ?_); refine b_if_eq (tgt := 77) dX11_ends_69 (by decide) (fun h69 => ?_) (fun h69 => ?_)) | ((with_reducible refine mk_ll ?_); refine m_if_eq (tgt := 77) dX11_ends_69 (by decide) (by omega) (by omega) (fun h69 => ?_) (fun h69 => ?_)) | ((with_reducible refine mk_lc ?_); refine l_if_eq (tgt := 77) dX11_ends_69 (by decide) (fun h69 => ?_) (fun h69 => ?_)) | ((with_reducible refine mk_n ?_); refine n_if_eq (tgt := 77) dX11_ends_69 (by decide) (by omega) (fun h69 => ?_) (fun h69 => ?_)) | refine e_if_eq (tgt := 77) dX11_ends_69 (by decide) (fun h69 => ?_) (fun h69 => ?_)
                · try first | contradiction | omega | (simp only [decide_eq_true_eq, decide_eq_false_iff_not] at h69; omega)
                  all_goals
                    refine e_bipush (v := nI 9) dX11_ends_77 rfl ?_
                    refine e_iconst (v := nI 1) dX11_ends_79 rfl ?_
                    refine y_V2 (M' := mX11_counts) dX11_ends_80 ml_X11_97 ok_X11_counts (by decide) rfl im_X11_counts se_X11_counts (ct_X11_counts ‹_› (by omega)) (Nat.le_of_ble_eq_true rfl) (by decide) (Nat.le_of_ble_eq_true rfl) ?_
                    refine e_aload_n dX11_ends_83 rfl rfl ?_
                    refine e_getR dX11_ends_84 fl_X11_7 rfl (by assumption) ?_
                    refine e_iload_n dX11_ends_87 rfl rfl ?_
                    refine e_iconst (v := nI 0) dX11_ends_88 rfl ?_
                    first | ((with_reducible refine mk_nn ?_); refine n_iadd dX11_ends_89 ?_) | refine e_iadd dX11_ends_89 ?_
                    first | ((with_reducible refine mk_ldw ?_); refine e_ldw dX11_ends_90 (by omega) ?_) | refine e_iald _ dX11_ends_90 ⟨by decide, by decide⟩ rfl rfl (by simp only [lenK]; omega) ?_
                    refine e_ret (some _) rfl (r_int dX11_ends_91 rfl) ?_
                    refine xq ?_ rfl rfl ?_ rfl rfl
                    · simp (disch := omega) only [upN_n, upN_s]
                    · simp (disch := omega) only [upN_n, rc]
                · try first | contradiction | omega | (simp only [decide_eq_true_eq, decide_eq_false_iff_not] at h69; omega)
                  all_goals
                    refine e_bipush (v := nI 10) dX11_ends_72 rfl ?_
                    refine e_goto (tgt := 79) dX11_ends_74 (by decide) ?_
                    refine e_iconst (v := nI 1) dX11_ends_79 rfl ?_
                    refine y_V2 (M' := mX11_counts) dX11_ends_80 ml_X11_97 ok_X11_counts (by decide) rfl im_X11_counts se_X11_counts (ct_X11_counts ‹_› (by omega)) (Nat.le_of_ble_eq_true rfl) (by decide) (Nat.le_of_ble_eq_true rfl) ?_
                    refine e_aload_n dX11_ends_83 rfl rfl ?_
                    refine e_getR dX11_ends_84 fl_X11_7 rfl (by assumption) ?_
                    refine e_iload_n dX11_ends_87 rfl rfl ?_
                    refine e_iconst (v := nI 0) dX11_ends_88 rfl ?_
                    first | ((with_reducible refine mk_nn ?_); refine n_iadd dX11_ends_89 ?_) | refine e_iadd dX11_ends_89 ?_
                    first | ((with_reducible refine mk_ldw ?_); refine e_ldw dX11_ends_90 (by omega) ?_) | refine e_iald _ dX11_ends_90 ⟨by decide, by decide⟩ rfl rfl (by simp only [lenK]; omega) ?_
                    refine e_ret (some _) rfl (r_int dX11_ends_91 rfl) ?_
                    refine xq ?_ rfl rfl ?_ rfl rfl
                    · simp (disch := omega) only [upN_n, upN_s]
                    · simp (disch := omega) only [upN_n, rc]
            · try first | contradiction | omega | (simp only [decide_eq_true_eq, decide_eq_false_iff_not] at h47; omega)
              all_goals
                refine e_bipush (v := nI 6) dX11_ends_50 rfl ?_
                refine e_goto (tgt := 56) dX11_ends_52 (by decide) ?_
                first | ((with_reducible refine mk_stw ?_); refine e_stw dX11_ends_56 (by omega) ?_) | refine e_iast _ dX11_ends_56 ⟨by decide, by decide⟩ rfl rfl (by simp only [lenK]; omega) ?_
                refine e_aload_n dX11_ends_57 rfl rfl ?_
                refine e_getR dX11_ends_58 fl_X11_7 rfl (by assumption) ?_
                refine e_iload_n dX11_ends_61 rfl rfl ?_
                refine e_bipush (v := nI 7) dX11_ends_62 rfl ?_
                first | ((with_reducible refine mk_nn ?_); refine n_iadd dX11_ends_64 ?_) | refine e_iadd dX11_ends_64 ?_
                refine e_iconst (v := nI 0) dX11_ends_65 rfl ?_
                first | ((with_reducible refine mk_stw ?_); refine e_stw dX11_ends_66 (by omega) ?_) | refine e_iast _ dX11_ends_66 ⟨by decide, by decide⟩ rfl rfl (by simp only [lenK]; omega) ?_
                refine e_aload_n dX11_ends_67 rfl rfl ?_
                refine e_iload_n dX11_ends_68 rfl rfl ?_
                first | ((with_reducible refine mk_b ?_); refine b_if_eq (tgt := 77) dX11_ends_69 (by decide) (fun h69 => ?_) (fun h69 => ?_)) | ((with_reducible refine mk_ll ?_); refine m_if_eq (tgt := 77) dX11_ends_69 (by decide) (by omega) (by omega) (fun h69 => ?_) (fun h69 => ?_)) | ((with_reducible refine mk_lc ?_); refine l_if_eq (tgt := 77) dX11_ends_69 (by decide) (fun h69 => ?_) (fun h69 => ?_)) | ((with_reducible refine mk_n ?_); refine n_if_eq (tgt := 77) dX11_ends_69 (by decide) (by omega) (fun h69 => ?_) (fun h69 => ?_)) | refine e_if_eq (tgt := 77) dX11_ends_69 (by decide) (fun h69 => ?_) (fun h69 => ?_)
                · try first | contradiction | omega | (simp only [decide_eq_true_eq, decide_eq_false_iff_not] at h69; omega)
                  all_goals
                    refine e_bipush (v := nI 9) dX11_ends_77 rfl ?_
                    refine e_iconst (v := nI 1) dX11_ends_79 rfl ?_
                    refine y_V2 (M' := mX11_counts) dX11_ends_80 ml_X11_97 ok_X11_counts (by decide) rfl im_X11_counts se_X11_counts (ct_X11_counts ‹_› (by omega)) (Nat.le_of_ble_eq_true rfl) (by decide) (Nat.le_of_ble_eq_true rfl) ?_
                    refine e_aload_n dX11_ends_83 rfl rfl ?_
                    refine e_getR dX11_ends_84 fl_X11_7 rfl (by assumption) ?_
                    refine e_iload_n dX11_ends_87 rfl rfl ?_
                    refine e_iconst (v := nI 0) dX11_ends_88 rfl ?_
                    first | ((with_reducible refine mk_nn ?_); refine n_iadd dX11_ends_89 ?_) | refine e_iadd dX11_ends_89 ?_
                    first | ((with_reducible refine mk_ldw ?_); refine e_ldw dX11_ends_90 (by omega) ?_) | refine e_iald _ dX11_ends_90 ⟨by decide, by decide⟩ rfl rfl (by simp only [lenK]; omega) ?_
                    refine e_ret (some _) rfl (r_int dX11_ends_91 rfl) ?_
                    refine xq ?_ rfl rfl ?_ rfl rfl
                    · simp (disch := omega) only [upN_n, upN_s]
                    · simp (disch := omega) only [upN_n, rc]
                · try first | contradiction | omega | (simp only [decide_eq_true_eq, decide_eq_false_iff_not] at h69; omega)
                  all_goals
                    refine e_bipush (v := nI 10) dX11_ends_72 rfl ?_
                    refine e_goto (tgt := 79) dX11_ends_74 (by decide) ?_
                    refine e_iconst (v := nI 1) dX11_ends_79 rfl ?_
                    refine y_V2 (M' := mX11_counts) dX11_ends_80 ml_X11_97 ok_X11_counts (by decide) rfl im_X11_counts se_X11_counts (ct_X11_counts ‹_› (by omega)) (Nat.le_of_ble_eq_true rfl) (by decide) (Nat.le_of_ble_eq_true rfl) ?_
                    refine e_aload_n dX11_ends_83 rfl rfl ?_
                    refine e_getR dX11_ends_84 fl_X11_7 rfl (by assumption) ?_
                    refine e_iload_n dX11_ends_87 rfl rfl ?_
                    refine e_iconst (v := nI 0) dX11_ends_88 rfl ?_
                    first | ((with_reducible refine mk_nn ?_); refine n_iadd dX11_ends_89 ?_) | refine e_iadd dX11_ends_89 ?_
                    first | ((with_reducible refine mk_ldw ?_); refine e_ldw dX11_ends_90 (by omega) ?_) | refine e_iald _ dX11_ends_90 ⟨by decide, by decide⟩ rfl rfl (by simp only [lenK]; omega) ?_
                    refine e_ret (some _) rfl (r_int dX11_ends_91 rfl) ?_
                    refine xq ?_ rfl rfl ?_ rfl rfl
                    · simp (disch := omega) only [upN_n, upN_s]
                    · simp (disch := omega) only [upN_n, rc]
    · try first | contradiction | omega
      all_goals
        refine e_iconst (v := nI 1) dX11_ends_12 rfl ?_
        refine e_goto (tgt := 17) dX11_ends_13 (by decide) ?_
        refine e_istore_n dX11_ends_17 rfl (Nat.le_of_ble_eq_true rfl) rfl ?_
        refine e_aload_n dX11_ends_18 rfl rfl ?_
        refine e_iload_n dX11_ends_19 rfl rfl ?_
        refine e_aload_n dX11_ends_20 rfl rfl ?_
        refine e_getR dX11_ends_21 fl_X11_7 rfl (by assumption) ?_
        refine e_iload_n dX11_ends_24 rfl rfl ?_
        refine e_iload_n dX11_ends_25 rfl rfl ?_
        first | ((with_reducible refine mk_b ?_); refine b_if_eq (tgt := 33) dX11_ends_26 (by decide) (fun h26 => ?_) (fun h26 => ?_)) | ((with_reducible refine mk_ll ?_); refine m_if_eq (tgt := 33) dX11_ends_26 (by decide) (by omega) (by omega) (fun h26 => ?_) (fun h26 => ?_)) | ((with_reducible refine mk_lc ?_); refine l_if_eq (tgt := 33) dX11_ends_26 (by decide) (fun h26 => ?_) (fun h26 => ?_)) | ((with_reducible refine mk_n ?_); refine n_if_eq (tgt := 33) dX11_ends_26 (by decide) (by omega) (fun h26 => ?_) (fun h26 => ?_)) | refine e_if_eq (tgt := 33) dX11_ends_26 (by decide) (fun h26 => ?_) (fun h26 => ?_)
        · try first | contradiction | omega | (simp only [decide_eq_true_eq, decide_eq_false_iff_not] at h26; omega)
          all_goals
            refine e_iconst (v := nI 3) dX11_ends_33 rfl ?_
            first | ((with_reducible refine mk_nn ?_); refine n_iadd dX11_ends_34 ?_) | refine e_iadd dX11_ends_34 ?_
            first | ((with_reducible refine mk_ldw ?_); refine e_ldw dX11_ends_35 (by omega) ?_) | refine e_iald _ dX11_ends_35 ⟨by decide, by decide⟩ rfl rfl (by simp only [lenK]; omega) ?_
            refine y_V2 (M' := mX11_loses) dX11_ends_36 ml_X11_202 ok_X11_loses (by decide) rfl im_X11_loses se_X11_loses (ct_X11_loses ‹_› ‹_› (by omega) (by omega)) (Nat.le_of_ble_eq_true rfl) (by decide) (Nat.le_of_ble_eq_true rfl) ?_
            refine e_aload_n dX11_ends_39 rfl rfl ?_
            refine e_getR dX11_ends_40 fl_X11_7 rfl (by assumption) ?_
            refine e_iload_n dX11_ends_43 rfl rfl ?_
            refine e_iconst (v := nI 0) dX11_ends_44 rfl ?_
            first | ((with_reducible refine mk_nn ?_); refine n_iadd dX11_ends_45 ?_) | refine e_iadd dX11_ends_45 ?_
            refine e_iload_n dX11_ends_46 rfl rfl ?_
            first | ((with_reducible refine mk_b ?_); refine b_if_eq (tgt := 55) dX11_ends_47 (by decide) (fun h47 => ?_) (fun h47 => ?_)) | ((with_reducible refine mk_ll ?_); refine m_if_eq (tgt := 55) dX11_ends_47 (by decide) (by omega) (by omega) (fun h47 => ?_) (fun h47 => ?_)) | ((with_reducible refine mk_lc ?_); refine l_if_eq (tgt := 55) dX11_ends_47 (by decide) (fun h47 => ?_) (fun h47 => ?_)) | ((with_reducible refine mk_n ?_); refine n_if_eq (tgt := 55) dX11_ends_47 (by decide) (by omega) (fun h47 => ?_) (fun h47 => ?_)) | refine e_if_eq (tgt := 55) dX11_ends_47 (by decide) (fun h47 => ?_) (fun h47 => ?_)
            · try first | contradiction | omega | (simp only [decide_eq_true_eq, decide_eq_false_iff_not] at h47; omega)
              all_goals
                refine e_iconst (v := nI 5) dX11_ends_55 rfl ?_
                first | ((with_reducible refine mk_stw ?_); refine e_stw dX11_ends_56 (by omega) ?_) | refine e_iast _ dX11_ends_56 ⟨by decide, by decide⟩ rfl rfl (by simp only [lenK]; omega) ?_
                refine e_aload_n dX11_ends_57 rfl rfl ?_
                refine e_getR dX11_ends_58 fl_X11_7 rfl (by assumption) ?_
                refine e_iload_n dX11_ends_61 rfl rfl ?_
                refine e_bipush (v := nI 7) dX11_ends_62 rfl ?_
                first | ((with_reducible refine mk_nn ?_); refine n_iadd dX11_ends_64 ?_) | refine e_iadd dX11_ends_64 ?_
                refine e_iconst (v := nI 0) dX11_ends_65 rfl ?_
                first | ((with_reducible refine mk_stw ?_); refine e_stw dX11_ends_66 (by omega) ?_) | refine e_iast _ dX11_ends_66 ⟨by decide, by decide⟩ rfl rfl (by simp only [lenK]; omega) ?_
                refine e_aload_n dX11_ends_67 rfl rfl ?_
                refine e_iload_n dX11_ends_68 rfl rfl ?_
                first | ((with_reducible refine mk_b ?_); refine b_if_eq (tgt := 77) dX11_ends_69 (by decide) (fun h69 => ?_) (fun h69 => ?_)) | ((with_reducible refine mk_ll ?_); refine m_if_eq (tgt := 77) dX11_ends_69 (by decide) (by omega) (by omega) (fun h69 => ?_) (fun h69 => ?_)) | ((with_reducible refine mk_lc ?_); refine l_if_eq (tgt := 77) dX11_ends_69 (by decide) (fun h69 => ?_) (fun h69 => ?_)) | ((with_reducible refine mk_n ?_); refine n_if_eq (tgt := 77) dX11_ends_69 (by decide) (by omega) (fun h69 => ?_) (fun h69 => ?_)) | refine e_if_eq (tgt := 77) dX11_ends_69 (by decide) (fun h69 => ?_) (fun h69 => ?_)
                · try first | contradiction | omega | (simp only [decide_eq_true_eq, decide_eq_false_iff_not] at h69; omega)
                  all_goals
                    refine e_bipush (v := nI 9) dX11_ends_77 rfl ?_
                    refine e_iconst (v := nI 1) dX11_ends_79 rfl ?_
                    refine y_V2 (M' := mX11_counts) dX11_ends_80 ml_X11_97 ok_X11_counts (by decide) rfl im_X11_counts se_X11_counts (ct_X11_counts ‹_› (by omega)) (Nat.le_of_ble_eq_true rfl) (by decide) (Nat.le_of_ble_eq_true rfl) ?_
                    refine e_aload_n dX11_ends_83 rfl rfl ?_
                    refine e_getR dX11_ends_84 fl_X11_7 rfl (by assumption) ?_
                    refine e_iload_n dX11_ends_87 rfl rfl ?_
                    refine e_iconst (v := nI 0) dX11_ends_88 rfl ?_
                    first | ((with_reducible refine mk_nn ?_); refine n_iadd dX11_ends_89 ?_) | refine e_iadd dX11_ends_89 ?_
                    first | ((with_reducible refine mk_ldw ?_); refine e_ldw dX11_ends_90 (by omega) ?_) | refine e_iald _ dX11_ends_90 ⟨by decide, by decide⟩ rfl rfl (by simp only [lenK]; omega) ?_
                    refine e_ret (some _) rfl (r_int dX11_ends_91 rfl) ?_
                    refine xq ?_ rfl rfl ?_ rfl rfl
                    · simp (disch := omega) only [upN_n, upN_s]
                    · simp (disch := omega) only [upN_n, rc]
                · try first | contradiction | omega | (simp only [decide_eq_true_eq, decide_eq_false_iff_not] at h69; omega)
                  all_goals
                    refine e_bipush (v := nI 10) dX11_ends_72 rfl ?_
                    refine e_goto (tgt := 79) dX11_ends_74 (by decide) ?_
                    refine e_iconst (v := nI 1) dX11_ends_79 rfl ?_
                    refine y_V2 (M' := mX11_counts) dX11_ends_80 ml_X11_97 ok_X11_counts (by decide) rfl im_X11_counts se_X11_counts (ct_X11_counts ‹_› (by omega)) (Nat.le_of_ble_eq_true rfl) (by decide) (Nat.le_of_ble_eq_true rfl) ?_
                    refine e_aload_n dX11_ends_83 rfl rfl ?_
                    refine e_getR dX11_ends_84 fl_X11_7 rfl (by assumption) ?_
                    refine e_iload_n dX11_ends_87 rfl rfl ?_
                    refine e_iconst (v := nI 0) dX11_ends_88 rfl ?_
                    first | ((with_reducible refine mk_nn ?_); refine n_iadd dX11_ends_89 ?_) | refine e_iadd dX11_ends_89 ?_
                    first | ((with_reducible refine mk_ldw ?_); refine e_ldw dX11_ends_90 (by omega) ?_) | refine e_iald _ dX11_ends_90 ⟨by decide, by decide⟩ rfl rfl (by simp only [lenK]; omega) ?_
                    refine e_ret (some _) rfl (r_int dX11_ends_91 rfl) ?_
                    refine xq ?_ rfl rfl ?_ rfl rfl
                    · simp (disch := omega) only [upN_n, upN_s]
                    · simp (disch := omega) only [upN_n, rc]
            · try first | contradiction | omega | (simp only [decide_eq_true_eq, decide_eq_false_iff_not] at h47; omega)
              all_goals
                refine e_bipush (v := nI 6) dX11_ends_50 rfl ?_
                refine e_goto (tgt := 56) dX11_ends_52 (by decide) ?_
                first | ((with_reducible refine mk_stw ?_); refine e_stw dX11_ends_56 (by omega) ?_) | refine e_iast _ dX11_ends_56 ⟨by decide, by decide⟩ rfl rfl (by simp only [lenK]; omega) ?_
                refine e_aload_n dX11_ends_57 rfl rfl ?_
                refine e_getR dX11_ends_58 fl_X11_7 rfl (by assumption) ?_
                refine e_iload_n dX11_ends_61 rfl rfl ?_
                refine e_bipush (v := nI 7) dX11_ends_62 rfl ?_
                first | ((with_reducible refine mk_nn ?_); refine n_iadd dX11_ends_64 ?_) | refine e_iadd dX11_ends_64 ?_
                refine e_iconst (v := nI 0) dX11_ends_65 rfl ?_
                first | ((with_reducible refine mk_stw ?_); refine e_stw dX11_ends_66 (by omega) ?_) | refine e_iast _ dX11_ends_66 ⟨by decide, by decide⟩ rfl rfl (by simp only [lenK]; omega) ?_
                refine e_aload_n dX11_ends_67 rfl rfl ?_
                refine e_iload_n dX11_ends_68 rfl rfl ?_
                first | ((with_reducible refine mk_b ?_); refine b_if_eq (tgt := 77) dX11_ends_69 (by decide) (fun h69 => ?_) (fun h69 => ?_)) | ((with_reducible refine mk_ll ?_); refine m_if_eq (tgt := 77) dX11_ends_69 (by decide) (by omega) (by omega) (fun h69 => ?_) (fun h69 => ?_)) | ((with_reducible refine mk_lc ?_); refine l_if_eq (tgt := 77) dX11_ends_69 (by decide) (fun h69 => ?_) (fun h69 => ?_)) | ((with_reducible refine mk_n ?_); refine n_if_eq (tgt := 77) dX11_ends_69 (by decide) (by omega) (fun h69 => ?_) (fun h69 => ?_)) | refine e_if_eq (tgt := 77) dX11_ends_69 (by decide) (fun h69 => ?_) (fun h69 => ?_)
                · try first | contradiction | omega | (simp only [decide_eq_true_eq, decide_eq_false_iff_not] at h69; omega)
                  all_goals
                    refine e_bipush (v := nI 9) dX11_ends_77 rfl ?_
                    refine e_iconst (v := nI 1) dX11_ends_79 rfl ?_
                    refine y_V2 (M' := mX11_counts) dX11_ends_80 ml_X11_97 ok_X11_counts (by decide) rfl im_X11_counts se_X11_counts (ct_X11_counts ‹_› (by omega)) (Nat.le_of_ble_eq_true rfl) (by decide) (Nat.le_of_ble_eq_true rfl) ?_
                    refine e_aload_n dX11_ends_83 rfl rfl ?_
                    refine e_getR dX11_ends_84 fl_X11_7 rfl (by assumption) ?_
                    refine e_iload_n dX11_ends_87 rfl rfl ?_
                    refine e_iconst (v := nI 0) dX11_ends_88 rfl ?_
                    first | ((with_reducible refine mk_nn ?_); refine n_iadd dX11_ends_89 ?_) | refine e_iadd dX11_ends_89 ?_
                    first | ((with_reducible refine mk_ldw ?_); refine e_ldw dX11_ends_90 (by omega) ?_) | refine e_iald _ dX11_ends_90 ⟨by decide, by decide⟩ rfl rfl (by simp only [lenK]; omega) ?_
                    refine e_ret (some _) rfl (r_int dX11_ends_91 rfl) ?_
                    refine xq ?_ rfl rfl ?_ rfl rfl
                    · simp (disch := omega) only [upN_n, upN_s]
                    · simp (disch := omega) only [upN_n, rc]
                · try first | contradiction | omega | (simp only [decide_eq_true_eq, decide_eq_false_iff_not] at h69; omega)
                  all_goals
                    refine e_bipush (v := nI 10) dX11_ends_72 rfl ?_
                    refine e_goto (tgt := 79) dX11_ends_74 (by decide) ?_
                    refine e_iconst (v := nI 1) dX11_ends_79 rfl ?_
                    refine y_V2 (M' := mX11_counts) dX11_ends_80 ml_X11_97 ok_X11_counts (by decide) rfl im_X11_counts se_X11_counts (ct_X11_counts ‹_› (by omega)) (Nat.le_of_ble_eq_true rfl) (by decide) (Nat.le_of_ble_eq_true rfl) ?_
                    refine e_aload_n dX11_ends_83 rfl rfl ?_
                    refine e_getR dX11_ends_84 fl_X11_7 rfl (by assumption) ?_
                    refine e_iload_n dX11_ends_87 rfl rfl ?_
                    refine e_iconst (v := nI 0) dX11_ends_88 rfl ?_
                    first | ((with_reducible refine mk_nn ?_); refine n_iadd dX11_ends_89 ?_) | refine e_iadd dX11_ends_89 ?_
                    first | ((with_reducible refine mk_ldw ?_); refine e_ldw dX11_ends_90 (by omega) ?_) | refine e_iald _ dX11_ends_90 ⟨by decide, by decide⟩ rfl rfl (by simp only [lenK]; omega) ?_
                    refine e_ret (some _) rfl (r_int dX11_ends_91 rfl) ?_
                    refine xq ?_ rfl rfl ?_ rfl rfl
                    · simp (disch := omega) only [upN_n, upN_s]
                    · simp (disch := omega) only [upN_n, rc]
        · try first | contradiction | omega | (simp only [decide_eq_true_eq, decide_eq_false_iff_not] at h26; omega)
          all_goals
            refine e_iconst (v := nI 4) dX11_ends_29 rfl ?_
            refine e_goto (tgt := 34) dX11_ends_30 (by decide) ?_
            first | ((with_reducible refine mk_nn ?_); refine n_iadd dX11_ends_34 ?_) | refine e_iadd dX11_ends_34 ?_
            first | ((with_reducible refine mk_ldw ?_); refine e_ldw dX11_ends_35 (by omega) ?_) | refine e_iald _ dX11_ends_35 ⟨by decide, by decide⟩ rfl rfl (by simp only [lenK]; omega) ?_
            refine y_V2 (M' := mX11_loses) dX11_ends_36 ml_X11_202 ok_X11_loses (by decide) rfl im_X11_loses se_X11_loses (ct_X11_loses ‹_› ‹_› (by omega) (by omega)) (Nat.le_of_ble_eq_true rfl) (by decide) (Nat.le_of_ble_eq_true rfl) ?_
            refine e_aload_n dX11_ends_39 rfl rfl ?_
            refine e_getR dX11_ends_40 fl_X11_7 rfl (by assumption) ?_
            refine e_iload_n dX11_ends_43 rfl rfl ?_
            refine e_iconst (v := nI 0) dX11_ends_44 rfl ?_
            first | ((with_reducible refine mk_nn ?_); refine n_iadd dX11_ends_45 ?_) | refine e_iadd dX11_ends_45 ?_
            refine e_iload_n dX11_ends_46 rfl rfl ?_
            first | ((with_reducible refine mk_b ?_); refine b_if_eq (tgt := 55) dX11_ends_47 (by decide) (fun h47 => ?_) (fun h47 => ?_)) | ((with_reducible refine mk_ll ?_); refine m_if_eq (tgt := 55) dX11_ends_47 (by decide) (by omega) (by omega) (fun h47 => ?_) (fun h47 => ?_)) | ((with_reducible refine mk_lc ?_); refine l_if_eq (tgt := 55) dX11_ends_47 (by decide) (fun h47 => ?_) (fun h47 => ?_)) | ((with_reducible refine mk_n ?_); refine n_if_eq (tgt := 55) dX11_ends_47 (by decide) (by omega) (fun h47 => ?_) (fun h47 => ?_)) | refine e_if_eq (tgt := 55) dX11_ends_47 (by decide) (fun h47 => ?_) (fun h47 => ?_)
            · try first | contradiction | omega | (simp only [decide_eq_true_eq, decide_eq_false_iff_not] at h47; omega)
              all_goals
                refine e_iconst (v := nI 5) dX11_ends_55 rfl ?_
                first | ((with_reducible refine mk_stw ?_); refine e_stw dX11_ends_56 (by omega) ?_) | refine e_iast _ dX11_ends_56 ⟨by decide, by decide⟩ rfl rfl (by simp only [lenK]; omega) ?_
                refine e_aload_n dX11_ends_57 rfl rfl ?_
                refine e_getR dX11_ends_58 fl_X11_7 rfl (by assumption) ?_
                refine e_iload_n dX11_ends_61 rfl rfl ?_
                refine e_bipush (v := nI 7) dX11_ends_62 rfl ?_
                first | ((with_reducible refine mk_nn ?_); refine n_iadd dX11_ends_64 ?_) | refine e_iadd dX11_ends_64 ?_
                refine e_iconst (v := nI 0) dX11_ends_65 rfl ?_
                first | ((with_reducible refine mk_stw ?_); refine e_stw dX11_ends_66 (by omega) ?_) | refine e_iast _ dX11_ends_66 ⟨by decide, by decide⟩ rfl rfl (by simp only [lenK]; omega) ?_
                refine e_aload_n dX11_ends_67 rfl rfl ?_
                refine e_iload_n dX11_ends_68 rfl rfl ?_
                first | ((with_reducible refine mk_b ?_); refine b_if_eq (tgt := 77) dX11_ends_69 (by decide) (fun h69 => ?_) (fun h69 => ?_)) | ((with_reducible refine mk_ll ?_); refine m_if_eq (tgt := 77) dX11_ends_69 (by decide) (by omega) (by omega) (fun h69 => ?_) (fun h69 => ?_)) | ((with_reducible refine mk_lc ?_); refine l_if_eq (tgt := 77) dX11_ends_69 (by decide) (fun h69 => ?_) (fun h69 => ?_)) | ((with_reducible refine mk_n ?_); refine n_if_eq (tgt := 77) dX11_ends_69 (by decide) (by omega) (fun h69 => ?_) (fun h69 => ?_)) | refine e_if_eq (tgt := 77) dX11_ends_69 (by decide) (fun h69 => ?_) (fun h69 => ?_)
                · try first | contradiction | omega | (simp only [decide_eq_true_eq, decide_eq_false_iff_not] at h69; omega)
                  all_goals
                    refine e_bipush (v := nI 9) dX11_ends_77 rfl ?_
                    refine e_iconst (v := nI 1) dX11_ends_79 rfl ?_
                    refine y_V2 (M' := mX11_counts) dX11_ends_80 ml_X11_97 ok_X11_counts (by decide) rfl im_X11_counts se_X11_counts (ct_X11_counts ‹_› (by omega)) (Nat.le_of_ble_eq_true rfl) (by decide) (Nat.le_of_ble_eq_true rfl) ?_
                    refine e_aload_n dX11_ends_83 rfl rfl ?_
                    refine e_getR dX11_ends_84 fl_X11_7 rfl (by assumption) ?_
                    refine e_iload_n dX11_ends_87 rfl rfl ?_
                    refine e_iconst (v := nI 0) dX11_ends_88 rfl ?_
                    first | ((with_reducible refine mk_nn ?_); refine n_iadd dX11_ends_89 ?_) | refine e_iadd dX11_ends_89 ?_
                    first | ((with_reducible refine mk_ldw ?_); refine e_ldw dX11_ends_90 (by omega) ?_) | refine e_iald _ dX11_ends_90 ⟨by decide, by decide⟩ rfl rfl (by simp only [lenK]; omega) ?_
                    refine e_ret (some _) rfl (r_int dX11_ends_91 rfl) ?_
                    refine xq ?_ rfl rfl ?_ rfl rfl
                    · simp (disch := omega) only [upN_n, upN_s]
                    · simp (disch := omega) only [upN_n, rc]
                · try first | contradiction | omega | (simp only [decide_eq_true_eq, decide_eq_false_iff_not] at h69; omega)
                  all_goals
                    refine e_bipush (v := nI 10) dX11_ends_72 rfl ?_
                    refine e_goto (tgt := 79) dX11_ends_74 (by decide) ?_
                    refine e_iconst (v := nI 1) dX11_ends_79 rfl ?_
                    refine y_V2 (M' := mX11_counts) dX11_ends_80 ml_X11_97 ok_X11_counts (by decide) rfl im_X11_counts se_X11_counts (ct_X11_counts ‹_› (by omega)) (Nat.le_of_ble_eq_true rfl) (by decide) (Nat.le_of_ble_eq_true rfl) ?_
                    refine e_aload_n dX11_ends_83 rfl rfl ?_
                    refine e_getR dX11_ends_84 fl_X11_7 rfl (by assumption) ?_
                    refine e_iload_n dX11_ends_87 rfl rfl ?_
                    refine e_iconst (v := nI 0) dX11_ends_88 rfl ?_
                    first | ((with_reducible refine mk_nn ?_); refine n_iadd dX11_ends_89 ?_) | refine e_iadd dX11_ends_89 ?_
                    first | ((with_reducible refine mk_ldw ?_); refine e_ldw dX11_ends_90 (by omega) ?_) | refine e_iald _ dX11_ends_90 ⟨by decide, by decide⟩ rfl rfl (by simp only [lenK]; omega) ?_
                    refine e_ret (some _) rfl (r_int dX11_ends_91 rfl) ?_
                    refine xq ?_ rfl rfl ?_ rfl rfl
                    · simp (disch := omega) only [upN_n, upN_s]
                    · simp (disch := omega) only [upN_n, rc]
            · try first | contradiction | omega | (simp only [decide_eq_true_eq, decide_eq_false_iff_not] at h47; omega)
              all_goals
                refine e_bipush (v := nI 6) dX11_ends_50 rfl ?_
                refine e_goto (tgt := 56) dX11_ends_52 (by decide) ?_
                first | ((with_reducible refine mk_stw ?_); refine e_stw dX11_ends_56 (by omega) ?_) | refine e_iast _ dX11_ends_56 ⟨by decide, by decide⟩ rfl rfl (by simp only [lenK]; omega) ?_
                refine e_aload_n dX11_ends_57 rfl rfl ?_
                refine e_getR dX11_ends_58 fl_X11_7 rfl (by assumption) ?_
                refine e_iload_n dX11_ends_61 rfl rfl ?_
                refine e_bipush (v := nI 7) dX11_ends_62 rfl ?_
                first | ((with_reducible refine mk_nn ?_); refine n_iadd dX11_ends_64 ?_) | refine e_iadd dX11_ends_64 ?_
                refine e_iconst (v := nI 0) dX11_ends_65 rfl ?_
                first | ((with_reducible refine mk_stw ?_); refine e_stw dX11_ends_66 (by omega) ?_) | refine e_iast _ dX11_ends_66 ⟨by decide, by decide⟩ rfl rfl (by simp only [lenK]; omega) ?_
                refine e_aload_n dX11_ends_67 rfl rfl ?_
                refine e_iload_n dX11_ends_68 rfl rfl ?_
                first | ((with_reducible refine mk_b ?_); refine b_if_eq (tgt := 77) dX11_ends_69 (by decide) (fun h69 => ?_) (fun h69 => ?_)) | ((with_reducible refine mk_ll ?_); refine m_if_eq (tgt := 77) dX11_ends_69 (by decide) (by omega) (by omega) (fun h69 => ?_) (fun h69 => ?_)) | ((with_reducible refine mk_lc ?_); refine l_if_eq (tgt := 77) dX11_ends_69 (by decide) (fun h69 => ?_) (fun h69 => ?_)) | ((with_reducible refine mk_n ?_); refine n_if_eq (tgt := 77) dX11_ends_69 (by decide) (by omega) (fun h69 => ?_) (fun h69 => ?_)) | refine e_if_eq (tgt := 77) dX11_ends_69 (by decide) (fun h69 => ?_) (fun h69 => ?_)
                · try first | contradiction | omega | (simp only [decide_eq_true_eq, decide_eq_false_iff_not] at h69; omega)
                  all_goals
                    refine e_bipush (v := nI 9) dX11_ends_77 rfl ?_
                    refine e_iconst (v := nI 1) dX11_ends_79 rfl ?_
                    refine y_V2 (M' := mX11_counts) dX11_ends_80 ml_X11_97 ok_X11_counts (by decide) rfl im_X11_counts se_X11_counts (ct_X11_counts ‹_› (by omega)) (Nat.le_of_ble_eq_true rfl) (by decide) (Nat.le_of_ble_eq_true rfl) ?_
                    refine e_aload_n dX11_ends_83 rfl rfl ?_
                    refine e_getR dX11_ends_84 fl_X11_7 rfl (by assumption) ?_
                    refine e_iload_n dX11_ends_87 rfl rfl ?_
                    refine e_iconst (v := nI 0) dX11_ends_88 rfl ?_
                    first | ((with_reducible refine mk_nn ?_); refine n_iadd dX11_ends_89 ?_) | refine e_iadd dX11_ends_89 ?_
                    first | ((with_reducible refine mk_ldw ?_); refine e_ldw dX11_ends_90 (by omega) ?_) | refine e_iald _ dX11_ends_90 ⟨by decide, by decide⟩ rfl rfl (by simp only [lenK]; omega) ?_
                    refine e_ret (some _) rfl (r_int dX11_ends_91 rfl) ?_
                    refine xq ?_ rfl rfl ?_ rfl rfl
                    · simp (disch := omega) only [upN_n, upN_s]
                    · simp (disch := omega) only [upN_n, rc]
                · try first | contradiction | omega | (simp only [decide_eq_true_eq, decide_eq_false_iff_not] at h69; omega)
                  all_goals
                    refine e_bipush (v := nI 10) dX11_ends_72 rfl ?_
                    refine e_goto (tgt := 79) dX11_ends_74 (by decide) ?_
                    refine e_iconst (v := nI 1) dX11_ends_79 rfl ?_
                    refine y_V2 (M' := mX11_counts) dX11_ends_80 ml_X11_97 ok_X11_counts (by decide) rfl im_X11_counts se_X11_counts (ct_X11_counts ‹_› (by omega)) (Nat.le_of_ble_eq_true rfl) (by decide) (Nat.le_of_ble_eq_true rfl) ?_
                    refine e_aload_n dX11_ends_83 rfl rfl ?_
                    refine e_getR dX11_ends_84 fl_X11_7 rfl (by assumption) ?_
                    refine e_iload_n dX11_ends_87 rfl rfl ?_
                    refine e_iconst (v := nI 0) dX11_ends_88 rfl ?_
                    first | ((with_reducible refine mk_nn ?_); refine n_iadd dX11_ends_89 ?_) | refine e_iadd dX11_ends_89 ?_
                    first | ((with_reducible refine mk_ldw ?_); refine e_ldw dX11_ends_90 (by omega) ?_) | refine e_iald _ dX11_ends_90 ⟨by decide, by decide⟩ rfl rfl (by simp only [lenK]; omega) ?_
                    refine e_ret (some _) rfl (r_int dX11_ends_91 rfl) ?_
                    refine xq ?_ rfl rfl ?_ rfl rfl
                    · simp (disch := omega) only [upN_n, upN_s]
                    · simp (disch := omega) only [upN_n, rc]
def recB (w : Nat → Nat) (x : Int32) : Bool := inR x (w 3) && goB w x.toNatClampNeg && decide (w (7694 + 72 * x.toNatClampNeg + 7) ≠ 0) && auB w x.toNatClampNeg
def givB (w : Nat → Nat) (x : Int32) : Bool := csT w x && decide (w (7694 + 72 * x.toNatClampNeg + 0) ≠ 4) && auB w x.toNatClampNeg
theorem ct_X11_recover {fi : FI} {fr : FR} {ai : FI} {ar : FR} {N : Nat} {w : Nat → Nat} (sm : SM fr) (iv : Inv w) (y0 : Int32) {u : Nat} (hu : fi (32 * 11 + 4) (rf 11 80) = nI u) (hu6 : u ≤ 6) {sc : Bool} (hsc : fi (32 * 11 + 8) (rf 11 80) = bI sc) : CP mX11_recover 3 0 0 [.ref (rf 11 80), .int y0] fi fr (mW ai w) ar N (xQ (some (.int (if recB w y0 then nI (endS w y0.toNatClampNeg) else -1))) (if recB w y0 then actF fi u sc else fi) fr (mW (if recB w y0 then actA ai u sc w else ai) (if recB w y0 then endW w y0.toNatClampNeg else w)) ar N) := by
  obtain ⟨sW, sA, sK, sU, sC, sKC, sT, sCl⟩ := id sm
  have h1 := iv_n iv
  have h3 := iv_mm iv
  change EV mX11_recover 3 0 0 0 [some (.ref (rf 11 80)), some (.int y0)] [] fi fr (mW ai w) ar N (xQ (some (.int (if recB w y0 then nI (endS w y0.toNatClampNeg) else -1))) (if recB w y0 then actF fi u sc else fi) fr (mW (if recB w y0 then actA ai u sc w else ai) (if recB w y0 then endW w y0.toNatClampNeg else w)) ar N)
  cases hx : inR y0 (w 3) with
  | false =>
    have eb : recB w y0 = false := by unfold recB; rw [hx]; rfl
    rw [eb]
    refine e_aload_n dX11_recover_0 rfl rfl ?_
    refine e_iload_n dX11_recover_1 rfl rfl ?_
    refine x_V1 (M' := mX11_isMove) dX11_recover_2 ml_X11_189 ok_X11_isMove (by decide) rfl im_X11_isMove se_X11_isMove (ct_X11_isMove ‹_› ‹_› _) (Nat.le_of_ble_eq_true rfl) (by decide) (Nat.le_of_ble_eq_true rfl) ?_
    rw [hx]
    first | ((with_reducible refine mk_b ?_); refine b_if_eq (tgt := 42) dX11_recover_5 (by decide) (fun h5 => ?_) (fun h5 => ?_)) | ((with_reducible refine mk_ll ?_); refine m_if_eq (tgt := 42) dX11_recover_5 (by decide) (by omega) (by omega) (fun h5 => ?_) (fun h5 => ?_)) | ((with_reducible refine mk_lc ?_); refine l_if_eq (tgt := 42) dX11_recover_5 (by decide) (fun h5 => ?_) (fun h5 => ?_)) | ((with_reducible refine mk_n ?_); refine n_if_eq (tgt := 42) dX11_recover_5 (by decide) (by omega) (fun h5 => ?_) (fun h5 => ?_)) | refine e_if_eq (tgt := 42) dX11_recover_5 (by decide) (fun h5 => ?_) (fun h5 => ?_)
    · try first | contradiction | omega | (simp only [decide_eq_true_eq, decide_eq_false_iff_not] at h5; omega)
      all_goals
        refine e_iconst (v := -1) dX11_recover_42 rfl ?_
        refine e_ret (some _) rfl (r_int dX11_recover_43 rfl) ?_
        exact xq rfl rfl rfl rfl rfl rfl
    · try first | contradiction | omega | (simp only [decide_eq_true_eq, decide_eq_false_iff_not] at h5; omega)
      all_goals
        refine e_aload_n dX11_recover_8 rfl rfl ?_
        refine e_iload_n dX11_recover_9 rfl rfl ?_
        refine x_V1 (M' := mX11_isGoing) dX11_recover_10 ml_X11_67 ok_X11_isGoing (by decide) rfl im_X11_isGoing se_X11_isGoing (by contradiction) (Nat.le_of_ble_eq_true rfl) (by decide) (Nat.le_of_ble_eq_true rfl) ?_
        first | ((with_reducible refine mk_b ?_); refine b_if_eq (tgt := 42) dX11_recover_13 (by decide) (fun h13 => ?_) (fun h13 => ?_)) | ((with_reducible refine mk_ll ?_); refine m_if_eq (tgt := 42) dX11_recover_13 (by decide) (by omega) (by omega) (fun h13 => ?_) (fun h13 => ?_)) | ((with_reducible refine mk_lc ?_); refine l_if_eq (tgt := 42) dX11_recover_13 (by decide) (fun h13 => ?_) (fun h13 => ?_)) | ((with_reducible refine mk_n ?_); refine n_if_eq (tgt := 42) dX11_recover_13 (by decide) (by omega) (fun h13 => ?_) (fun h13 => ?_)) | refine e_if_eq (tgt := 42) dX11_recover_13 (by decide) (fun h13 => ?_) (fun h13 => ?_)
        · try first | contradiction | omega | (simp only [decide_eq_true_eq, decide_eq_false_iff_not] at h13; omega)
          all_goals
            refine e_iconst (v := -1) dX11_recover_42 rfl ?_
            refine e_ret (some _) rfl (r_int dX11_recover_43 rfl) ?_
            exact xq rfl rfl rfl rfl rfl rfl
        · try first | contradiction | omega | (simp only [decide_eq_true_eq, decide_eq_false_iff_not] at h13; omega)
          all_goals
            refine e_aload_n dX11_recover_16 rfl rfl ?_
            refine e_getR dX11_recover_17 fl_X11_7 rfl (by assumption) ?_
            refine e_iload_n dX11_recover_20 rfl rfl ?_
            refine x_S1 (M' := mX11_moveAt) dX11_recover_21 ml_X11_62 ok_X11_moveAt rfl sc_X11_moveAt (ct_X11_moveAt) (Nat.le_of_ble_eq_true rfl) (by decide) (Nat.le_of_ble_eq_true rfl) ?_
            refine e_bipush (v := nI 7) dX11_recover_24 rfl ?_
            first | ((with_reducible refine mk_nn ?_); refine n_iadd dX11_recover_26 ?_) | refine e_iadd dX11_recover_26 ?_
            first | ((with_reducible refine mk_ldw ?_); refine e_ldw dX11_recover_27 (by omega) ?_) | refine e_iald _ dX11_recover_27 ⟨by decide, by decide⟩ rfl rfl (by simp only [lenK]; omega) ?_
            first | ((with_reducible refine mk_b ?_); refine b_if_eq (tgt := 42) dX11_recover_28 (by decide) (fun h28 => ?_) (fun h28 => ?_)) | ((with_reducible refine mk_ll ?_); refine m_if_eq (tgt := 42) dX11_recover_28 (by decide) (by omega) (by omega) (fun h28 => ?_) (fun h28 => ?_)) | ((with_reducible refine mk_lc ?_); refine l_if_eq (tgt := 42) dX11_recover_28 (by decide) (fun h28 => ?_) (fun h28 => ?_)) | ((with_reducible refine mk_n ?_); refine n_if_eq (tgt := 42) dX11_recover_28 (by decide) (by omega) (fun h28 => ?_) (fun h28 => ?_)) | refine e_if_eq (tgt := 42) dX11_recover_28 (by decide) (fun h28 => ?_) (fun h28 => ?_)
            · try first | contradiction | omega | (simp only [decide_eq_true_eq, decide_eq_false_iff_not] at h28; omega)
              all_goals
                refine e_iconst (v := -1) dX11_recover_42 rfl ?_
                refine e_ret (some _) rfl (r_int dX11_recover_43 rfl) ?_
                exact xq rfl rfl rfl rfl rfl rfl
            · try first | contradiction | omega | (simp only [decide_eq_true_eq, decide_eq_false_iff_not] at h28; omega)
              all_goals
                refine e_aload_n dX11_recover_31 rfl rfl ?_
                refine e_iload_n dX11_recover_32 rfl rfl ?_
                refine x_S1 (M' := mX11_moveAt) dX11_recover_33 ml_X11_62 ok_X11_moveAt rfl sc_X11_moveAt (ct_X11_moveAt) (Nat.le_of_ble_eq_true rfl) (by decide) (Nat.le_of_ble_eq_true rfl) ?_
                refine x_V1 (M' := mX11_areUp) dX11_recover_36 ml_X11_205 ok_X11_areUp (by decide) rfl im_X11_areUp se_X11_areUp (by contradiction) (Nat.le_of_ble_eq_true rfl) (by decide) (Nat.le_of_ble_eq_true rfl) ?_
                first | ((with_reducible refine mk_b ?_); refine b_if_ne (tgt := 44) dX11_recover_39 (by decide) (fun h39 => ?_) (fun h39 => ?_)) | ((with_reducible refine mk_ll ?_); refine m_if_ne (tgt := 44) dX11_recover_39 (by decide) (by omega) (by omega) (fun h39 => ?_) (fun h39 => ?_)) | ((with_reducible refine mk_lc ?_); refine l_if_ne (tgt := 44) dX11_recover_39 (by decide) (fun h39 => ?_) (fun h39 => ?_)) | ((with_reducible refine mk_n ?_); refine n_if_ne (tgt := 44) dX11_recover_39 (by decide) (by omega) (fun h39 => ?_) (fun h39 => ?_)) | refine e_if_ne (tgt := 44) dX11_recover_39 (by decide) (fun h39 => ?_) (fun h39 => ?_)
                · try first | contradiction | omega | (simp only [decide_eq_true_eq, decide_eq_false_iff_not] at h39; omega)
                  all_goals
                    refine e_aload_n dX11_recover_44 rfl rfl ?_
                    refine y_V0 (M' := mX11_acts) dX11_recover_45 ml_X11_86 ok_X11_acts (by decide) rfl im_X11_acts se_X11_acts (ct_X11_acts ‹_› (by assumption) (by omega) (by assumption)) (Nat.le_of_ble_eq_true rfl) (by decide) (Nat.le_of_ble_eq_true rfl) ?_
                    refine e_aload_n dX11_recover_48 rfl rfl ?_
                    refine e_iload_n dX11_recover_49 rfl rfl ?_
                    refine x_S1 (M' := mX11_moveAt) dX11_recover_50 ml_X11_62 ok_X11_moveAt rfl sc_X11_moveAt (ct_X11_moveAt) (Nat.le_of_ble_eq_true rfl) (by decide) (Nat.le_of_ble_eq_true rfl) ?_
                    refine x_V1 (M' := mX11_ends) dX11_recover_53 ml_X11_208 ok_X11_ends (by decide) rfl im_X11_ends se_X11_ends (by contradiction) (Nat.le_of_ble_eq_true rfl) (by decide) (Nat.le_of_ble_eq_true rfl) ?_
                    refine e_ret (some _) rfl (r_int dX11_recover_56 rfl) ?_
                    exact xq rfl rfl rfl rfl rfl rfl
                · try first | contradiction | omega | (simp only [decide_eq_true_eq, decide_eq_false_iff_not] at h39; omega)
                  all_goals
                    refine e_iconst (v := -1) dX11_recover_42 rfl ?_
                    refine e_ret (some _) rfl (r_int dX11_recover_43 rfl) ?_
                    exact xq rfl rfl rfl rfl rfl rfl
  | true =>
    obtain ⟨a, ha, ha2, rfl⟩ := inR_ex hx
    have hcl : (nI a).toNatClampNeg = a := nI_clamp ha2
    have hq := iv_mv iv ha
    cases hb : recB w (nI a) with
    | false =>
      refine e_aload_n dX11_recover_0 rfl rfl ?_
      refine e_iload_n dX11_recover_1 rfl rfl ?_
      refine x_V1 (M' := mX11_isMove) dX11_recover_2 ml_X11_189 ok_X11_isMove (by decide) rfl im_X11_isMove se_X11_isMove (ct_X11_isMove ‹_› ‹_› _) (Nat.le_of_ble_eq_true rfl) (by decide) (Nat.le_of_ble_eq_true rfl) ?_
      rw [hx]
      first | ((with_reducible refine mk_b ?_); refine b_if_eq (tgt := 42) dX11_recover_5 (by decide) (fun h5 => ?_) (fun h5 => ?_)) | ((with_reducible refine mk_ll ?_); refine m_if_eq (tgt := 42) dX11_recover_5 (by decide) (by omega) (by omega) (fun h5 => ?_) (fun h5 => ?_)) | ((with_reducible refine mk_lc ?_); refine l_if_eq (tgt := 42) dX11_recover_5 (by decide) (fun h5 => ?_) (fun h5 => ?_)) | ((with_reducible refine mk_n ?_); refine n_if_eq (tgt := 42) dX11_recover_5 (by decide) (by omega) (fun h5 => ?_) (fun h5 => ?_)) | refine e_if_eq (tgt := 42) dX11_recover_5 (by decide) (fun h5 => ?_) (fun h5 => ?_)
      · try first | contradiction | omega | (simp only [decide_eq_true_eq, decide_eq_false_iff_not] at h5; omega)
        all_goals
          refine e_iconst (v := -1) dX11_recover_42 rfl ?_
          refine e_ret (some _) rfl (r_int dX11_recover_43 rfl) ?_
          exact xq rfl rfl rfl rfl rfl rfl
      · try first | contradiction | omega | (simp only [decide_eq_true_eq, decide_eq_false_iff_not] at h5; omega)
        all_goals
          refine e_aload_n dX11_recover_8 rfl rfl ?_
          refine e_iload_n dX11_recover_9 rfl rfl ?_
          refine x_V1 (M' := mX11_isGoing) dX11_recover_10 ml_X11_67 ok_X11_isGoing (by decide) rfl im_X11_isGoing se_X11_isGoing (ct_X11_isGoing ‹_› ‹_› ha) (Nat.le_of_ble_eq_true rfl) (by decide) (Nat.le_of_ble_eq_true rfl) ?_
          first | ((with_reducible refine mk_b ?_); refine b_if_eq (tgt := 42) dX11_recover_13 (by decide) (fun h13 => ?_) (fun h13 => ?_)) | ((with_reducible refine mk_ll ?_); refine m_if_eq (tgt := 42) dX11_recover_13 (by decide) (by omega) (by omega) (fun h13 => ?_) (fun h13 => ?_)) | ((with_reducible refine mk_lc ?_); refine l_if_eq (tgt := 42) dX11_recover_13 (by decide) (fun h13 => ?_) (fun h13 => ?_)) | ((with_reducible refine mk_n ?_); refine n_if_eq (tgt := 42) dX11_recover_13 (by decide) (by omega) (fun h13 => ?_) (fun h13 => ?_)) | refine e_if_eq (tgt := 42) dX11_recover_13 (by decide) (fun h13 => ?_) (fun h13 => ?_)
          · try first | contradiction | omega | (simp only [decide_eq_true_eq, decide_eq_false_iff_not] at h13; omega)
            all_goals
              refine e_iconst (v := -1) dX11_recover_42 rfl ?_
              refine e_ret (some _) rfl (r_int dX11_recover_43 rfl) ?_
              exact xq rfl rfl rfl rfl rfl rfl
          · try first | contradiction | omega | (simp only [decide_eq_true_eq, decide_eq_false_iff_not] at h13; omega)
            all_goals
              refine e_aload_n dX11_recover_16 rfl rfl ?_
              refine e_getR dX11_recover_17 fl_X11_7 rfl (by assumption) ?_
              refine e_iload_n dX11_recover_20 rfl rfl ?_
              refine x_S1 (M' := mX11_moveAt) dX11_recover_21 ml_X11_62 ok_X11_moveAt rfl sc_X11_moveAt (ct_X11_moveAt) (Nat.le_of_ble_eq_true rfl) (by decide) (Nat.le_of_ble_eq_true rfl) ?_
              refine e_bipush (v := nI 7) dX11_recover_24 rfl ?_
              first | ((with_reducible refine mk_nn ?_); refine n_iadd dX11_recover_26 ?_) | refine e_iadd dX11_recover_26 ?_
              first | ((with_reducible refine mk_ldw ?_); refine e_ldw dX11_recover_27 (by omega) ?_) | refine e_iald _ dX11_recover_27 ⟨by decide, by decide⟩ rfl rfl (by simp only [lenK]; omega) ?_
              first | ((with_reducible refine mk_b ?_); refine b_if_eq (tgt := 42) dX11_recover_28 (by decide) (fun h28 => ?_) (fun h28 => ?_)) | ((with_reducible refine mk_ll ?_); refine m_if_eq (tgt := 42) dX11_recover_28 (by decide) (by omega) (by omega) (fun h28 => ?_) (fun h28 => ?_)) | ((with_reducible refine mk_lc ?_); refine l_if_eq (tgt := 42) dX11_recover_28 (by decide) (fun h28 => ?_) (fun h28 => ?_)) | ((with_reducible refine mk_n ?_); refine n_if_eq (tgt := 42) dX11_recover_28 (by decide) (by omega) (fun h28 => ?_) (fun h28 => ?_)) | refine e_if_eq (tgt := 42) dX11_recover_28 (by decide) (fun h28 => ?_) (fun h28 => ?_)
              · try first | contradiction | omega | (simp only [decide_eq_true_eq, decide_eq_false_iff_not] at h28; omega)
                all_goals
                  refine e_iconst (v := -1) dX11_recover_42 rfl ?_
                  refine e_ret (some _) rfl (r_int dX11_recover_43 rfl) ?_
                  exact xq rfl rfl rfl rfl rfl rfl
              · try first | contradiction | omega | (simp only [decide_eq_true_eq, decide_eq_false_iff_not] at h28; omega)
                all_goals
                  refine e_aload_n dX11_recover_31 rfl rfl ?_
                  refine e_iload_n dX11_recover_32 rfl rfl ?_
                  refine x_S1 (M' := mX11_moveAt) dX11_recover_33 ml_X11_62 ok_X11_moveAt rfl sc_X11_moveAt (ct_X11_moveAt) (Nat.le_of_ble_eq_true rfl) (by decide) (Nat.le_of_ble_eq_true rfl) ?_
                  refine x_V1 (M' := mX11_areUp) dX11_recover_36 ml_X11_205 ok_X11_areUp (by decide) rfl im_X11_areUp se_X11_areUp (ct_X11_areUp ‹_› ‹_› ha) (Nat.le_of_ble_eq_true rfl) (by decide) (Nat.le_of_ble_eq_true rfl) ?_
                  first | ((with_reducible refine mk_b ?_); refine b_if_ne (tgt := 44) dX11_recover_39 (by decide) (fun h39 => ?_) (fun h39 => ?_)) | ((with_reducible refine mk_ll ?_); refine m_if_ne (tgt := 44) dX11_recover_39 (by decide) (by omega) (by omega) (fun h39 => ?_) (fun h39 => ?_)) | ((with_reducible refine mk_lc ?_); refine l_if_ne (tgt := 44) dX11_recover_39 (by decide) (fun h39 => ?_) (fun h39 => ?_)) | ((with_reducible refine mk_n ?_); refine n_if_ne (tgt := 44) dX11_recover_39 (by decide) (by omega) (fun h39 => ?_) (fun h39 => ?_)) | refine e_if_ne (tgt := 44) dX11_recover_39 (by decide) (fun h39 => ?_) (fun h39 => ?_)
                  · try first | contradiction | omega | (simp only [decide_eq_true_eq, decide_eq_false_iff_not] at h39; omega)
                    all_goals
                      unfold recB at hb
                      grind
                  · try first | contradiction | omega | (simp only [decide_eq_true_eq, decide_eq_false_iff_not] at h39; omega)
                    all_goals
                      refine e_iconst (v := -1) dX11_recover_42 rfl ?_
                      refine e_ret (some _) rfl (r_int dX11_recover_43 rfl) ?_
                      exact xq rfl rfl rfl rfl rfl rfl
    | true =>
      rw [hcl]
      refine e_aload_n dX11_recover_0 rfl rfl ?_
      refine e_iload_n dX11_recover_1 rfl rfl ?_
      refine x_V1 (M' := mX11_isMove) dX11_recover_2 ml_X11_189 ok_X11_isMove (by decide) rfl im_X11_isMove se_X11_isMove (ct_X11_isMove ‹_› ‹_› _) (Nat.le_of_ble_eq_true rfl) (by decide) (Nat.le_of_ble_eq_true rfl) ?_
      rw [hx]
      first | ((with_reducible refine mk_b ?_); refine b_if_eq (tgt := 42) dX11_recover_5 (by decide) (fun h5 => ?_) (fun h5 => ?_)) | ((with_reducible refine mk_ll ?_); refine m_if_eq (tgt := 42) dX11_recover_5 (by decide) (by omega) (by omega) (fun h5 => ?_) (fun h5 => ?_)) | ((with_reducible refine mk_lc ?_); refine l_if_eq (tgt := 42) dX11_recover_5 (by decide) (fun h5 => ?_) (fun h5 => ?_)) | ((with_reducible refine mk_n ?_); refine n_if_eq (tgt := 42) dX11_recover_5 (by decide) (by omega) (fun h5 => ?_) (fun h5 => ?_)) | refine e_if_eq (tgt := 42) dX11_recover_5 (by decide) (fun h5 => ?_) (fun h5 => ?_)
      · try first | contradiction | omega | (simp only [decide_eq_true_eq, decide_eq_false_iff_not] at h5; omega)
        all_goals
          unfold recB at hb
          grind
      · try first | contradiction | omega | (simp only [decide_eq_true_eq, decide_eq_false_iff_not] at h5; omega)
        all_goals
          refine e_aload_n dX11_recover_8 rfl rfl ?_
          refine e_iload_n dX11_recover_9 rfl rfl ?_
          refine x_V1 (M' := mX11_isGoing) dX11_recover_10 ml_X11_67 ok_X11_isGoing (by decide) rfl im_X11_isGoing se_X11_isGoing (ct_X11_isGoing ‹_› ‹_› ha) (Nat.le_of_ble_eq_true rfl) (by decide) (Nat.le_of_ble_eq_true rfl) ?_
          first | ((with_reducible refine mk_b ?_); refine b_if_eq (tgt := 42) dX11_recover_13 (by decide) (fun h13 => ?_) (fun h13 => ?_)) | ((with_reducible refine mk_ll ?_); refine m_if_eq (tgt := 42) dX11_recover_13 (by decide) (by omega) (by omega) (fun h13 => ?_) (fun h13 => ?_)) | ((with_reducible refine mk_lc ?_); refine l_if_eq (tgt := 42) dX11_recover_13 (by decide) (fun h13 => ?_) (fun h13 => ?_)) | ((with_reducible refine mk_n ?_); refine n_if_eq (tgt := 42) dX11_recover_13 (by decide) (by omega) (fun h13 => ?_) (fun h13 => ?_)) | refine e_if_eq (tgt := 42) dX11_recover_13 (by decide) (fun h13 => ?_) (fun h13 => ?_)
          · try first | contradiction | omega | (simp only [decide_eq_true_eq, decide_eq_false_iff_not] at h13; omega)
            all_goals
              unfold recB at hb
              grind
          · try first | contradiction | omega | (simp only [decide_eq_true_eq, decide_eq_false_iff_not] at h13; omega)
            all_goals
              refine e_aload_n dX11_recover_16 rfl rfl ?_
              refine e_getR dX11_recover_17 fl_X11_7 rfl (by assumption) ?_
              refine e_iload_n dX11_recover_20 rfl rfl ?_
              refine x_S1 (M' := mX11_moveAt) dX11_recover_21 ml_X11_62 ok_X11_moveAt rfl sc_X11_moveAt (ct_X11_moveAt) (Nat.le_of_ble_eq_true rfl) (by decide) (Nat.le_of_ble_eq_true rfl) ?_
              refine e_bipush (v := nI 7) dX11_recover_24 rfl ?_
              first | ((with_reducible refine mk_nn ?_); refine n_iadd dX11_recover_26 ?_) | refine e_iadd dX11_recover_26 ?_
              first | ((with_reducible refine mk_ldw ?_); refine e_ldw dX11_recover_27 (by omega) ?_) | refine e_iald _ dX11_recover_27 ⟨by decide, by decide⟩ rfl rfl (by simp only [lenK]; omega) ?_
              first | ((with_reducible refine mk_b ?_); refine b_if_eq (tgt := 42) dX11_recover_28 (by decide) (fun h28 => ?_) (fun h28 => ?_)) | ((with_reducible refine mk_ll ?_); refine m_if_eq (tgt := 42) dX11_recover_28 (by decide) (by omega) (by omega) (fun h28 => ?_) (fun h28 => ?_)) | ((with_reducible refine mk_lc ?_); refine l_if_eq (tgt := 42) dX11_recover_28 (by decide) (fun h28 => ?_) (fun h28 => ?_)) | ((with_reducible refine mk_n ?_); refine n_if_eq (tgt := 42) dX11_recover_28 (by decide) (by omega) (fun h28 => ?_) (fun h28 => ?_)) | refine e_if_eq (tgt := 42) dX11_recover_28 (by decide) (fun h28 => ?_) (fun h28 => ?_)
              · try first | contradiction | omega | (simp only [decide_eq_true_eq, decide_eq_false_iff_not] at h28; omega)
                all_goals
                  unfold recB at hb
                  grind
              · try first | contradiction | omega | (simp only [decide_eq_true_eq, decide_eq_false_iff_not] at h28; omega)
                all_goals
                  refine e_aload_n dX11_recover_31 rfl rfl ?_
                  refine e_iload_n dX11_recover_32 rfl rfl ?_
                  refine x_S1 (M' := mX11_moveAt) dX11_recover_33 ml_X11_62 ok_X11_moveAt rfl sc_X11_moveAt (ct_X11_moveAt) (Nat.le_of_ble_eq_true rfl) (by decide) (Nat.le_of_ble_eq_true rfl) ?_
                  refine x_V1 (M' := mX11_areUp) dX11_recover_36 ml_X11_205 ok_X11_areUp (by decide) rfl im_X11_areUp se_X11_areUp (ct_X11_areUp ‹_› ‹_› ha) (Nat.le_of_ble_eq_true rfl) (by decide) (Nat.le_of_ble_eq_true rfl) ?_
                  first | ((with_reducible refine mk_b ?_); refine b_if_ne (tgt := 44) dX11_recover_39 (by decide) (fun h39 => ?_) (fun h39 => ?_)) | ((with_reducible refine mk_ll ?_); refine m_if_ne (tgt := 44) dX11_recover_39 (by decide) (by omega) (by omega) (fun h39 => ?_) (fun h39 => ?_)) | ((with_reducible refine mk_lc ?_); refine l_if_ne (tgt := 44) dX11_recover_39 (by decide) (fun h39 => ?_) (fun h39 => ?_)) | ((with_reducible refine mk_n ?_); refine n_if_ne (tgt := 44) dX11_recover_39 (by decide) (by omega) (fun h39 => ?_) (fun h39 => ?_)) | refine e_if_ne (tgt := 44) dX11_recover_39 (by decide) (fun h39 => ?_) (fun h39 => ?_)
                  · try first | contradiction | omega | (simp only [decide_eq_true_eq, decide_eq_false_iff_not] at h39; omega)
                    all_goals
                      refine e_aload_n dX11_recover_44 rfl rfl ?_
                      refine y_V0 (M' := mX11_acts) dX11_recover_45 ml_X11_86 ok_X11_acts (by decide) rfl im_X11_acts se_X11_acts (ct_X11_acts ‹_› hu hu6 hsc) (Nat.le_of_ble_eq_true rfl) (by decide) (Nat.le_of_ble_eq_true rfl) ?_
                      refine e_aload_n dX11_recover_48 rfl rfl ?_
                      refine e_iload_n dX11_recover_49 rfl rfl ?_
                      refine x_S1 (M' := mX11_moveAt) dX11_recover_50 ml_X11_62 ok_X11_moveAt rfl sc_X11_moveAt (ct_X11_moveAt) (Nat.le_of_ble_eq_true rfl) (by decide) (Nat.le_of_ble_eq_true rfl) ?_
                      refine x_V1 (M' := mX11_ends) dX11_recover_53 ml_X11_208 ok_X11_ends (by decide) rfl im_X11_ends se_X11_ends (ct_X11_ends ‹_› ‹_› ha) (Nat.le_of_ble_eq_true rfl) (by decide) (Nat.le_of_ble_eq_true rfl) ?_
                      refine e_ret (some _) rfl (r_int dX11_recover_56 rfl) ?_
                      exact xq rfl rfl rfl rfl rfl rfl
                  · try first | contradiction | omega | (simp only [decide_eq_true_eq, decide_eq_false_iff_not] at h39; omega)
                    all_goals
                      unfold recB at hb
                      grind
theorem ct_X11_give {fi : FI} {fr : FR} {ai : FI} {ar : FR} {N : Nat} {w : Nat → Nat} (sm : SM fr) (iv : Inv w) (y0 : Int32) {u : Nat} (hu : fi (32 * 11 + 4) (rf 11 80) = nI u) (hu6 : u ≤ 6) {sc : Bool} (hsc : fi (32 * 11 + 8) (rf 11 80) = bI sc) : CP mX11_give 3 0 0 [.ref (rf 11 80), .int y0] fi fr (mW ai w) ar N (xQ (some (.int (bI (givB w y0)))) (if givB w y0 then actF fi u sc else fi) fr (mW (if givB w y0 then actA ai u sc w else ai) (if givB w y0 then endW w y0.toNatClampNeg else w)) ar N) := by
  obtain ⟨sW, sA, sK, sU, sC, sKC, sT, sCl⟩ := id sm
  have h1 := iv_n iv
  have h3 := iv_mm iv
  change EV mX11_give 3 0 0 0 [some (.ref (rf 11 80)), some (.int y0)] [] fi fr (mW ai w) ar N (xQ (some (.int (bI (givB w y0)))) (if givB w y0 then actF fi u sc else fi) fr (mW (if givB w y0 then actA ai u sc w else ai) (if givB w y0 then endW w y0.toNatClampNeg else w)) ar N)
  cases hx : csT w y0 with
  | false =>
    have eb : givB w y0 = false := by unfold givB; rw [hx]; rfl
    rw [eb]
    refine e_aload_n dX11_give_0 rfl rfl ?_
    refine e_iload_n dX11_give_1 rfl rfl ?_
    refine x_V1 (M' := mX11_canStep) dX11_give_2 ml_X11_194 ok_X11_canStep (by decide) rfl im_X11_canStep se_X11_canStep (ct_X11_canStep ‹_› ‹_› _) (Nat.le_of_ble_eq_true rfl) (by decide) (Nat.le_of_ble_eq_true rfl) ?_
    rw [hx]
    first | ((with_reducible refine mk_b ?_); refine b_if_eq (tgt := 34) dX11_give_5 (by decide) (fun h5 => ?_) (fun h5 => ?_)) | ((with_reducible refine mk_ll ?_); refine m_if_eq (tgt := 34) dX11_give_5 (by decide) (by omega) (by omega) (fun h5 => ?_) (fun h5 => ?_)) | ((with_reducible refine mk_lc ?_); refine l_if_eq (tgt := 34) dX11_give_5 (by decide) (fun h5 => ?_) (fun h5 => ?_)) | ((with_reducible refine mk_n ?_); refine n_if_eq (tgt := 34) dX11_give_5 (by decide) (by omega) (fun h5 => ?_) (fun h5 => ?_)) | refine e_if_eq (tgt := 34) dX11_give_5 (by decide) (fun h5 => ?_) (fun h5 => ?_)
    · try first | contradiction | omega | (simp only [decide_eq_true_eq, decide_eq_false_iff_not] at h5; omega)
      all_goals
        refine e_iconst (v := nI 0) dX11_give_34 rfl ?_
        first | ((with_reducible refine mk_b ?_); refine e_ret (some _) rfl (r_bool dX11_give_35 rfl) ?_) | ((with_reducible refine mk_n1 ?_); refine e_ret (some _) rfl (r_b1 dX11_give_35 rfl) ?_) | ((with_reducible refine mk_n0 ?_); refine e_ret (some _) rfl (r_b0 dX11_give_35 rfl) ?_)
        exact xq rfl rfl rfl rfl rfl rfl
    · try first | contradiction | omega | (simp only [decide_eq_true_eq, decide_eq_false_iff_not] at h5; omega)
      all_goals
        refine e_aload_n dX11_give_8 rfl rfl ?_
        refine e_getR dX11_give_9 fl_X11_7 rfl (by assumption) ?_
        refine e_iload_n dX11_give_12 rfl rfl ?_
        refine x_S1 (M' := mX11_moveAt) dX11_give_13 ml_X11_62 ok_X11_moveAt rfl sc_X11_moveAt (ct_X11_moveAt) (Nat.le_of_ble_eq_true rfl) (by decide) (Nat.le_of_ble_eq_true rfl) ?_
        refine e_iconst (v := nI 0) dX11_give_16 rfl ?_
        first | ((with_reducible refine mk_nn ?_); refine n_iadd dX11_give_17 ?_) | refine e_iadd dX11_give_17 ?_
        first | ((with_reducible refine mk_ldw ?_); refine e_ldw dX11_give_18 (by omega) ?_) | refine e_iald _ dX11_give_18 ⟨by decide, by decide⟩ rfl rfl (by simp only [lenK]; omega) ?_
        refine e_iconst (v := nI 4) dX11_give_19 rfl ?_
        first | ((with_reducible refine mk_mo ?_); refine p_icmp_eq (tgt := 34) dX11_give_20 (by decide) (fun h20 => ?_) (fun h20 => ?_)) | ((with_reducible refine mk_ms ?_); refine s_icmp_eq (tgt := 34) dX11_give_20 (by decide) (by omega) (fun h20 => ?_) (fun h20 => ?_)) | ((with_reducible refine mk_mn ?_); refine q_icmp_eq (tgt := 34) dX11_give_20 (by decide) (by omega) (fun h20 => ?_) (fun h20 => ?_)) | ((with_reducible refine mk_nn ?_); refine n_icmp_eq (tgt := 34) dX11_give_20 (by decide) (by omega) (by omega) (fun h20 => ?_) (fun h20 => ?_)) | refine e_icmp_eq (tgt := 34) dX11_give_20 (by decide) (fun h20 => ?_) (fun h20 => ?_)
        · try first | contradiction | omega
          all_goals
            refine e_iconst (v := nI 0) dX11_give_34 rfl ?_
            first | ((with_reducible refine mk_b ?_); refine e_ret (some _) rfl (r_bool dX11_give_35 rfl) ?_) | ((with_reducible refine mk_n1 ?_); refine e_ret (some _) rfl (r_b1 dX11_give_35 rfl) ?_) | ((with_reducible refine mk_n0 ?_); refine e_ret (some _) rfl (r_b0 dX11_give_35 rfl) ?_)
            exact xq rfl rfl rfl rfl rfl rfl
        · try first | contradiction | omega
          all_goals
            refine e_aload_n dX11_give_23 rfl rfl ?_
            refine e_iload_n dX11_give_24 rfl rfl ?_
            refine x_S1 (M' := mX11_moveAt) dX11_give_25 ml_X11_62 ok_X11_moveAt rfl sc_X11_moveAt (ct_X11_moveAt) (Nat.le_of_ble_eq_true rfl) (by decide) (Nat.le_of_ble_eq_true rfl) ?_
            refine x_V1 (M' := mX11_areUp) dX11_give_28 ml_X11_205 ok_X11_areUp (by decide) rfl im_X11_areUp se_X11_areUp (by contradiction) (Nat.le_of_ble_eq_true rfl) (by decide) (Nat.le_of_ble_eq_true rfl) ?_
            first | ((with_reducible refine mk_b ?_); refine b_if_ne (tgt := 36) dX11_give_31 (by decide) (fun h31 => ?_) (fun h31 => ?_)) | ((with_reducible refine mk_ll ?_); refine m_if_ne (tgt := 36) dX11_give_31 (by decide) (by omega) (by omega) (fun h31 => ?_) (fun h31 => ?_)) | ((with_reducible refine mk_lc ?_); refine l_if_ne (tgt := 36) dX11_give_31 (by decide) (fun h31 => ?_) (fun h31 => ?_)) | ((with_reducible refine mk_n ?_); refine n_if_ne (tgt := 36) dX11_give_31 (by decide) (by omega) (fun h31 => ?_) (fun h31 => ?_)) | refine e_if_ne (tgt := 36) dX11_give_31 (by decide) (fun h31 => ?_) (fun h31 => ?_)
            · try first | contradiction | omega | (simp only [decide_eq_true_eq, decide_eq_false_iff_not] at h31; omega)
              all_goals
                refine e_aload_n dX11_give_36 rfl rfl ?_
                refine y_V0 (M' := mX11_acts) dX11_give_37 ml_X11_86 ok_X11_acts (by decide) rfl im_X11_acts se_X11_acts (ct_X11_acts ‹_› (by assumption) (by omega) (by assumption)) (Nat.le_of_ble_eq_true rfl) (by decide) (Nat.le_of_ble_eq_true rfl) ?_
                refine e_aload_n dX11_give_40 rfl rfl ?_
                refine e_iload_n dX11_give_41 rfl rfl ?_
                refine x_S1 (M' := mX11_moveAt) dX11_give_42 ml_X11_62 ok_X11_moveAt rfl sc_X11_moveAt (ct_X11_moveAt) (Nat.le_of_ble_eq_true rfl) (by decide) (Nat.le_of_ble_eq_true rfl) ?_
                refine x_V1 (M' := mX11_ends) dX11_give_45 ml_X11_208 ok_X11_ends (by decide) rfl im_X11_ends se_X11_ends (by contradiction) (Nat.le_of_ble_eq_true rfl) (by decide) (Nat.le_of_ble_eq_true rfl) ?_
                refine e_bipush (v := nI 6) dX11_give_48 rfl ?_
                first | ((with_reducible refine mk_mo ?_); refine p_icmp_ne (tgt := 57) dX11_give_50 (by decide) (fun h50 => ?_) (fun h50 => ?_)) | ((with_reducible refine mk_ms ?_); refine s_icmp_ne (tgt := 57) dX11_give_50 (by decide) (by omega) (fun h50 => ?_) (fun h50 => ?_)) | ((with_reducible refine mk_mn ?_); refine q_icmp_ne (tgt := 57) dX11_give_50 (by decide) (by omega) (fun h50 => ?_) (fun h50 => ?_)) | ((with_reducible refine mk_nn ?_); refine n_icmp_ne (tgt := 57) dX11_give_50 (by decide) (by omega) (by omega) (fun h50 => ?_) (fun h50 => ?_)) | refine e_icmp_ne (tgt := 57) dX11_give_50 (by decide) (fun h50 => ?_) (fun h50 => ?_)
                · try first | contradiction | omega
                  all_goals
                    refine e_iconst (v := nI 0) dX11_give_57 rfl ?_
                    first | ((with_reducible refine mk_b ?_); refine e_ret (some _) rfl (r_bool dX11_give_58 rfl) ?_) | ((with_reducible refine mk_n1 ?_); refine e_ret (some _) rfl (r_b1 dX11_give_58 rfl) ?_) | ((with_reducible refine mk_n0 ?_); refine e_ret (some _) rfl (r_b0 dX11_give_58 rfl) ?_)
                    exact xq rfl rfl rfl rfl rfl rfl
                · try first | contradiction | omega
                  all_goals
                    refine e_iconst (v := nI 1) dX11_give_53 rfl ?_
                    refine e_goto (tgt := 58) dX11_give_54 (by decide) ?_
                    first | ((with_reducible refine mk_b ?_); refine e_ret (some _) rfl (r_bool dX11_give_58 rfl) ?_) | ((with_reducible refine mk_n1 ?_); refine e_ret (some _) rfl (r_b1 dX11_give_58 rfl) ?_) | ((with_reducible refine mk_n0 ?_); refine e_ret (some _) rfl (r_b0 dX11_give_58 rfl) ?_)
                    exact xq rfl rfl rfl rfl rfl rfl
            · try first | contradiction | omega | (simp only [decide_eq_true_eq, decide_eq_false_iff_not] at h31; omega)
              all_goals
                refine e_iconst (v := nI 0) dX11_give_34 rfl ?_
                first | ((with_reducible refine mk_b ?_); refine e_ret (some _) rfl (r_bool dX11_give_35 rfl) ?_) | ((with_reducible refine mk_n1 ?_); refine e_ret (some _) rfl (r_b1 dX11_give_35 rfl) ?_) | ((with_reducible refine mk_n0 ?_); refine e_ret (some _) rfl (r_b0 dX11_give_35 rfl) ?_)
                exact xq rfl rfl rfl rfl rfl rfl
  | true =>
    have hx2 : inR y0 (w 3) = true := by unfold csT at hx; grind
    obtain ⟨a, ha, ha2, rfl⟩ := inR_ex hx2
    have hcl : (nI a).toNatClampNeg = a := nI_clamp ha2
    have hq := iv_mv iv ha
    cases hb : givB w (nI a) with
    | false =>
      refine e_aload_n dX11_give_0 rfl rfl ?_
      refine e_iload_n dX11_give_1 rfl rfl ?_
      refine x_V1 (M' := mX11_canStep) dX11_give_2 ml_X11_194 ok_X11_canStep (by decide) rfl im_X11_canStep se_X11_canStep (ct_X11_canStep ‹_› ‹_› _) (Nat.le_of_ble_eq_true rfl) (by decide) (Nat.le_of_ble_eq_true rfl) ?_
      rw [hx]
      first | ((with_reducible refine mk_b ?_); refine b_if_eq (tgt := 34) dX11_give_5 (by decide) (fun h5 => ?_) (fun h5 => ?_)) | ((with_reducible refine mk_ll ?_); refine m_if_eq (tgt := 34) dX11_give_5 (by decide) (by omega) (by omega) (fun h5 => ?_) (fun h5 => ?_)) | ((with_reducible refine mk_lc ?_); refine l_if_eq (tgt := 34) dX11_give_5 (by decide) (fun h5 => ?_) (fun h5 => ?_)) | ((with_reducible refine mk_n ?_); refine n_if_eq (tgt := 34) dX11_give_5 (by decide) (by omega) (fun h5 => ?_) (fun h5 => ?_)) | refine e_if_eq (tgt := 34) dX11_give_5 (by decide) (fun h5 => ?_) (fun h5 => ?_)
      · try first | contradiction | omega | (simp only [decide_eq_true_eq, decide_eq_false_iff_not] at h5; omega)
        all_goals
          refine e_iconst (v := nI 0) dX11_give_34 rfl ?_
          first | ((with_reducible refine mk_b ?_); refine e_ret (some _) rfl (r_bool dX11_give_35 rfl) ?_) | ((with_reducible refine mk_n1 ?_); refine e_ret (some _) rfl (r_b1 dX11_give_35 rfl) ?_) | ((with_reducible refine mk_n0 ?_); refine e_ret (some _) rfl (r_b0 dX11_give_35 rfl) ?_)
          exact xq rfl rfl rfl rfl rfl rfl
      · try first | contradiction | omega | (simp only [decide_eq_true_eq, decide_eq_false_iff_not] at h5; omega)
        all_goals
          refine e_aload_n dX11_give_8 rfl rfl ?_
          refine e_getR dX11_give_9 fl_X11_7 rfl (by assumption) ?_
          refine e_iload_n dX11_give_12 rfl rfl ?_
          refine x_S1 (M' := mX11_moveAt) dX11_give_13 ml_X11_62 ok_X11_moveAt rfl sc_X11_moveAt (ct_X11_moveAt) (Nat.le_of_ble_eq_true rfl) (by decide) (Nat.le_of_ble_eq_true rfl) ?_
          refine e_iconst (v := nI 0) dX11_give_16 rfl ?_
          first | ((with_reducible refine mk_nn ?_); refine n_iadd dX11_give_17 ?_) | refine e_iadd dX11_give_17 ?_
          first | ((with_reducible refine mk_ldw ?_); refine e_ldw dX11_give_18 (by omega) ?_) | refine e_iald _ dX11_give_18 ⟨by decide, by decide⟩ rfl rfl (by simp only [lenK]; omega) ?_
          refine e_iconst (v := nI 4) dX11_give_19 rfl ?_
          first | ((with_reducible refine mk_mo ?_); refine p_icmp_eq (tgt := 34) dX11_give_20 (by decide) (fun h20 => ?_) (fun h20 => ?_)) | ((with_reducible refine mk_ms ?_); refine s_icmp_eq (tgt := 34) dX11_give_20 (by decide) (by omega) (fun h20 => ?_) (fun h20 => ?_)) | ((with_reducible refine mk_mn ?_); refine q_icmp_eq (tgt := 34) dX11_give_20 (by decide) (by omega) (fun h20 => ?_) (fun h20 => ?_)) | ((with_reducible refine mk_nn ?_); refine n_icmp_eq (tgt := 34) dX11_give_20 (by decide) (by omega) (by omega) (fun h20 => ?_) (fun h20 => ?_)) | refine e_icmp_eq (tgt := 34) dX11_give_20 (by decide) (fun h20 => ?_) (fun h20 => ?_)
          · try first | contradiction | omega
            all_goals
              refine e_iconst (v := nI 0) dX11_give_34 rfl ?_
              first | ((with_reducible refine mk_b ?_); refine e_ret (some _) rfl (r_bool dX11_give_35 rfl) ?_) | ((with_reducible refine mk_n1 ?_); refine e_ret (some _) rfl (r_b1 dX11_give_35 rfl) ?_) | ((with_reducible refine mk_n0 ?_); refine e_ret (some _) rfl (r_b0 dX11_give_35 rfl) ?_)
              exact xq rfl rfl rfl rfl rfl rfl
          · try first | contradiction | omega
            all_goals
              refine e_aload_n dX11_give_23 rfl rfl ?_
              refine e_iload_n dX11_give_24 rfl rfl ?_
              refine x_S1 (M' := mX11_moveAt) dX11_give_25 ml_X11_62 ok_X11_moveAt rfl sc_X11_moveAt (ct_X11_moveAt) (Nat.le_of_ble_eq_true rfl) (by decide) (Nat.le_of_ble_eq_true rfl) ?_
              refine x_V1 (M' := mX11_areUp) dX11_give_28 ml_X11_205 ok_X11_areUp (by decide) rfl im_X11_areUp se_X11_areUp (ct_X11_areUp ‹_› ‹_› ha) (Nat.le_of_ble_eq_true rfl) (by decide) (Nat.le_of_ble_eq_true rfl) ?_
              first | ((with_reducible refine mk_b ?_); refine b_if_ne (tgt := 36) dX11_give_31 (by decide) (fun h31 => ?_) (fun h31 => ?_)) | ((with_reducible refine mk_ll ?_); refine m_if_ne (tgt := 36) dX11_give_31 (by decide) (by omega) (by omega) (fun h31 => ?_) (fun h31 => ?_)) | ((with_reducible refine mk_lc ?_); refine l_if_ne (tgt := 36) dX11_give_31 (by decide) (fun h31 => ?_) (fun h31 => ?_)) | ((with_reducible refine mk_n ?_); refine n_if_ne (tgt := 36) dX11_give_31 (by decide) (by omega) (fun h31 => ?_) (fun h31 => ?_)) | refine e_if_ne (tgt := 36) dX11_give_31 (by decide) (fun h31 => ?_) (fun h31 => ?_)
              · try first | contradiction | omega | (simp only [decide_eq_true_eq, decide_eq_false_iff_not] at h31; omega)
                all_goals
                  unfold givB at hb
                  grind
              · try first | contradiction | omega | (simp only [decide_eq_true_eq, decide_eq_false_iff_not] at h31; omega)
                all_goals
                  refine e_iconst (v := nI 0) dX11_give_34 rfl ?_
                  first | ((with_reducible refine mk_b ?_); refine e_ret (some _) rfl (r_bool dX11_give_35 rfl) ?_) | ((with_reducible refine mk_n1 ?_); refine e_ret (some _) rfl (r_b1 dX11_give_35 rfl) ?_) | ((with_reducible refine mk_n0 ?_); refine e_ret (some _) rfl (r_b0 dX11_give_35 rfl) ?_)
                  exact xq rfl rfl rfl rfl rfl rfl
    | true =>
      rw [hcl]
      have hst : w (7694 + 72 * a + 0) ≤ 3 := by unfold givB csT goB at hb; grind
      have eS : endS w a = 6 := if_pos hst
      refine e_aload_n dX11_give_0 rfl rfl ?_
      refine e_iload_n dX11_give_1 rfl rfl ?_
      refine x_V1 (M' := mX11_canStep) dX11_give_2 ml_X11_194 ok_X11_canStep (by decide) rfl im_X11_canStep se_X11_canStep (ct_X11_canStep ‹_› ‹_› _) (Nat.le_of_ble_eq_true rfl) (by decide) (Nat.le_of_ble_eq_true rfl) ?_
      rw [hx]
      first | ((with_reducible refine mk_b ?_); refine b_if_eq (tgt := 34) dX11_give_5 (by decide) (fun h5 => ?_) (fun h5 => ?_)) | ((with_reducible refine mk_ll ?_); refine m_if_eq (tgt := 34) dX11_give_5 (by decide) (by omega) (by omega) (fun h5 => ?_) (fun h5 => ?_)) | ((with_reducible refine mk_lc ?_); refine l_if_eq (tgt := 34) dX11_give_5 (by decide) (fun h5 => ?_) (fun h5 => ?_)) | ((with_reducible refine mk_n ?_); refine n_if_eq (tgt := 34) dX11_give_5 (by decide) (by omega) (fun h5 => ?_) (fun h5 => ?_)) | refine e_if_eq (tgt := 34) dX11_give_5 (by decide) (fun h5 => ?_) (fun h5 => ?_)
      · try first | contradiction | omega | (simp only [decide_eq_true_eq, decide_eq_false_iff_not] at h5; omega)
        all_goals
          unfold givB at hb
          grind
      · try first | contradiction | omega | (simp only [decide_eq_true_eq, decide_eq_false_iff_not] at h5; omega)
        all_goals
          refine e_aload_n dX11_give_8 rfl rfl ?_
          refine e_getR dX11_give_9 fl_X11_7 rfl (by assumption) ?_
          refine e_iload_n dX11_give_12 rfl rfl ?_
          refine x_S1 (M' := mX11_moveAt) dX11_give_13 ml_X11_62 ok_X11_moveAt rfl sc_X11_moveAt (ct_X11_moveAt) (Nat.le_of_ble_eq_true rfl) (by decide) (Nat.le_of_ble_eq_true rfl) ?_
          refine e_iconst (v := nI 0) dX11_give_16 rfl ?_
          first | ((with_reducible refine mk_nn ?_); refine n_iadd dX11_give_17 ?_) | refine e_iadd dX11_give_17 ?_
          first | ((with_reducible refine mk_ldw ?_); refine e_ldw dX11_give_18 (by omega) ?_) | refine e_iald _ dX11_give_18 ⟨by decide, by decide⟩ rfl rfl (by simp only [lenK]; omega) ?_
          refine e_iconst (v := nI 4) dX11_give_19 rfl ?_
          first | ((with_reducible refine mk_mo ?_); refine p_icmp_eq (tgt := 34) dX11_give_20 (by decide) (fun h20 => ?_) (fun h20 => ?_)) | ((with_reducible refine mk_ms ?_); refine s_icmp_eq (tgt := 34) dX11_give_20 (by decide) (by omega) (fun h20 => ?_) (fun h20 => ?_)) | ((with_reducible refine mk_mn ?_); refine q_icmp_eq (tgt := 34) dX11_give_20 (by decide) (by omega) (fun h20 => ?_) (fun h20 => ?_)) | ((with_reducible refine mk_nn ?_); refine n_icmp_eq (tgt := 34) dX11_give_20 (by decide) (by omega) (by omega) (fun h20 => ?_) (fun h20 => ?_)) | refine e_icmp_eq (tgt := 34) dX11_give_20 (by decide) (fun h20 => ?_) (fun h20 => ?_)
          · try first | contradiction | omega
            all_goals
              unfold givB at hb
              grind
          · try first | contradiction | omega
            all_goals
              refine e_aload_n dX11_give_23 rfl rfl ?_
              refine e_iload_n dX11_give_24 rfl rfl ?_
              refine x_S1 (M' := mX11_moveAt) dX11_give_25 ml_X11_62 ok_X11_moveAt rfl sc_X11_moveAt (ct_X11_moveAt) (Nat.le_of_ble_eq_true rfl) (by decide) (Nat.le_of_ble_eq_true rfl) ?_
              refine x_V1 (M' := mX11_areUp) dX11_give_28 ml_X11_205 ok_X11_areUp (by decide) rfl im_X11_areUp se_X11_areUp (ct_X11_areUp ‹_› ‹_› ha) (Nat.le_of_ble_eq_true rfl) (by decide) (Nat.le_of_ble_eq_true rfl) ?_
              first | ((with_reducible refine mk_b ?_); refine b_if_ne (tgt := 36) dX11_give_31 (by decide) (fun h31 => ?_) (fun h31 => ?_)) | ((with_reducible refine mk_ll ?_); refine m_if_ne (tgt := 36) dX11_give_31 (by decide) (by omega) (by omega) (fun h31 => ?_) (fun h31 => ?_)) | ((with_reducible refine mk_lc ?_); refine l_if_ne (tgt := 36) dX11_give_31 (by decide) (fun h31 => ?_) (fun h31 => ?_)) | ((with_reducible refine mk_n ?_); refine n_if_ne (tgt := 36) dX11_give_31 (by decide) (by omega) (fun h31 => ?_) (fun h31 => ?_)) | refine e_if_ne (tgt := 36) dX11_give_31 (by decide) (fun h31 => ?_) (fun h31 => ?_)
              · try first | contradiction | omega | (simp only [decide_eq_true_eq, decide_eq_false_iff_not] at h31; omega)
                all_goals
                  refine e_aload_n dX11_give_36 rfl rfl ?_
                  refine y_V0 (M' := mX11_acts) dX11_give_37 ml_X11_86 ok_X11_acts (by decide) rfl im_X11_acts se_X11_acts (ct_X11_acts ‹_› hu hu6 hsc) (Nat.le_of_ble_eq_true rfl) (by decide) (Nat.le_of_ble_eq_true rfl) ?_
                  refine e_aload_n dX11_give_40 rfl rfl ?_
                  refine e_iload_n dX11_give_41 rfl rfl ?_
                  refine x_S1 (M' := mX11_moveAt) dX11_give_42 ml_X11_62 ok_X11_moveAt rfl sc_X11_moveAt (ct_X11_moveAt) (Nat.le_of_ble_eq_true rfl) (by decide) (Nat.le_of_ble_eq_true rfl) ?_
                  refine x_V1 (M' := mX11_ends) dX11_give_45 ml_X11_208 ok_X11_ends (by decide) rfl im_X11_ends se_X11_ends (ct_X11_ends ‹_› ‹_› ha) (Nat.le_of_ble_eq_true rfl) (by decide) (Nat.le_of_ble_eq_true rfl) ?_
                  refine e_bipush (v := nI 6) dX11_give_48 rfl ?_
                  rw [eS]
                  first | ((with_reducible refine mk_mo ?_); refine p_icmp_ne (tgt := 57) dX11_give_50 (by decide) (fun h50 => ?_) (fun h50 => ?_)) | ((with_reducible refine mk_ms ?_); refine s_icmp_ne (tgt := 57) dX11_give_50 (by decide) (by omega) (fun h50 => ?_) (fun h50 => ?_)) | ((with_reducible refine mk_mn ?_); refine q_icmp_ne (tgt := 57) dX11_give_50 (by decide) (by omega) (fun h50 => ?_) (fun h50 => ?_)) | ((with_reducible refine mk_nn ?_); refine n_icmp_ne (tgt := 57) dX11_give_50 (by decide) (by omega) (by omega) (fun h50 => ?_) (fun h50 => ?_)) | refine e_icmp_ne (tgt := 57) dX11_give_50 (by decide) (fun h50 => ?_) (fun h50 => ?_)
                  · try first | contradiction | omega
                    all_goals
                      refine e_iconst (v := nI 0) dX11_give_57 rfl ?_
                      first | ((with_reducible refine mk_b ?_); refine e_ret (some _) rfl (r_bool dX11_give_58 rfl) ?_) | ((with_reducible refine mk_n1 ?_); refine e_ret (some _) rfl (r_b1 dX11_give_58 rfl) ?_) | ((with_reducible refine mk_n0 ?_); refine e_ret (some _) rfl (r_b0 dX11_give_58 rfl) ?_)
                      exact xq rfl rfl rfl rfl rfl rfl
                  · try first | contradiction | omega
                    all_goals
                      refine e_iconst (v := nI 1) dX11_give_53 rfl ?_
                      refine e_goto (tgt := 58) dX11_give_54 (by decide) ?_
                      first | ((with_reducible refine mk_b ?_); refine e_ret (some _) rfl (r_bool dX11_give_58 rfl) ?_) | ((with_reducible refine mk_n1 ?_); refine e_ret (some _) rfl (r_b1 dX11_give_58 rfl) ?_) | ((with_reducible refine mk_n0 ?_); refine e_ret (some _) rfl (r_b0 dX11_give_58 rfl) ?_)
                      exact xq rfl rfl rfl rfl rfl rfl
              · try first | contradiction | omega | (simp only [decide_eq_true_eq, decide_eq_false_iff_not] at h31; omega)
                all_goals
                  unfold givB at hb
                  grind
theorem ct_X11_up {fi : FI} {fr : FR} {ai : FI} {ar : FR} {N : Nat} {w : Nat → Nat} (sm : SM fr) (iv : Inv w) (y0 : Int32) {sc : Bool} (hsc : fi (32 * 11 + 8) (rf 11 80) = bI sc) : CP mX11_up 2 0 0 [.ref (rf 11 80), .int y0] fi fr (mW ai w) ar N (xQ (some (.int (bI (inR y0 6 && decide (w (4 + y0.toNatClampNeg) ≠ 1))))) (if inR y0 6 && decide (w (4 + y0.toNatClampNeg) ≠ 1) then forF fi sc else fi) fr (mW ai (if inR y0 6 && decide (w (4 + y0.toNatClampNeg) ≠ 1) then upN w (4 + y0.toNatClampNeg) 1 else w)) ar N) := by
  obtain ⟨sW, sA, sK, sU, sC, sKC, sT, sCl⟩ := id sm
  have h1 := iv_n iv
  have h3 := iv_mm iv
  change EV mX11_up 2 0 0 0 [some (.ref (rf 11 80)), some (.int y0)] [] fi fr (mW ai w) ar N (xQ (some (.int (bI (inR y0 6 && decide (w (4 + y0.toNatClampNeg) ≠ 1))))) (if inR y0 6 && decide (w (4 + y0.toNatClampNeg) ≠ 1) then forF fi sc else fi) fr (mW ai (if inR y0 6 && decide (w (4 + y0.toNatClampNeg) ≠ 1) then upN w (4 + y0.toNatClampNeg) 1 else w)) ar N)
  cases hx : inR y0 6 with
  | false =>
    have hx2 := inR_f hx
    refine e_iload_n dX11_up_0 rfl rfl ?_
    refine x_S1 (M' := mX11_isServer) dX11_up_1 ml_X11_161 ok_X11_isServer rfl sc_X11_isServer (ct_X11_isServer _) (Nat.le_of_ble_eq_true rfl) (by decide) (Nat.le_of_ble_eq_true rfl) ?_
    rw [hx]
    first | ((with_reducible refine mk_b ?_); refine b_if_eq (tgt := 19) dX11_up_4 (by decide) (fun h4 => ?_) (fun h4 => ?_)) | ((with_reducible refine mk_ll ?_); refine m_if_eq (tgt := 19) dX11_up_4 (by decide) (by omega) (by omega) (fun h4 => ?_) (fun h4 => ?_)) | ((with_reducible refine mk_lc ?_); refine l_if_eq (tgt := 19) dX11_up_4 (by decide) (fun h4 => ?_) (fun h4 => ?_)) | ((with_reducible refine mk_n ?_); refine n_if_eq (tgt := 19) dX11_up_4 (by decide) (by omega) (fun h4 => ?_) (fun h4 => ?_)) | refine e_if_eq (tgt := 19) dX11_up_4 (by decide) (fun h4 => ?_) (fun h4 => ?_)
    · try first | contradiction | omega | (simp only [decide_eq_true_eq, decide_eq_false_iff_not] at h4; omega)
      all_goals
        refine e_iconst (v := nI 0) dX11_up_19 rfl ?_
        first | ((with_reducible refine mk_b ?_); refine e_ret (some _) rfl (r_bool dX11_up_20 rfl) ?_) | ((with_reducible refine mk_n1 ?_); refine e_ret (some _) rfl (r_b1 dX11_up_20 rfl) ?_) | ((with_reducible refine mk_n0 ?_); refine e_ret (some _) rfl (r_b0 dX11_up_20 rfl) ?_)
        exact xq rfl rfl rfl rfl rfl rfl
    · try first | contradiction | omega | (simp only [decide_eq_true_eq, decide_eq_false_iff_not] at h4; omega)
      all_goals
        contradiction
  | true =>
    obtain ⟨a, ha, ha2, rfl⟩ := inR_ex hx
    have hcl : (nI a).toNatClampNeg = a := nI_clamp ha2
    rw [hcl]
    have hua := iv_up iv ha
    by_cases h1u : w (4 + a) = 1
    · rw [decide_eq_false (by omega)]
      refine e_iload_n dX11_up_0 rfl rfl ?_
      refine x_S1 (M' := mX11_isServer) dX11_up_1 ml_X11_161 ok_X11_isServer rfl sc_X11_isServer (ct_X11_isServer _) (Nat.le_of_ble_eq_true rfl) (by decide) (Nat.le_of_ble_eq_true rfl) ?_
      rw [hx]
      first | ((with_reducible refine mk_b ?_); refine b_if_eq (tgt := 19) dX11_up_4 (by decide) (fun h4 => ?_) (fun h4 => ?_)) | ((with_reducible refine mk_ll ?_); refine m_if_eq (tgt := 19) dX11_up_4 (by decide) (by omega) (by omega) (fun h4 => ?_) (fun h4 => ?_)) | ((with_reducible refine mk_lc ?_); refine l_if_eq (tgt := 19) dX11_up_4 (by decide) (fun h4 => ?_) (fun h4 => ?_)) | ((with_reducible refine mk_n ?_); refine n_if_eq (tgt := 19) dX11_up_4 (by decide) (by omega) (fun h4 => ?_) (fun h4 => ?_)) | refine e_if_eq (tgt := 19) dX11_up_4 (by decide) (fun h4 => ?_) (fun h4 => ?_)
      · try first | contradiction | omega | (simp only [decide_eq_true_eq, decide_eq_false_iff_not] at h4; omega)
        all_goals
          refine e_iconst (v := nI 0) dX11_up_19 rfl ?_
          first | ((with_reducible refine mk_b ?_); refine e_ret (some _) rfl (r_bool dX11_up_20 rfl) ?_) | ((with_reducible refine mk_n1 ?_); refine e_ret (some _) rfl (r_b1 dX11_up_20 rfl) ?_) | ((with_reducible refine mk_n0 ?_); refine e_ret (some _) rfl (r_b0 dX11_up_20 rfl) ?_)
          exact xq rfl rfl rfl rfl rfl rfl
      · try first | contradiction | omega | (simp only [decide_eq_true_eq, decide_eq_false_iff_not] at h4; omega)
        all_goals
          refine e_aload_n dX11_up_7 rfl rfl ?_
          refine e_getR dX11_up_8 fl_X11_7 rfl (by assumption) ?_
          refine e_iconst (v := nI 4) dX11_up_11 rfl ?_
          refine e_iload_n dX11_up_12 rfl rfl ?_
          first | ((with_reducible refine mk_nn ?_); refine n_iadd dX11_up_13 ?_) | refine e_iadd dX11_up_13 ?_
          first | ((with_reducible refine mk_ldw ?_); refine e_ldw dX11_up_14 (by omega) ?_) | refine e_iald _ dX11_up_14 ⟨by decide, by decide⟩ rfl rfl (by simp only [lenK]; omega) ?_
          refine e_iconst (v := nI 1) dX11_up_15 rfl ?_
          first | ((with_reducible refine mk_mo ?_); refine p_icmp_ne (tgt := 21) dX11_up_16 (by decide) (fun h16 => ?_) (fun h16 => ?_)) | ((with_reducible refine mk_ms ?_); refine s_icmp_ne (tgt := 21) dX11_up_16 (by decide) (by omega) (fun h16 => ?_) (fun h16 => ?_)) | ((with_reducible refine mk_mn ?_); refine q_icmp_ne (tgt := 21) dX11_up_16 (by decide) (by omega) (fun h16 => ?_) (fun h16 => ?_)) | ((with_reducible refine mk_nn ?_); refine n_icmp_ne (tgt := 21) dX11_up_16 (by decide) (by omega) (by omega) (fun h16 => ?_) (fun h16 => ?_)) | refine e_icmp_ne (tgt := 21) dX11_up_16 (by decide) (fun h16 => ?_) (fun h16 => ?_)
          · try first | contradiction | omega
            all_goals
              contradiction
          · try first | contradiction | omega
            all_goals
              refine e_iconst (v := nI 0) dX11_up_19 rfl ?_
              first | ((with_reducible refine mk_b ?_); refine e_ret (some _) rfl (r_bool dX11_up_20 rfl) ?_) | ((with_reducible refine mk_n1 ?_); refine e_ret (some _) rfl (r_b1 dX11_up_20 rfl) ?_) | ((with_reducible refine mk_n0 ?_); refine e_ret (some _) rfl (r_b0 dX11_up_20 rfl) ?_)
              exact xq rfl rfl rfl rfl rfl rfl
    · rw [decide_eq_true (by omega)]
      refine e_iload_n dX11_up_0 rfl rfl ?_
      refine x_S1 (M' := mX11_isServer) dX11_up_1 ml_X11_161 ok_X11_isServer rfl sc_X11_isServer (ct_X11_isServer _) (Nat.le_of_ble_eq_true rfl) (by decide) (Nat.le_of_ble_eq_true rfl) ?_
      rw [hx]
      first | ((with_reducible refine mk_b ?_); refine b_if_eq (tgt := 19) dX11_up_4 (by decide) (fun h4 => ?_) (fun h4 => ?_)) | ((with_reducible refine mk_ll ?_); refine m_if_eq (tgt := 19) dX11_up_4 (by decide) (by omega) (by omega) (fun h4 => ?_) (fun h4 => ?_)) | ((with_reducible refine mk_lc ?_); refine l_if_eq (tgt := 19) dX11_up_4 (by decide) (fun h4 => ?_) (fun h4 => ?_)) | ((with_reducible refine mk_n ?_); refine n_if_eq (tgt := 19) dX11_up_4 (by decide) (by omega) (fun h4 => ?_) (fun h4 => ?_)) | refine e_if_eq (tgt := 19) dX11_up_4 (by decide) (fun h4 => ?_) (fun h4 => ?_)
      · try first | contradiction | omega | (simp only [decide_eq_true_eq, decide_eq_false_iff_not] at h4; omega)
        all_goals
          contradiction
      · try first | contradiction | omega | (simp only [decide_eq_true_eq, decide_eq_false_iff_not] at h4; omega)
        all_goals
          refine e_aload_n dX11_up_7 rfl rfl ?_
          refine e_getR dX11_up_8 fl_X11_7 rfl (by assumption) ?_
          refine e_iconst (v := nI 4) dX11_up_11 rfl ?_
          refine e_iload_n dX11_up_12 rfl rfl ?_
          first | ((with_reducible refine mk_nn ?_); refine n_iadd dX11_up_13 ?_) | refine e_iadd dX11_up_13 ?_
          first | ((with_reducible refine mk_ldw ?_); refine e_ldw dX11_up_14 (by omega) ?_) | refine e_iald _ dX11_up_14 ⟨by decide, by decide⟩ rfl rfl (by simp only [lenK]; omega) ?_
          refine e_iconst (v := nI 1) dX11_up_15 rfl ?_
          first | ((with_reducible refine mk_mo ?_); refine p_icmp_ne (tgt := 21) dX11_up_16 (by decide) (fun h16 => ?_) (fun h16 => ?_)) | ((with_reducible refine mk_ms ?_); refine s_icmp_ne (tgt := 21) dX11_up_16 (by decide) (by omega) (fun h16 => ?_) (fun h16 => ?_)) | ((with_reducible refine mk_mn ?_); refine q_icmp_ne (tgt := 21) dX11_up_16 (by decide) (by omega) (fun h16 => ?_) (fun h16 => ?_)) | ((with_reducible refine mk_nn ?_); refine n_icmp_ne (tgt := 21) dX11_up_16 (by decide) (by omega) (by omega) (fun h16 => ?_) (fun h16 => ?_)) | refine e_icmp_ne (tgt := 21) dX11_up_16 (by decide) (fun h16 => ?_) (fun h16 => ?_)
          · try first | contradiction | omega
            all_goals
              refine e_aload_n dX11_up_21 rfl rfl ?_
              refine y_V0 (M' := mX11_forgets) dX11_up_22 ml_X11_124 ok_X11_forgets (by decide) rfl im_X11_forgets se_X11_forgets (ct_X11_forgets ‹_› (by assumption)) (Nat.le_of_ble_eq_true rfl) (by decide) (Nat.le_of_ble_eq_true rfl) ?_
              refine e_aload_n dX11_up_25 rfl rfl ?_
              refine e_getR dX11_up_26 fl_X11_7 rfl (by assumption) ?_
              refine e_iconst (v := nI 4) dX11_up_29 rfl ?_
              refine e_iload_n dX11_up_30 rfl rfl ?_
              first | ((with_reducible refine mk_nn ?_); refine n_iadd dX11_up_31 ?_) | refine e_iadd dX11_up_31 ?_
              refine e_iconst (v := nI 1) dX11_up_32 rfl ?_
              first | ((with_reducible refine mk_stw ?_); refine e_stw dX11_up_33 (by omega) ?_) | refine e_iast _ dX11_up_33 ⟨by decide, by decide⟩ rfl rfl (by simp only [lenK]; omega) ?_
              refine e_iconst (v := nI 1) dX11_up_34 rfl ?_
              first | ((with_reducible refine mk_b ?_); refine e_ret (some _) rfl (r_bool dX11_up_35 rfl) ?_) | ((with_reducible refine mk_n1 ?_); refine e_ret (some _) rfl (r_b1 dX11_up_35 rfl) ?_) | ((with_reducible refine mk_n0 ?_); refine e_ret (some _) rfl (r_b0 dX11_up_35 rfl) ?_)
              exact xq rfl rfl rfl rfl rfl rfl
          · try first | contradiction | omega
            all_goals
              contradiction
theorem ct_X11_chunk {fi : FI} {fr : FR} {ai : FI} {ar : FR} {N : Nat} {w : Nat → Nat} (sm : SM fr) (iv : Inv w) (y0 : Int32) {sc : Bool} (hsc : fi (32 * 11 + 8) (rf 11 80) = bI sc) : CP mX11_chunk 1 0 0 [.ref (rf 11 80), .int y0] fi fr (mW ai w) ar N (xQ (some (.int (bI (decide (1 ≤ y0.toInt ∧ y0.toInt ≤ 16))))) (if 1 ≤ y0.toInt ∧ y0.toInt ≤ 16 then forF fi sc else fi) fr (mW ai (if 1 ≤ y0.toInt ∧ y0.toInt ≤ 16 then upN w 2 y0.toNatClampNeg else w)) ar N) := by
  obtain ⟨sW, sA, sK, sU, sC, sKC, sT, sCl⟩ := id sm
  have h1 := iv_n iv
  have h3 := iv_mm iv
  change EV mX11_chunk 1 0 0 0 [some (.ref (rf 11 80)), some (.int y0)] [] fi fr (mW ai w) ar N (xQ (some (.int (bI (decide (1 ≤ y0.toInt ∧ y0.toInt ≤ 16))))) (if 1 ≤ y0.toInt ∧ y0.toInt ≤ 16 then forF fi sc else fi) fr (mW ai (if 1 ≤ y0.toInt ∧ y0.toInt ≤ 16 then upN w 2 y0.toNatClampNeg else w)) ar N)
  by_cases hx : 1 ≤ y0.toInt ∧ y0.toInt ≤ 16
  · obtain ⟨a, ha, rfl, hai, hac⟩ := int_ex (x := y0) (by omega)
    rw [if_pos hx, if_pos hx, decide_eq_true hx, hac]
    refine e_iload_n dX11_chunk_0 rfl rfl ?_
    first | ((with_reducible refine mk_n ?_); refine n_i2l dX11_chunk_1 (by omega) ?_) | refine e_i2l dX11_chunk_1 ?_
    refine e_lconst (v := lN 1) dX11_chunk_2 rfl ?_
    refine e_ldc2 dX11_chunk_3 co_X11_215 ?_
    refine x_S3 (M' := mX11_isIn) dX11_chunk_6 ml_X11_45 ok_X11_isIn rfl sc_X11_isIn (by first | ((with_reducible refine ct_isInN ?_ ?_ ?_) <;> omega) | ((with_reducible refine ct_isInX ?_ ?_) <;> omega) | exact ct_X11_isIn _ _ _) (Nat.le_of_ble_eq_true rfl) (by decide) (Nat.le_of_ble_eq_true rfl) ?_
    first | ((with_reducible refine mk_b ?_); refine b_if_ne (tgt := 14) dX11_chunk_9 (by decide) (fun h9 => ?_) (fun h9 => ?_)) | ((with_reducible refine mk_ll ?_); refine m_if_ne (tgt := 14) dX11_chunk_9 (by decide) (by omega) (by omega) (fun h9 => ?_) (fun h9 => ?_)) | ((with_reducible refine mk_lc ?_); refine l_if_ne (tgt := 14) dX11_chunk_9 (by decide) (fun h9 => ?_) (fun h9 => ?_)) | ((with_reducible refine mk_n ?_); refine n_if_ne (tgt := 14) dX11_chunk_9 (by decide) (by omega) (fun h9 => ?_) (fun h9 => ?_)) | refine e_if_ne (tgt := 14) dX11_chunk_9 (by decide) (fun h9 => ?_) (fun h9 => ?_)
    · try first | contradiction | omega | (simp only [decide_eq_true_eq, decide_eq_false_iff_not] at h9; omega)
      all_goals
        refine e_aload_n dX11_chunk_14 rfl rfl ?_
        refine y_V0 (M' := mX11_forgets) dX11_chunk_15 ml_X11_124 ok_X11_forgets (by decide) rfl im_X11_forgets se_X11_forgets (ct_X11_forgets ‹_› (by assumption)) (Nat.le_of_ble_eq_true rfl) (by decide) (Nat.le_of_ble_eq_true rfl) ?_
        refine e_aload_n dX11_chunk_18 rfl rfl ?_
        refine e_getR dX11_chunk_19 fl_X11_7 rfl (by assumption) ?_
        refine e_iconst (v := nI 2) dX11_chunk_22 rfl ?_
        refine e_iload_n dX11_chunk_23 rfl rfl ?_
        first | ((with_reducible refine mk_stw ?_); refine e_stw dX11_chunk_24 (by omega) ?_) | refine e_iast _ dX11_chunk_24 ⟨by decide, by decide⟩ rfl rfl (by simp only [lenK]; omega) ?_
        refine e_iconst (v := nI 1) dX11_chunk_25 rfl ?_
        first | ((with_reducible refine mk_b ?_); refine e_ret (some _) rfl (r_bool dX11_chunk_26 rfl) ?_) | ((with_reducible refine mk_n1 ?_); refine e_ret (some _) rfl (r_b1 dX11_chunk_26 rfl) ?_) | ((with_reducible refine mk_n0 ?_); refine e_ret (some _) rfl (r_b0 dX11_chunk_26 rfl) ?_)
        exact xq rfl rfl rfl rfl rfl rfl
    · try first | contradiction | omega | (simp only [decide_eq_true_eq, decide_eq_false_iff_not] at h9; omega)
      all_goals
        omega
  · rw [if_neg hx, if_neg hx, decide_eq_false hx]
    refine e_iload_n dX11_chunk_0 rfl rfl ?_
    first | ((with_reducible refine mk_n ?_); refine n_i2l dX11_chunk_1 (by omega) ?_) | refine e_i2l dX11_chunk_1 ?_
    refine e_lconst (v := lN 1) dX11_chunk_2 rfl ?_
    refine e_ldc2 dX11_chunk_3 co_X11_215 ?_
    refine x_S3 (M' := mX11_isIn) dX11_chunk_6 ml_X11_45 ok_X11_isIn rfl sc_X11_isIn (by first | ((with_reducible refine ct_isInN ?_ ?_ ?_) <;> omega) | ((with_reducible refine ct_isInX ?_ ?_) <;> omega) | exact ct_X11_isIn _ _ _) (Nat.le_of_ble_eq_true rfl) (by decide) (Nat.le_of_ble_eq_true rfl) ?_
    first | ((with_reducible refine mk_b ?_); refine b_if_ne (tgt := 14) dX11_chunk_9 (by decide) (fun h9 => ?_) (fun h9 => ?_)) | ((with_reducible refine mk_ll ?_); refine m_if_ne (tgt := 14) dX11_chunk_9 (by decide) (by omega) (by omega) (fun h9 => ?_) (fun h9 => ?_)) | ((with_reducible refine mk_lc ?_); refine l_if_ne (tgt := 14) dX11_chunk_9 (by decide) (fun h9 => ?_) (fun h9 => ?_)) | ((with_reducible refine mk_n ?_); refine n_if_ne (tgt := 14) dX11_chunk_9 (by decide) (by omega) (fun h9 => ?_) (fun h9 => ?_)) | refine e_if_ne (tgt := 14) dX11_chunk_9 (by decide) (fun h9 => ?_) (fun h9 => ?_)
    · try first | contradiction | omega | (simp only [decide_eq_true_eq, decide_eq_false_iff_not] at h9; omega)
      all_goals
        omega
    · try first | contradiction | omega | (simp only [decide_eq_true_eq, decide_eq_false_iff_not] at h9; omega)
      all_goals
        refine e_iconst (v := nI 0) dX11_chunk_12 rfl ?_
        first | ((with_reducible refine mk_b ?_); refine e_ret (some _) rfl (r_bool dX11_chunk_13 rfl) ?_) | ((with_reducible refine mk_n1 ?_); refine e_ret (some _) rfl (r_b1 dX11_chunk_13 rfl) ?_) | ((with_reducible refine mk_n0 ?_); refine e_ret (some _) rfl (r_b0 dX11_chunk_13 rfl) ?_)
        exact xq rfl rfl rfl rfl rfl rfl
def faiB (w : Nat → Nat) (x y : Int32) : Bool := inR y 100 && inR x (w 3) && goB w x.toNatClampNeg
theorem ct_X11_fail {fi : FI} {fr : FR} {ai : FI} {ar : FR} {N : Nat} {w : Nat → Nat} (sm : SM fr) (iv : Inv w) (y0 y1 : Int32) {sc : Bool} (hsc : fi (32 * 11 + 8) (rf 11 80) = bI sc) : CP mX11_fail 2 0 0 [.ref (rf 11 80), .int y0, .int y1] fi fr (mW ai w) ar N (xQ (some (.int (bI (faiB w y0 y1)))) (if faiB w y0 y1 then forF fi sc else fi) fr (mW ai (if faiB w y0 y1 then upN w (7694 + 72 * y0.toNatClampNeg + 10) y1.toNatClampNeg else w)) ar N) := by
  obtain ⟨sW, sA, sK, sU, sC, sKC, sT, sCl⟩ := id sm
  have h1 := iv_n iv
  have h3 := iv_mm iv
  change EV mX11_fail 2 0 0 0 [some (.ref (rf 11 80)), some (.int y0), some (.int y1)] [] fi fr (mW ai w) ar N (xQ (some (.int (bI (faiB w y0 y1)))) (if faiB w y0 y1 then forF fi sc else fi) fr (mW ai (if faiB w y0 y1 then upN w (7694 + 72 * y0.toNatClampNeg + 10) y1.toNatClampNeg else w)) ar N)
  cases hy : inR y1 100 with
  | false =>
    have hy2 := inR_f hy
    have eb : faiB w y0 y1 = false := by unfold faiB; rw [hy]; rfl
    rw [eb]
    refine e_iload_n dX11_fail_0 rfl rfl ?_
    first | ((with_reducible refine mk_n ?_); refine n_i2l dX11_fail_1 (by omega) ?_) | refine e_i2l dX11_fail_1 ?_
    refine e_lconst (v := lN 0) dX11_fail_2 rfl ?_
    refine e_ldc2 dX11_fail_3 co_X11_200 ?_
    refine x_S3 (M' := mX11_isIn) dX11_fail_6 ml_X11_45 ok_X11_isIn rfl sc_X11_isIn (by first | ((with_reducible refine ct_isInN ?_ ?_ ?_) <;> omega) | ((with_reducible refine ct_isInX ?_ ?_) <;> omega) | exact ct_X11_isIn _ _ _) (Nat.le_of_ble_eq_true rfl) (by decide) (Nat.le_of_ble_eq_true rfl) ?_
    first | ((with_reducible refine mk_b ?_); refine b_if_eq (tgt := 28) dX11_fail_9 (by decide) (fun h9 => ?_) (fun h9 => ?_)) | ((with_reducible refine mk_ll ?_); refine m_if_eq (tgt := 28) dX11_fail_9 (by decide) (by omega) (by omega) (fun h9 => ?_) (fun h9 => ?_)) | ((with_reducible refine mk_lc ?_); refine l_if_eq (tgt := 28) dX11_fail_9 (by decide) (fun h9 => ?_) (fun h9 => ?_)) | ((with_reducible refine mk_n ?_); refine n_if_eq (tgt := 28) dX11_fail_9 (by decide) (by omega) (fun h9 => ?_) (fun h9 => ?_)) | refine e_if_eq (tgt := 28) dX11_fail_9 (by decide) (fun h9 => ?_) (fun h9 => ?_)
    · try first | contradiction | omega | (simp only [decide_eq_true_eq, decide_eq_false_iff_not] at h9; omega)
      all_goals
        refine e_iconst (v := nI 0) dX11_fail_28 rfl ?_
        first | ((with_reducible refine mk_b ?_); refine e_ret (some _) rfl (r_bool dX11_fail_29 rfl) ?_) | ((with_reducible refine mk_n1 ?_); refine e_ret (some _) rfl (r_b1 dX11_fail_29 rfl) ?_) | ((with_reducible refine mk_n0 ?_); refine e_ret (some _) rfl (r_b0 dX11_fail_29 rfl) ?_)
        exact xq rfl rfl rfl rfl rfl rfl
    · try first | contradiction | omega | (simp only [decide_eq_true_eq, decide_eq_false_iff_not] at h9; omega)
      all_goals
        contradiction
  | true =>
    obtain ⟨b, hb0, hb2, rfl⟩ := inR_ex hy
    have hbl : (nI b).toNatClampNeg = b := nI_clamp hb2
    cases hx : inR y0 (w 3) with
    | false =>
      have eb : faiB w y0 (nI b) = false := by unfold faiB; rw [hx, hy]; rfl
      rw [eb]
      refine e_iload_n dX11_fail_0 rfl rfl ?_
      first | ((with_reducible refine mk_n ?_); refine n_i2l dX11_fail_1 (by omega) ?_) | refine e_i2l dX11_fail_1 ?_
      refine e_lconst (v := lN 0) dX11_fail_2 rfl ?_
      refine e_ldc2 dX11_fail_3 co_X11_200 ?_
      refine x_S3 (M' := mX11_isIn) dX11_fail_6 ml_X11_45 ok_X11_isIn rfl sc_X11_isIn (by first | ((with_reducible refine ct_isInN ?_ ?_ ?_) <;> omega) | ((with_reducible refine ct_isInX ?_ ?_) <;> omega) | exact ct_X11_isIn _ _ _) (Nat.le_of_ble_eq_true rfl) (by decide) (Nat.le_of_ble_eq_true rfl) ?_
      first | ((with_reducible refine mk_b ?_); refine b_if_eq (tgt := 28) dX11_fail_9 (by decide) (fun h9 => ?_) (fun h9 => ?_)) | ((with_reducible refine mk_ll ?_); refine m_if_eq (tgt := 28) dX11_fail_9 (by decide) (by omega) (by omega) (fun h9 => ?_) (fun h9 => ?_)) | ((with_reducible refine mk_lc ?_); refine l_if_eq (tgt := 28) dX11_fail_9 (by decide) (fun h9 => ?_) (fun h9 => ?_)) | ((with_reducible refine mk_n ?_); refine n_if_eq (tgt := 28) dX11_fail_9 (by decide) (by omega) (fun h9 => ?_) (fun h9 => ?_)) | refine e_if_eq (tgt := 28) dX11_fail_9 (by decide) (fun h9 => ?_) (fun h9 => ?_)
      · try first | contradiction | omega | (simp only [decide_eq_true_eq, decide_eq_false_iff_not] at h9; omega)
        all_goals
          refine e_iconst (v := nI 0) dX11_fail_28 rfl ?_
          first | ((with_reducible refine mk_b ?_); refine e_ret (some _) rfl (r_bool dX11_fail_29 rfl) ?_) | ((with_reducible refine mk_n1 ?_); refine e_ret (some _) rfl (r_b1 dX11_fail_29 rfl) ?_) | ((with_reducible refine mk_n0 ?_); refine e_ret (some _) rfl (r_b0 dX11_fail_29 rfl) ?_)
          exact xq rfl rfl rfl rfl rfl rfl
      · try first | contradiction | omega | (simp only [decide_eq_true_eq, decide_eq_false_iff_not] at h9; omega)
        all_goals
          refine e_aload_n dX11_fail_12 rfl rfl ?_
          refine e_iload_n dX11_fail_13 rfl rfl ?_
          refine x_V1 (M' := mX11_isMove) dX11_fail_14 ml_X11_189 ok_X11_isMove (by decide) rfl im_X11_isMove se_X11_isMove (ct_X11_isMove ‹_› ‹_› _) (Nat.le_of_ble_eq_true rfl) (by decide) (Nat.le_of_ble_eq_true rfl) ?_
          rw [hx]
          first | ((with_reducible refine mk_b ?_); refine b_if_eq (tgt := 28) dX11_fail_17 (by decide) (fun h17 => ?_) (fun h17 => ?_)) | ((with_reducible refine mk_ll ?_); refine m_if_eq (tgt := 28) dX11_fail_17 (by decide) (by omega) (by omega) (fun h17 => ?_) (fun h17 => ?_)) | ((with_reducible refine mk_lc ?_); refine l_if_eq (tgt := 28) dX11_fail_17 (by decide) (fun h17 => ?_) (fun h17 => ?_)) | ((with_reducible refine mk_n ?_); refine n_if_eq (tgt := 28) dX11_fail_17 (by decide) (by omega) (fun h17 => ?_) (fun h17 => ?_)) | refine e_if_eq (tgt := 28) dX11_fail_17 (by decide) (fun h17 => ?_) (fun h17 => ?_)
          · try first | contradiction | omega | (simp only [decide_eq_true_eq, decide_eq_false_iff_not] at h17; omega)
            all_goals
              refine e_iconst (v := nI 0) dX11_fail_28 rfl ?_
              first | ((with_reducible refine mk_b ?_); refine e_ret (some _) rfl (r_bool dX11_fail_29 rfl) ?_) | ((with_reducible refine mk_n1 ?_); refine e_ret (some _) rfl (r_b1 dX11_fail_29 rfl) ?_) | ((with_reducible refine mk_n0 ?_); refine e_ret (some _) rfl (r_b0 dX11_fail_29 rfl) ?_)
              exact xq rfl rfl rfl rfl rfl rfl
          · try first | contradiction | omega | (simp only [decide_eq_true_eq, decide_eq_false_iff_not] at h17; omega)
            all_goals
              contradiction
    | true =>
      obtain ⟨a, ha, ha2, rfl⟩ := inR_ex hx
      have hcl : (nI a).toNatClampNeg = a := nI_clamp ha2
      rw [hcl, hbl]
      cases hg : goB w a with
      | false =>
        have eb : faiB w (nI a) (nI b) = false := by unfold faiB; rw [hx, hy, hcl, hg]; rfl
        rw [eb]
        refine e_iload_n dX11_fail_0 rfl rfl ?_
        first | ((with_reducible refine mk_n ?_); refine n_i2l dX11_fail_1 (by omega) ?_) | refine e_i2l dX11_fail_1 ?_
        refine e_lconst (v := lN 0) dX11_fail_2 rfl ?_
        refine e_ldc2 dX11_fail_3 co_X11_200 ?_
        refine x_S3 (M' := mX11_isIn) dX11_fail_6 ml_X11_45 ok_X11_isIn rfl sc_X11_isIn (by first | ((with_reducible refine ct_isInN ?_ ?_ ?_) <;> omega) | ((with_reducible refine ct_isInX ?_ ?_) <;> omega) | exact ct_X11_isIn _ _ _) (Nat.le_of_ble_eq_true rfl) (by decide) (Nat.le_of_ble_eq_true rfl) ?_
        first | ((with_reducible refine mk_b ?_); refine b_if_eq (tgt := 28) dX11_fail_9 (by decide) (fun h9 => ?_) (fun h9 => ?_)) | ((with_reducible refine mk_ll ?_); refine m_if_eq (tgt := 28) dX11_fail_9 (by decide) (by omega) (by omega) (fun h9 => ?_) (fun h9 => ?_)) | ((with_reducible refine mk_lc ?_); refine l_if_eq (tgt := 28) dX11_fail_9 (by decide) (fun h9 => ?_) (fun h9 => ?_)) | ((with_reducible refine mk_n ?_); refine n_if_eq (tgt := 28) dX11_fail_9 (by decide) (by omega) (fun h9 => ?_) (fun h9 => ?_)) | refine e_if_eq (tgt := 28) dX11_fail_9 (by decide) (fun h9 => ?_) (fun h9 => ?_)
        · try first | contradiction | omega | (simp only [decide_eq_true_eq, decide_eq_false_iff_not] at h9; omega)
          all_goals
            refine e_iconst (v := nI 0) dX11_fail_28 rfl ?_
            first | ((with_reducible refine mk_b ?_); refine e_ret (some _) rfl (r_bool dX11_fail_29 rfl) ?_) | ((with_reducible refine mk_n1 ?_); refine e_ret (some _) rfl (r_b1 dX11_fail_29 rfl) ?_) | ((with_reducible refine mk_n0 ?_); refine e_ret (some _) rfl (r_b0 dX11_fail_29 rfl) ?_)
            exact xq rfl rfl rfl rfl rfl rfl
        · try first | contradiction | omega | (simp only [decide_eq_true_eq, decide_eq_false_iff_not] at h9; omega)
          all_goals
            refine e_aload_n dX11_fail_12 rfl rfl ?_
            refine e_iload_n dX11_fail_13 rfl rfl ?_
            refine x_V1 (M' := mX11_isMove) dX11_fail_14 ml_X11_189 ok_X11_isMove (by decide) rfl im_X11_isMove se_X11_isMove (ct_X11_isMove ‹_› ‹_› _) (Nat.le_of_ble_eq_true rfl) (by decide) (Nat.le_of_ble_eq_true rfl) ?_
            rw [hx]
            first | ((with_reducible refine mk_b ?_); refine b_if_eq (tgt := 28) dX11_fail_17 (by decide) (fun h17 => ?_) (fun h17 => ?_)) | ((with_reducible refine mk_ll ?_); refine m_if_eq (tgt := 28) dX11_fail_17 (by decide) (by omega) (by omega) (fun h17 => ?_) (fun h17 => ?_)) | ((with_reducible refine mk_lc ?_); refine l_if_eq (tgt := 28) dX11_fail_17 (by decide) (fun h17 => ?_) (fun h17 => ?_)) | ((with_reducible refine mk_n ?_); refine n_if_eq (tgt := 28) dX11_fail_17 (by decide) (by omega) (fun h17 => ?_) (fun h17 => ?_)) | refine e_if_eq (tgt := 28) dX11_fail_17 (by decide) (fun h17 => ?_) (fun h17 => ?_)
            · try first | contradiction | omega | (simp only [decide_eq_true_eq, decide_eq_false_iff_not] at h17; omega)
              all_goals
                refine e_iconst (v := nI 0) dX11_fail_28 rfl ?_
                first | ((with_reducible refine mk_b ?_); refine e_ret (some _) rfl (r_bool dX11_fail_29 rfl) ?_) | ((with_reducible refine mk_n1 ?_); refine e_ret (some _) rfl (r_b1 dX11_fail_29 rfl) ?_) | ((with_reducible refine mk_n0 ?_); refine e_ret (some _) rfl (r_b0 dX11_fail_29 rfl) ?_)
                exact xq rfl rfl rfl rfl rfl rfl
            · try first | contradiction | omega | (simp only [decide_eq_true_eq, decide_eq_false_iff_not] at h17; omega)
              all_goals
                refine e_aload_n dX11_fail_20 rfl rfl ?_
                refine e_iload_n dX11_fail_21 rfl rfl ?_
                refine x_V1 (M' := mX11_isGoing) dX11_fail_22 ml_X11_67 ok_X11_isGoing (by decide) rfl im_X11_isGoing se_X11_isGoing (ct_X11_isGoing ‹_› ‹_› ha) (Nat.le_of_ble_eq_true rfl) (by decide) (Nat.le_of_ble_eq_true rfl) ?_
                rw [hg]
                first | ((with_reducible refine mk_b ?_); refine b_if_ne (tgt := 30) dX11_fail_25 (by decide) (fun h25 => ?_) (fun h25 => ?_)) | ((with_reducible refine mk_ll ?_); refine m_if_ne (tgt := 30) dX11_fail_25 (by decide) (by omega) (by omega) (fun h25 => ?_) (fun h25 => ?_)) | ((with_reducible refine mk_lc ?_); refine l_if_ne (tgt := 30) dX11_fail_25 (by decide) (fun h25 => ?_) (fun h25 => ?_)) | ((with_reducible refine mk_n ?_); refine n_if_ne (tgt := 30) dX11_fail_25 (by decide) (by omega) (fun h25 => ?_) (fun h25 => ?_)) | refine e_if_ne (tgt := 30) dX11_fail_25 (by decide) (fun h25 => ?_) (fun h25 => ?_)
                · try first | contradiction | omega | (simp only [decide_eq_true_eq, decide_eq_false_iff_not] at h25; omega)
                  all_goals
                    contradiction
                · try first | contradiction | omega | (simp only [decide_eq_true_eq, decide_eq_false_iff_not] at h25; omega)
                  all_goals
                    refine e_iconst (v := nI 0) dX11_fail_28 rfl ?_
                    first | ((with_reducible refine mk_b ?_); refine e_ret (some _) rfl (r_bool dX11_fail_29 rfl) ?_) | ((with_reducible refine mk_n1 ?_); refine e_ret (some _) rfl (r_b1 dX11_fail_29 rfl) ?_) | ((with_reducible refine mk_n0 ?_); refine e_ret (some _) rfl (r_b0 dX11_fail_29 rfl) ?_)
                    exact xq rfl rfl rfl rfl rfl rfl
      | true =>
        have eb : faiB w (nI a) (nI b) = true := by unfold faiB; rw [hx, hy, hcl, hg]; rfl
        rw [eb]
        refine e_iload_n dX11_fail_0 rfl rfl ?_
        first | ((with_reducible refine mk_n ?_); refine n_i2l dX11_fail_1 (by omega) ?_) | refine e_i2l dX11_fail_1 ?_
        refine e_lconst (v := lN 0) dX11_fail_2 rfl ?_
        refine e_ldc2 dX11_fail_3 co_X11_200 ?_
        refine x_S3 (M' := mX11_isIn) dX11_fail_6 ml_X11_45 ok_X11_isIn rfl sc_X11_isIn (by first | ((with_reducible refine ct_isInN ?_ ?_ ?_) <;> omega) | ((with_reducible refine ct_isInX ?_ ?_) <;> omega) | exact ct_X11_isIn _ _ _) (Nat.le_of_ble_eq_true rfl) (by decide) (Nat.le_of_ble_eq_true rfl) ?_
        first | ((with_reducible refine mk_b ?_); refine b_if_eq (tgt := 28) dX11_fail_9 (by decide) (fun h9 => ?_) (fun h9 => ?_)) | ((with_reducible refine mk_ll ?_); refine m_if_eq (tgt := 28) dX11_fail_9 (by decide) (by omega) (by omega) (fun h9 => ?_) (fun h9 => ?_)) | ((with_reducible refine mk_lc ?_); refine l_if_eq (tgt := 28) dX11_fail_9 (by decide) (fun h9 => ?_) (fun h9 => ?_)) | ((with_reducible refine mk_n ?_); refine n_if_eq (tgt := 28) dX11_fail_9 (by decide) (by omega) (fun h9 => ?_) (fun h9 => ?_)) | refine e_if_eq (tgt := 28) dX11_fail_9 (by decide) (fun h9 => ?_) (fun h9 => ?_)
        · try first | contradiction | omega | (simp only [decide_eq_true_eq, decide_eq_false_iff_not] at h9; omega)
          all_goals
            contradiction
        · try first | contradiction | omega | (simp only [decide_eq_true_eq, decide_eq_false_iff_not] at h9; omega)
          all_goals
            refine e_aload_n dX11_fail_12 rfl rfl ?_
            refine e_iload_n dX11_fail_13 rfl rfl ?_
            refine x_V1 (M' := mX11_isMove) dX11_fail_14 ml_X11_189 ok_X11_isMove (by decide) rfl im_X11_isMove se_X11_isMove (ct_X11_isMove ‹_› ‹_› _) (Nat.le_of_ble_eq_true rfl) (by decide) (Nat.le_of_ble_eq_true rfl) ?_
            rw [hx]
            first | ((with_reducible refine mk_b ?_); refine b_if_eq (tgt := 28) dX11_fail_17 (by decide) (fun h17 => ?_) (fun h17 => ?_)) | ((with_reducible refine mk_ll ?_); refine m_if_eq (tgt := 28) dX11_fail_17 (by decide) (by omega) (by omega) (fun h17 => ?_) (fun h17 => ?_)) | ((with_reducible refine mk_lc ?_); refine l_if_eq (tgt := 28) dX11_fail_17 (by decide) (fun h17 => ?_) (fun h17 => ?_)) | ((with_reducible refine mk_n ?_); refine n_if_eq (tgt := 28) dX11_fail_17 (by decide) (by omega) (fun h17 => ?_) (fun h17 => ?_)) | refine e_if_eq (tgt := 28) dX11_fail_17 (by decide) (fun h17 => ?_) (fun h17 => ?_)
            · try first | contradiction | omega | (simp only [decide_eq_true_eq, decide_eq_false_iff_not] at h17; omega)
              all_goals
                contradiction
            · try first | contradiction | omega | (simp only [decide_eq_true_eq, decide_eq_false_iff_not] at h17; omega)
              all_goals
                refine e_aload_n dX11_fail_20 rfl rfl ?_
                refine e_iload_n dX11_fail_21 rfl rfl ?_
                refine x_V1 (M' := mX11_isGoing) dX11_fail_22 ml_X11_67 ok_X11_isGoing (by decide) rfl im_X11_isGoing se_X11_isGoing (ct_X11_isGoing ‹_› ‹_› ha) (Nat.le_of_ble_eq_true rfl) (by decide) (Nat.le_of_ble_eq_true rfl) ?_
                rw [hg]
                first | ((with_reducible refine mk_b ?_); refine b_if_ne (tgt := 30) dX11_fail_25 (by decide) (fun h25 => ?_) (fun h25 => ?_)) | ((with_reducible refine mk_ll ?_); refine m_if_ne (tgt := 30) dX11_fail_25 (by decide) (by omega) (by omega) (fun h25 => ?_) (fun h25 => ?_)) | ((with_reducible refine mk_lc ?_); refine l_if_ne (tgt := 30) dX11_fail_25 (by decide) (fun h25 => ?_) (fun h25 => ?_)) | ((with_reducible refine mk_n ?_); refine n_if_ne (tgt := 30) dX11_fail_25 (by decide) (by omega) (fun h25 => ?_) (fun h25 => ?_)) | refine e_if_ne (tgt := 30) dX11_fail_25 (by decide) (fun h25 => ?_) (fun h25 => ?_)
                · try first | contradiction | omega | (simp only [decide_eq_true_eq, decide_eq_false_iff_not] at h25; omega)
                  all_goals
                    refine e_aload_n dX11_fail_30 rfl rfl ?_
                    refine y_V0 (M' := mX11_forgets) dX11_fail_31 ml_X11_124 ok_X11_forgets (by decide) rfl im_X11_forgets se_X11_forgets (ct_X11_forgets ‹_› (by assumption)) (Nat.le_of_ble_eq_true rfl) (by decide) (Nat.le_of_ble_eq_true rfl) ?_
                    refine e_aload_n dX11_fail_34 rfl rfl ?_
                    refine e_getR dX11_fail_35 fl_X11_7 rfl (by assumption) ?_
                    refine e_iload_n dX11_fail_38 rfl rfl ?_
                    refine x_S1 (M' := mX11_moveAt) dX11_fail_39 ml_X11_62 ok_X11_moveAt rfl sc_X11_moveAt (ct_X11_moveAt) (Nat.le_of_ble_eq_true rfl) (by decide) (Nat.le_of_ble_eq_true rfl) ?_
                    refine e_bipush (v := nI 10) dX11_fail_42 rfl ?_
                    first | ((with_reducible refine mk_nn ?_); refine n_iadd dX11_fail_44 ?_) | refine e_iadd dX11_fail_44 ?_
                    refine e_iload_n dX11_fail_45 rfl rfl ?_
                    first | ((with_reducible refine mk_stw ?_); refine e_stw dX11_fail_46 (by omega) ?_) | refine e_iast _ dX11_fail_46 ⟨by decide, by decide⟩ rfl rfl (by simp only [lenK]; omega) ?_
                    refine e_iconst (v := nI 1) dX11_fail_47 rfl ?_
                    first | ((with_reducible refine mk_b ?_); refine e_ret (some _) rfl (r_bool dX11_fail_48 rfl) ?_) | ((with_reducible refine mk_n1 ?_); refine e_ret (some _) rfl (r_b1 dX11_fail_48 rfl) ?_) | ((with_reducible refine mk_n0 ?_); refine e_ret (some _) rfl (r_b0 dX11_fail_48 rfl) ?_)
                    exact xq rfl rfl rfl rfl rfl rfl
                · try first | contradiction | omega | (simp only [decide_eq_true_eq, decide_eq_false_iff_not] at h25; omega)
                  all_goals
                    contradiction
