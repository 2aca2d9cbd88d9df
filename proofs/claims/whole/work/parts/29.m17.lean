def agF (w : Nat → Nat) (j : Nat) : Nat → Nat := fun q => if 106 ≤ q ∧ q < 106 + j then w q / 2 else w q
theorem agF_0 (w : Nat → Nat) : agF w 0 = w := by
  funext q
  exact if_neg (by omega)
theorem agF_s (w : Nat → Nat) (j : Nat) : upN (agF w j) (106 + j) (w (106 + j) / 2) = agF w (j + 1) := by
  funext q
  unfold upN agF
  repeat' split
  all_goals first | rfl | omega | (congr 2; omega)
theorem agF_fr {w : Nat → Nat} {j q : Nat} (h : q < 106 ∨ 106 + j ≤ q) : agF w j q = w q := if_neg (by omega)
def ageW (w : Nat → Nat) : Nat → Nat := agF w 1000
theorem ageW_Inv {w : Nat → Nat} (iv : Inv w) : Inv (ageW w) := by
  refine Inv_vw (fun q hq h => agF_fr (by omega)) (fun k hk => ?_) (fun i hi => ?_) iv
  · show (if 106 ≤ 106 + k ∧ 106 + k < 106 + 1000 then w (106 + k) / 2 else w (106 + k)) ≤ 100000
    have := iv_wt iv hk
    rw [if_pos (by omega)]
    omega
  · rw [show ageW w (1106 + i) = w (1106 + i) from agF_fr (by omega)]
    exact iv_va iv hi
def ovF (w v : Nat → Nat) (j : Nat) : Nat → Nat := fun q => if q < j then v q else w q
theorem ovF_0 (w v : Nat → Nat) : ovF w v 0 = w := by
  funext q
  exact if_neg (by omega)
theorem ovF_s (w v : Nat → Nat) (j : Nat) : upN (ovF w v j) j (v j) = ovF w v (j + 1) := by
  funext q
  unfold upN ovF
  repeat' split
  all_goals first | rfl | omega | (congr 1; omega)
theorem ne33 : rf 33 84 ≠ rf 32 81 := by decide
theorem ne82 : rf 32 82 ≠ rf 32 81 := by decide
theorem ct_X11_age {fi : FI} {fr : FR} {ai : FI} {ar : FR} {N : Nat} {w : Nat → Nat} (sm : SM fr) (iv : Inv w) {u : Nat} (hu : fi (32 * 11 + 4) (rf 11 80) = nI u) (hu6 : u ≤ 6) {sc : Bool} (hsc : fi (32 * 11 + 8) (rf 11 80) = bI sc) : CP mX11_age 2 0 0 [.ref (rf 11 80)] fi fr (mW ai w) ar N (xQ (some (.long (lN (rs (fun k => ageW w (106 + k)) 0 1000)))) (actF fi u sc) fr (mW (actA ai u sc w) (ageW w)) ar N) := by
  obtain ⟨sW, sA, sK, sU, sC, sKC, sT, sCl⟩ := id sm
  have h1 := iv_n iv
  have h3 := iv_mm iv
  change EV mX11_age 2 0 0 0 [some (.ref (rf 11 80)), none] [] fi fr (mW ai w) ar N (xQ (some (.long (lN (rs (fun k => ageW w (106 + k)) 0 1000)))) (actF fi u sc) fr (mW (actA ai u sc w) (ageW w)) ar N)
  have ivA := ageW_Inv iv
  have key := ev_up (P := fun j => EV mX11_age 2 0 0 6 [some (.ref (rf 11 80)), some (.int (nI j))] [] (actF fi u sc) fr (mW (actA ai u sc w) (agF w j)) ar N (xQ (some (.long (lN (rs (fun k => ageW w (106 + k)) 0 1000)))) (actF fi u sc) fr (mW (actA ai u sc w) (ageW w)) ar N)) 1000 (fun j hj ih => by
    have hw := iv_wt iv hj
    have r : agF w j (106 + j) = w (106 + j) := agF_fr (by omega)
    refine e_iload_n dX11_age_6 rfl rfl ?_
    refine e_sipush (v := nI 1000) dX11_age_7 rfl ?_
    first | ((with_reducible refine mk_nn ?_); refine n_icmp_ge (tgt := 32) dX11_age_10 (by decide) (by omega) (by omega) (fun h10 => ?_) (fun h10 => ?_)) | refine e_icmp_ge (tgt := 32) dX11_age_10 (by decide) (fun h10 => ?_) (fun h10 => ?_)
    · try first | contradiction | omega
      all_goals
        refine e_aload_n dX11_age_32 rfl rfl ?_
        refine x_V0 (M' := mX11_allWeight) dX11_age_33 ml_X11_211 ok_X11_allWeight (by decide) rfl im_X11_allWeight se_X11_allWeight (ct_X11_allWeight ‹_› ‹_›) (Nat.le_of_ble_eq_true rfl) (by decide) (Nat.le_of_ble_eq_true rfl) ?_
        refine e_ret (some _) rfl (r_long dX11_age_36 rfl) ?_
        exact xq (by first | rfl | simp_all [bI_t, bI_f]) rfl rfl rfl rfl rfl
    · try first | contradiction | omega
      all_goals
        refine e_aload_n dX11_age_13 rfl rfl ?_
        refine e_getR dX11_age_14 fl_X11_7 rfl (by assumption) ?_
        refine e_bipush (v := nI 106) dX11_age_17 rfl ?_
        refine e_iload_n dX11_age_19 rfl rfl ?_
        first | ((with_reducible refine mk_nn ?_); refine n_iadd dX11_age_20 ?_) | refine e_iadd dX11_age_20 ?_
        refine e_dup2 dX11_age_21 rfl rfl ?_
        first | ((with_reducible refine mk_ldw ?_); refine e_ldw dX11_age_22 (by omega) ?_) | refine e_iald _ dX11_age_22 ⟨by decide, by decide⟩ rfl rfl (by simp only [lenK]; omega) ?_
        rw [r]
        refine e_iconst (v := nI 2) dX11_age_23 rfl ?_
        first | ((with_reducible refine mk_nn ?_); refine n_idiv dX11_age_24 (by omega) (by omega) (by omega) ?_) | refine e_idiv dX11_age_24 (by decide) ?_
        first | ((with_reducible refine mk_stw ?_); refine e_stw dX11_age_25 (by omega) ?_) | refine e_iast _ dX11_age_25 ⟨by decide, by decide⟩ rfl rfl (by simp only [lenK]; omega) ?_
        first | refine n_inc dX11_age_26 rfl (Nat.le_of_ble_eq_true rfl) rfl ?_ | refine e_iinc dX11_age_26 rfl rfl (Nat.le_of_ble_eq_true rfl) rfl ?_
        refine e_goto (tgt := 6) dX11_age_29 (by decide) ?_
        rw [agF_s]
        exact ih
    ) (by
    refine e_iload_n dX11_age_6 rfl rfl ?_
    refine e_sipush (v := nI 1000) dX11_age_7 rfl ?_
    first | ((with_reducible refine mk_nn ?_); refine n_icmp_ge (tgt := 32) dX11_age_10 (by decide) (by omega) (by omega) (fun h10 => ?_) (fun h10 => ?_)) | refine e_icmp_ge (tgt := 32) dX11_age_10 (by decide) (fun h10 => ?_) (fun h10 => ?_)
    · try first | contradiction | omega
      all_goals
        refine e_aload_n dX11_age_32 rfl rfl ?_
        refine x_V0 (M' := mX11_allWeight) dX11_age_33 ml_X11_211 ok_X11_allWeight (by decide) rfl im_X11_allWeight se_X11_allWeight (ct_X11_allWeight ‹_› ivA) (Nat.le_of_ble_eq_true rfl) (by decide) (Nat.le_of_ble_eq_true rfl) ?_
        refine e_ret (some _) rfl (r_long dX11_age_36 rfl) ?_
        exact xq rfl rfl rfl rfl rfl rfl
    · try first | contradiction | omega
      all_goals
        refine e_aload_n dX11_age_13 rfl rfl ?_
        refine e_getR dX11_age_14 fl_X11_7 rfl (by assumption) ?_
        refine e_bipush (v := nI 106) dX11_age_17 rfl ?_
        refine e_iload_n dX11_age_19 rfl rfl ?_
        first | ((with_reducible refine mk_nn ?_); refine n_iadd dX11_age_20 ?_) | refine e_iadd dX11_age_20 ?_
        refine e_dup2 dX11_age_21 rfl rfl ?_
        first | ((with_reducible refine mk_ldw ?_); refine e_ldw dX11_age_22 (by omega) ?_) | refine e_iald _ dX11_age_22 ⟨by decide, by decide⟩ rfl rfl (by simp only [lenK]; omega) ?_
        rw [r]
        refine e_iconst (v := nI 2) dX11_age_23 rfl ?_
        first | ((with_reducible refine mk_nn ?_); refine n_idiv dX11_age_24 (by omega) (by omega) (by omega) ?_) | refine e_idiv dX11_age_24 (by decide) ?_
        first | ((with_reducible refine mk_stw ?_); refine e_stw dX11_age_25 (by omega) ?_) | refine e_iast _ dX11_age_25 ⟨by decide, by decide⟩ rfl rfl (by simp only [lenK]; omega) ?_
        first | refine n_inc dX11_age_26 rfl (Nat.le_of_ble_eq_true rfl) rfl ?_ | refine e_iinc dX11_age_26 rfl rfl (Nat.le_of_ble_eq_true rfl) rfl ?_
        refine e_goto (tgt := 6) dX11_age_29 (by decide) ?_
        rw [agF_s]
        exact ih
    )
  have kk := key 0 (by omega)
  rw [agF_0] at kk
  refine e_aload_n dX11_age_0 rfl rfl ?_
  refine y_V0 (M' := mX11_acts) dX11_age_1 ml_X11_86 ok_X11_acts (by decide) rfl im_X11_acts se_X11_acts (ct_X11_acts ‹_› hu hu6 hsc) (Nat.le_of_ble_eq_true rfl) (by decide) (Nat.le_of_ble_eq_true rfl) ?_
  refine e_iconst (v := nI 0) dX11_age_4 rfl ?_
  refine e_istore_n dX11_age_5 rfl (Nat.le_of_ble_eq_true rfl) rfl ?_
  exact kk
theorem ct_undo1 {fi : FI} {fr : FR} {ai : FI} {ar : FR} {N : Nat} {w : Nat → Nat} (sm : SM fr) {u : Nat} (hu : fi (32 * 11 + 4) (rf 11 80) = nI u) (hu6 : u ≤ 6) (hu0 : 0 < u) {v : Nat → Nat} (hv : ∀ k, k < 8558 → ai (rf 33 84) (8558 * (u - 1) + k) = nI (v k)) : CP mX11_undo 0 0 0 [.ref (rf 11 80)] fi fr (mW ai w) ar N (xQ (some (.int (nI (u - 1)))) (up2 fi (32 * 11 + 4) (rf 11 80) (nI (u - 1))) fr (mW ai (ovF w v 8558)) ar N) := by
  obtain ⟨sW, sA0, sK, sU, sC, sKC, sT, sCl⟩ := id sm
  change EV mX11_undo 0 0 0 0 [some (.ref (rf 11 80)), none] [] fi fr (mW ai w) ar N (xQ (some (.int (nI (u - 1)))) (up2 fi (32 * 11 + 4) (rf 11 80) (nI (u - 1))) fr (mW ai (ovF w v 8558)) ar N)
  have hs : up2 fi (32 * 11 + 4) (rf 11 80) (nI (u - 1)) (32 * 11 + 4) (rf 11 80) = nI (u - 1) := up2_s _ _ _ _
  have key := ev_up (P := fun j => EV mX11_undo 0 0 0 21 [some (.ref (rf 11 80)), some (.int (nI j))] [] (up2 fi (32 * 11 + 4) (rf 11 80) (nI (u - 1))) fr (mW ai (ovF w v j)) ar N (xQ (some (.int (nI (u - 1)))) (up2 fi (32 * 11 + 4) (rf 11 80) (nI (u - 1))) fr (mW ai (ovF w v 8558)) ar N)) 8558 (fun j hj ih => by
    refine e_iload_n dX11_undo_21 rfl rfl ?_
    refine e_sipush (v := nI 8558) dX11_undo_22 rfl ?_
    first | ((with_reducible refine mk_nn ?_); refine n_icmp_ge (tgt := 55) dX11_undo_25 (by decide) (by omega) (by omega) (fun h25 => ?_) (fun h25 => ?_)) | refine e_icmp_ge (tgt := 55) dX11_undo_25 (by decide) (fun h25 => ?_) (fun h25 => ?_)
    · try first | contradiction | omega
      all_goals
        refine e_aload_n dX11_undo_55 rfl rfl ?_
        refine e_getI dX11_undo_56 fl_X11_51 rfl ?_
        first | rw [hs] | rw [hu]
        refine e_ret (some _) rfl (r_int dX11_undo_59 rfl) ?_
        exact xq (by first | rfl | simp_all [bI_t, bI_f]) rfl rfl rfl rfl rfl
    · try first | contradiction | omega
      all_goals
        refine e_aload_n dX11_undo_28 rfl rfl ?_
        refine e_getR dX11_undo_29 fl_X11_7 rfl (by assumption) ?_
        refine e_iload_n dX11_undo_32 rfl rfl ?_
        refine e_aload_n dX11_undo_33 rfl rfl ?_
        refine e_getR dX11_undo_34 fl_X11_20 rfl (by assumption) ?_
        refine e_sipush (v := nI 8558) dX11_undo_37 rfl ?_
        refine e_aload_n dX11_undo_40 rfl rfl ?_
        refine e_getI dX11_undo_41 fl_X11_51 rfl ?_
        first | rw [hs] | rw [hu]
        first | ((with_reducible refine mk_nn ?_); refine n_imul dX11_undo_44 ?_) | refine e_imul dX11_undo_44 ?_
        refine e_iload_n dX11_undo_45 rfl rfl ?_
        first | ((with_reducible refine mk_nn ?_); refine n_iadd dX11_undo_46 ?_) | refine e_iadd dX11_undo_46 ?_
        first | ((with_reducible refine mk_ldw ?_); refine e_ldw dX11_undo_47 (by omega) ?_) | refine e_iald _ dX11_undo_47 ⟨by decide, by decide⟩ rfl rfl (by simp only [lenK]; omega) ?_
        rw [mW_o ne33, hv j hj]
        first | ((with_reducible refine mk_stw ?_); refine e_stw dX11_undo_48 (by omega) ?_) | refine e_iast _ dX11_undo_48 ⟨by decide, by decide⟩ rfl rfl (by simp only [lenK]; omega) ?_
        first | refine n_inc dX11_undo_49 rfl (Nat.le_of_ble_eq_true rfl) rfl ?_ | refine e_iinc dX11_undo_49 rfl rfl (Nat.le_of_ble_eq_true rfl) rfl ?_
        refine e_goto (tgt := 21) dX11_undo_52 (by decide) ?_
        rw [ovF_s]
        exact ih
    ) (by
    refine e_iload_n dX11_undo_21 rfl rfl ?_
    refine e_sipush (v := nI 8558) dX11_undo_22 rfl ?_
    first | ((with_reducible refine mk_nn ?_); refine n_icmp_ge (tgt := 55) dX11_undo_25 (by decide) (by omega) (by omega) (fun h25 => ?_) (fun h25 => ?_)) | refine e_icmp_ge (tgt := 55) dX11_undo_25 (by decide) (fun h25 => ?_) (fun h25 => ?_)
    · try first | contradiction | omega
      all_goals
        refine e_aload_n dX11_undo_55 rfl rfl ?_
        refine e_getI dX11_undo_56 fl_X11_51 rfl ?_
        first | rw [hs] | rw [hu]
        refine e_ret (some _) rfl (r_int dX11_undo_59 rfl) ?_
        exact xq rfl rfl rfl rfl rfl rfl
    · try first | contradiction | omega
      all_goals
        refine e_aload_n dX11_undo_28 rfl rfl ?_
        refine e_getR dX11_undo_29 fl_X11_7 rfl (by assumption) ?_
        refine e_iload_n dX11_undo_32 rfl rfl ?_
        refine e_aload_n dX11_undo_33 rfl rfl ?_
        refine e_getR dX11_undo_34 fl_X11_20 rfl (by assumption) ?_
        refine e_sipush (v := nI 8558) dX11_undo_37 rfl ?_
        refine e_aload_n dX11_undo_40 rfl rfl ?_
        refine e_getI dX11_undo_41 fl_X11_51 rfl ?_
        first | rw [hs] | rw [hu]
        first | ((with_reducible refine mk_nn ?_); refine n_imul dX11_undo_44 ?_) | refine e_imul dX11_undo_44 ?_
        refine e_iload_n dX11_undo_45 rfl rfl ?_
        first | ((with_reducible refine mk_nn ?_); refine n_iadd dX11_undo_46 ?_) | refine e_iadd dX11_undo_46 ?_
        first | ((with_reducible refine mk_ldw ?_); refine e_ldw dX11_undo_47 (by omega) ?_) | refine e_iald _ dX11_undo_47 ⟨by decide, by decide⟩ rfl rfl (by simp only [lenK]; omega) ?_
        rw [mW_o ne33, hv j hj]
        first | ((with_reducible refine mk_stw ?_); refine e_stw dX11_undo_48 (by omega) ?_) | refine e_iast _ dX11_undo_48 ⟨by decide, by decide⟩ rfl rfl (by simp only [lenK]; omega) ?_
        first | refine n_inc dX11_undo_49 rfl (Nat.le_of_ble_eq_true rfl) rfl ?_ | refine e_iinc dX11_undo_49 rfl rfl (Nat.le_of_ble_eq_true rfl) rfl ?_
        refine e_goto (tgt := 21) dX11_undo_52 (by decide) ?_
        rw [ovF_s]
        exact ih
    )
  have kk := key 0 (by omega)
  rw [ovF_0] at kk
  refine e_aload_n dX11_undo_0 rfl rfl ?_
  refine e_getI dX11_undo_1 fl_X11_51 rfl ?_
  first | rw [hs] | rw [hu]
  first | ((with_reducible refine mk_b ?_); refine b_if_ne (tgt := 9) dX11_undo_4 (by decide) (fun h4 => ?_) (fun h4 => ?_)) | ((with_reducible refine mk_ll ?_); refine m_if_ne (tgt := 9) dX11_undo_4 (by decide) (by omega) (by omega) (fun h4 => ?_) (fun h4 => ?_)) | ((with_reducible refine mk_lc ?_); refine l_if_ne (tgt := 9) dX11_undo_4 (by decide) (fun h4 => ?_) (fun h4 => ?_)) | ((with_reducible refine mk_n ?_); refine n_if_ne (tgt := 9) dX11_undo_4 (by decide) (by omega) (fun h4 => ?_) (fun h4 => ?_)) | refine e_if_ne (tgt := 9) dX11_undo_4 (by decide) (fun h4 => ?_) (fun h4 => ?_)
  · try first | contradiction | omega | (simp only [decide_eq_true_eq, decide_eq_false_iff_not] at h4; omega)
    all_goals
      refine e_aload_n dX11_undo_9 rfl rfl ?_
      refine e_dup dX11_undo_10 rfl ?_
      refine e_getI dX11_undo_11 fl_X11_51 rfl ?_
      first | rw [hs] | rw [hu]
      refine e_iconst (v := nI 1) dX11_undo_14 rfl ?_
      first | ((with_reducible refine mk_nn ?_); refine n_isub dX11_undo_15 (by omega) ?_) | refine e_isub dX11_undo_15 ?_
      refine e_putI dX11_undo_16 fl_X11_51 rfl rfl rfl rfl ?_
      refine e_iconst (v := nI 0) dX11_undo_19 rfl ?_
      refine e_istore_n dX11_undo_20 rfl (Nat.le_of_ble_eq_true rfl) rfl ?_
      exact kk
  · try first | contradiction | omega | (simp only [decide_eq_true_eq, decide_eq_false_iff_not] at h4; omega)
    all_goals
      refine e_iconst (v := -1) dX11_undo_7 rfl ?_
      refine e_ret (some _) rfl (r_int dX11_undo_8 rfl) ?_
      exact xq rfl rfl rfl rfl rfl rfl
theorem ct_undo0 {fi : FI} {fr : FR} {ai : FI} {ar : FR} {N : Nat} {w : Nat → Nat} (sm : SM fr) (hu : fi (32 * 11 + 4) (rf 11 80) = nI 0) : CP mX11_undo 0 0 0 [.ref (rf 11 80)] fi fr (mW ai w) ar N (xQ (some (.int (-1))) fi fr (mW ai w) ar N) := by
  obtain ⟨sW, sA0, sK, sU, sC, sKC, sT, sCl⟩ := id sm
  change EV mX11_undo 0 0 0 0 [some (.ref (rf 11 80)), none] [] fi fr (mW ai w) ar N _
  refine e_aload_n dX11_undo_0 rfl rfl ?_
  refine e_getI dX11_undo_1 fl_X11_51 rfl ?_
  rw [hu]
  first | ((with_reducible refine mk_b ?_); refine b_if_ne (tgt := 9) dX11_undo_4 (by decide) (fun h4 => ?_) (fun h4 => ?_)) | ((with_reducible refine mk_ll ?_); refine m_if_ne (tgt := 9) dX11_undo_4 (by decide) (by omega) (by omega) (fun h4 => ?_) (fun h4 => ?_)) | ((with_reducible refine mk_lc ?_); refine l_if_ne (tgt := 9) dX11_undo_4 (by decide) (fun h4 => ?_) (fun h4 => ?_)) | ((with_reducible refine mk_n ?_); refine n_if_ne (tgt := 9) dX11_undo_4 (by decide) (by omega) (fun h4 => ?_) (fun h4 => ?_)) | refine e_if_ne (tgt := 9) dX11_undo_4 (by decide) (fun h4 => ?_) (fun h4 => ?_)
  · try first | contradiction | omega | (simp only [decide_eq_true_eq, decide_eq_false_iff_not] at h4; omega)
    all_goals
      refine e_aload_n dX11_undo_9 rfl rfl ?_
      refine e_dup dX11_undo_10 rfl ?_
      refine e_getI dX11_undo_11 fl_X11_51 rfl ?_
      rw [hu]
      refine e_iconst (v := nI 1) dX11_undo_14 rfl ?_
      first | ((with_reducible refine mk_nn ?_); refine n_isub dX11_undo_15 (by omega) ?_) | refine e_isub dX11_undo_15 ?_
      refine e_putI dX11_undo_16 fl_X11_51 rfl rfl rfl rfl ?_
      refine e_iconst (v := nI 0) dX11_undo_19 rfl ?_
      refine e_istore_n dX11_undo_20 rfl (Nat.le_of_ble_eq_true rfl) rfl ?_
      contradiction
  · try first | contradiction | omega | (simp only [decide_eq_true_eq, decide_eq_false_iff_not] at h4; omega)
    all_goals
      refine e_iconst (v := -1) dX11_undo_7 rfl ?_
      refine e_ret (some _) rfl (r_int dX11_undo_8 rfl) ?_
      exact xq rfl rfl rfl rfl rfl rfl
theorem ct_X11_laysAside {fi : FI} {fr : FR} {ai : FI} {ar : FR} {N : Nat} {w : Nat → Nat} (sm : SM fr) : CP mX11_laysAside 0 0 0 [.ref (rf 11 80)] fi fr (mW ai w) ar N (xQ none fi fr (mW (sA ai (rf 32 82) (cpA (ai (rf 32 82)) (fun i => nI (w i)) 0 8597)) w) ar N) := by
  obtain ⟨sW, sA0, sK, sU, sC, sKC, sT, sCl⟩ := id sm
  change EV mX11_laysAside 0 0 0 0 [some (.ref (rf 11 80)), none] [] fi fr (mW ai w) ar N (xQ none fi fr (mW (sA ai (rf 32 82) (cpA (ai (rf 32 82)) (fun i => nI (w i)) 0 8597)) w) ar N)
  have key := ev_up (P := fun j => EV mX11_laysAside 0 0 0 2 [some (.ref (rf 11 80)), some (.int (nI j))] [] fi fr (mW (sA ai (rf 32 82) (cpA (ai (rf 32 82)) (fun i => nI (w i)) 0 j)) w) ar N (xQ none fi fr (mW (sA ai (rf 32 82) (cpA (ai (rf 32 82)) (fun i => nI (w i)) 0 8597)) w) ar N)) 8597 (fun j hj ih => by
    refine e_iload_n dX11_laysAside_2 rfl rfl ?_
    refine e_sipush (v := nI 8597) dX11_laysAside_3 rfl ?_
    first | ((with_reducible refine mk_nn ?_); refine n_icmp_ge (tgt := 27) dX11_laysAside_6 (by decide) (by omega) (by omega) (fun h6 => ?_) (fun h6 => ?_)) | refine e_icmp_ge (tgt := 27) dX11_laysAside_6 (by decide) (fun h6 => ?_) (fun h6 => ?_)
    · try first | contradiction | omega
      all_goals
        refine e_ret none rfl (r_void dX11_laysAside_27 rfl) ?_
        exact xq (by first | rfl | simp_all [bI_t, bI_f]) rfl rfl rfl rfl rfl
    · try first | contradiction | omega
      all_goals
        refine e_aload_n dX11_laysAside_9 rfl rfl ?_
        refine e_getR dX11_laysAside_10 fl_X11_13 rfl (by assumption) ?_
        refine e_iload_n dX11_laysAside_13 rfl rfl ?_
        refine e_aload_n dX11_laysAside_14 rfl rfl ?_
        refine e_getR dX11_laysAside_15 fl_X11_7 rfl (by assumption) ?_
        refine e_iload_n dX11_laysAside_18 rfl rfl ?_
        first | ((with_reducible refine mk_ldw ?_); refine e_ldw dX11_laysAside_19 (by omega) ?_) | refine e_iald _ dX11_laysAside_19 ⟨by decide, by decide⟩ rfl rfl (by simp only [lenK]; omega) ?_
        first | ((with_reducible refine mk_stw ?_); refine e_stw dX11_laysAside_20 (by omega) ?_) | refine e_iast _ dX11_laysAside_20 ⟨by decide, by decide⟩ rfl rfl (by simp only [lenK]; omega) ?_
        first | refine n_inc dX11_laysAside_21 rfl (Nat.le_of_ble_eq_true rfl) rfl ?_ | refine e_iinc dX11_laysAside_21 rfl rfl (Nat.le_of_ble_eq_true rfl) rfl ?_
        refine e_goto (tgt := 2) dX11_laysAside_24 (by decide) ?_
        rw [mW_up ne82, sA_up]
        have e := cpA_s (ai (rf 32 82)) (fun i => nI (w i)) 0 j
        rw [Nat.zero_add] at e
        rw [e]
        exact ih
    ) (by
    refine e_iload_n dX11_laysAside_2 rfl rfl ?_
    refine e_sipush (v := nI 8597) dX11_laysAside_3 rfl ?_
    first | ((with_reducible refine mk_nn ?_); refine n_icmp_ge (tgt := 27) dX11_laysAside_6 (by decide) (by omega) (by omega) (fun h6 => ?_) (fun h6 => ?_)) | refine e_icmp_ge (tgt := 27) dX11_laysAside_6 (by decide) (fun h6 => ?_) (fun h6 => ?_)
    · try first | contradiction | omega
      all_goals
        refine e_ret none rfl (r_void dX11_laysAside_27 rfl) ?_
        exact xq rfl rfl rfl rfl rfl rfl
    · try first | contradiction | omega
      all_goals
        refine e_aload_n dX11_laysAside_9 rfl rfl ?_
        refine e_getR dX11_laysAside_10 fl_X11_13 rfl (by assumption) ?_
        refine e_iload_n dX11_laysAside_13 rfl rfl ?_
        refine e_aload_n dX11_laysAside_14 rfl rfl ?_
        refine e_getR dX11_laysAside_15 fl_X11_7 rfl (by assumption) ?_
        refine e_iload_n dX11_laysAside_18 rfl rfl ?_
        first | ((with_reducible refine mk_ldw ?_); refine e_ldw dX11_laysAside_19 (by omega) ?_) | refine e_iald _ dX11_laysAside_19 ⟨by decide, by decide⟩ rfl rfl (by simp only [lenK]; omega) ?_
        first | ((with_reducible refine mk_stw ?_); refine e_stw dX11_laysAside_20 (by omega) ?_) | refine e_iast _ dX11_laysAside_20 ⟨by decide, by decide⟩ rfl rfl (by simp only [lenK]; omega) ?_
        first | refine n_inc dX11_laysAside_21 rfl (Nat.le_of_ble_eq_true rfl) rfl ?_ | refine e_iinc dX11_laysAside_21 rfl rfl (Nat.le_of_ble_eq_true rfl) rfl ?_
        refine e_goto (tgt := 2) dX11_laysAside_24 (by decide) ?_
        rw [mW_up ne82, sA_up]
        have e := cpA_s (ai (rf 32 82)) (fun i => nI (w i)) 0 j
        rw [Nat.zero_add] at e
        rw [e]
        exact ih
    )
  have kk := key 0 (by omega)
  rw [cpA_0, sA_self] at kk
  refine e_iconst (v := nI 0) dX11_laysAside_0 rfl ?_
  refine e_istore_n dX11_laysAside_1 rfl (Nat.le_of_ble_eq_true rfl) rfl ?_
  exact kk
theorem ct_X11_comesBack {fi : FI} {fr : FR} {ai : FI} {ar : FR} {N : Nat} {w : Nat → Nat} (sm : SM fr) {v : Nat → Nat} (hv : ∀ k, k < 8597 → ai (rf 32 82) k = nI (v k)) : CP mX11_comesBack 0 0 0 [.ref (rf 11 80)] fi fr (mW ai w) ar N (xQ none fi fr (mW ai (ovF w v 8597)) ar N) := by
  obtain ⟨sW, sA0, sK, sU, sC, sKC, sT, sCl⟩ := id sm
  change EV mX11_comesBack 0 0 0 0 [some (.ref (rf 11 80)), none] [] fi fr (mW ai w) ar N (xQ none fi fr (mW ai (ovF w v 8597)) ar N)
  have key := ev_up (P := fun j => EV mX11_comesBack 0 0 0 2 [some (.ref (rf 11 80)), some (.int (nI j))] [] fi fr (mW ai (ovF w v j)) ar N (xQ none fi fr (mW ai (ovF w v 8597)) ar N)) 8597 (fun j hj ih => by
    refine e_iload_n dX11_comesBack_2 rfl rfl ?_
    refine e_sipush (v := nI 8597) dX11_comesBack_3 rfl ?_
    first | ((with_reducible refine mk_nn ?_); refine n_icmp_ge (tgt := 27) dX11_comesBack_6 (by decide) (by omega) (by omega) (fun h6 => ?_) (fun h6 => ?_)) | refine e_icmp_ge (tgt := 27) dX11_comesBack_6 (by decide) (fun h6 => ?_) (fun h6 => ?_)
    · try first | contradiction | omega
      all_goals
        refine e_ret none rfl (r_void dX11_comesBack_27 rfl) ?_
        exact xq (by first | rfl | simp_all [bI_t, bI_f]) rfl rfl rfl rfl rfl
    · try first | contradiction | omega
      all_goals
        refine e_aload_n dX11_comesBack_9 rfl rfl ?_
        refine e_getR dX11_comesBack_10 fl_X11_7 rfl (by assumption) ?_
        refine e_iload_n dX11_comesBack_13 rfl rfl ?_
        refine e_aload_n dX11_comesBack_14 rfl rfl ?_
        refine e_getR dX11_comesBack_15 fl_X11_13 rfl (by assumption) ?_
        refine e_iload_n dX11_comesBack_18 rfl rfl ?_
        first | ((with_reducible refine mk_ldw ?_); refine e_ldw dX11_comesBack_19 (by omega) ?_) | refine e_iald _ dX11_comesBack_19 ⟨by decide, by decide⟩ rfl rfl (by simp only [lenK]; omega) ?_
        rw [mW_o ne82, hv j hj]
        first | ((with_reducible refine mk_stw ?_); refine e_stw dX11_comesBack_20 (by omega) ?_) | refine e_iast _ dX11_comesBack_20 ⟨by decide, by decide⟩ rfl rfl (by simp only [lenK]; omega) ?_
        first | refine n_inc dX11_comesBack_21 rfl (Nat.le_of_ble_eq_true rfl) rfl ?_ | refine e_iinc dX11_comesBack_21 rfl rfl (Nat.le_of_ble_eq_true rfl) rfl ?_
        refine e_goto (tgt := 2) dX11_comesBack_24 (by decide) ?_
        rw [ovF_s]
        exact ih
    ) (by
    refine e_iload_n dX11_comesBack_2 rfl rfl ?_
    refine e_sipush (v := nI 8597) dX11_comesBack_3 rfl ?_
    first | ((with_reducible refine mk_nn ?_); refine n_icmp_ge (tgt := 27) dX11_comesBack_6 (by decide) (by omega) (by omega) (fun h6 => ?_) (fun h6 => ?_)) | refine e_icmp_ge (tgt := 27) dX11_comesBack_6 (by decide) (fun h6 => ?_) (fun h6 => ?_)
    · try first | contradiction | omega
      all_goals
        refine e_ret none rfl (r_void dX11_comesBack_27 rfl) ?_
        exact xq rfl rfl rfl rfl rfl rfl
    · try first | contradiction | omega
      all_goals
        refine e_aload_n dX11_comesBack_9 rfl rfl ?_
        refine e_getR dX11_comesBack_10 fl_X11_7 rfl (by assumption) ?_
        refine e_iload_n dX11_comesBack_13 rfl rfl ?_
        refine e_aload_n dX11_comesBack_14 rfl rfl ?_
        refine e_getR dX11_comesBack_15 fl_X11_13 rfl (by assumption) ?_
        refine e_iload_n dX11_comesBack_18 rfl rfl ?_
        first | ((with_reducible refine mk_ldw ?_); refine e_ldw dX11_comesBack_19 (by omega) ?_) | refine e_iald _ dX11_comesBack_19 ⟨by decide, by decide⟩ rfl rfl (by simp only [lenK]; omega) ?_
        rw [mW_o ne82, hv j hj]
        first | ((with_reducible refine mk_stw ?_); refine e_stw dX11_comesBack_20 (by omega) ?_) | refine e_iast _ dX11_comesBack_20 ⟨by decide, by decide⟩ rfl rfl (by simp only [lenK]; omega) ?_
        first | refine n_inc dX11_comesBack_21 rfl (Nat.le_of_ble_eq_true rfl) rfl ?_ | refine e_iinc dX11_comesBack_21 rfl rfl (Nat.le_of_ble_eq_true rfl) rfl ?_
        refine e_goto (tgt := 2) dX11_comesBack_24 (by decide) ?_
        rw [ovF_s]
        exact ih
    )
  have kk := key 0 (by omega)
  rw [ovF_0] at kk
  refine e_iconst (v := nI 0) dX11_comesBack_0 rfl ?_
  refine e_istore_n dX11_comesBack_1 rfl (Nat.le_of_ble_eq_true rfl) rfl ?_
  exact kk
theorem ct_isGoing2 {fi : FI} {fr : FR} {ai : FI} {ar : FR} {N : Nat} {w : Nat → Nat} (sm : SM fr) {m : Nat} (hm : m < 12) (hst : w (7694 + 72 * m + 0) < 2147483648) : CP mX11_isGoing 1 0 0 [.ref (rf 11 80), .int (nI m)] fi fr (mW ai w) ar N (xQ (some (.int (bI (goB w m)))) fi fr (mW ai w) ar N) := by
  obtain ⟨sW, -⟩ := sm
  change EV mX11_isGoing 1 0 0 0 [some (.ref (rf 11 80)), some (.int (nI m))] [] fi fr (mW ai w) ar N _
  refine e_aload_n dX11_isGoing_0 rfl rfl ?_
  refine e_getR dX11_isGoing_1 fl_X11_7 rfl (by assumption) ?_
  refine e_iload_n dX11_isGoing_4 rfl rfl ?_
  refine x_S1 (M' := mX11_moveAt) dX11_isGoing_5 ml_X11_62 ok_X11_moveAt rfl sc_X11_moveAt (ct_X11_moveAt) (Nat.le_of_ble_eq_true rfl) (by decide) (Nat.le_of_ble_eq_true rfl) ?_
  refine e_iconst (v := nI 0) dX11_isGoing_8 rfl ?_
  first | ((with_reducible refine mk_nn ?_); refine n_iadd dX11_isGoing_9 ?_) | refine e_iadd dX11_isGoing_9 ?_
  first | ((with_reducible refine mk_ldw ?_); refine e_ldw dX11_isGoing_10 (by omega) ?_) | refine e_iald _ dX11_isGoing_10 ⟨by decide, by decide⟩ rfl rfl (by simp only [lenK]; omega) ?_
  first | ((with_reducible refine mk_n ?_); refine n_i2l dX11_isGoing_11 (by omega) ?_) | refine e_i2l dX11_isGoing_11 ?_
  refine e_lconst (v := lN 1) dX11_isGoing_12 rfl ?_
  refine e_ldc2 dX11_isGoing_13 co_X11_65 ?_
  refine x_S3 (M' := mX11_isIn) dX11_isGoing_16 ml_X11_45 ok_X11_isIn rfl sc_X11_isIn (by first | ((with_reducible refine ct_isInN ?_ ?_ ?_) <;> omega) | ((with_reducible refine ct_isInX ?_ ?_) <;> omega) | exact ct_X11_isIn _ _ _) (Nat.le_of_ble_eq_true rfl) (by decide) (Nat.le_of_ble_eq_true rfl) ?_
  first | ((with_reducible refine mk_b ?_); refine e_ret (some _) rfl (r_bool dX11_isGoing_19 rfl) ?_) | ((with_reducible refine mk_n1 ?_); refine e_ret (some _) rfl (r_b1 dX11_isGoing_19 rfl) ?_) | ((with_reducible refine mk_n0 ?_); refine e_ret (some _) rfl (r_b0 dX11_isGoing_19 rfl) ?_)
  exact xq (by first | rfl | simp_all [bI_t, bI_f]) rfl rfl rfl rfl rfl
def dn1 (w : Nat → Nat) (s m : Nat) : Nat → Nat :=
  if goB w m = true ∧ (w (7694 + 72 * m + 3) = s ∨ w (7694 + 72 * m + 4) = s) then
    (if w (7694 + 72 * m + 3) = s then
      (if w (7694 + 72 * m + 7) = 1 then upN w (7694 + 72 * m + 6) 0 else upN (upN (upN w (7694 + 72 * m + 6) 0) (7694 + 72 * m + 7) 1) (7694 + 72 * m + 8) 1)
     else (if w (7694 + 72 * m + 7) = 1 then w else upN (upN w (7694 + 72 * m + 7) 1) (7694 + 72 * m + 8) 2))
  else w
def dnB (w : Nat → Nat) (s m : Nat) : Bool := goB w m && (decide (w (7694 + 72 * m + 3) = s) || decide (w (7694 + 72 * m + 4) = s)) && decide (w (7694 + 72 * m + 7) ≠ 1)
def dnF (w : Nat → Nat) (s : Nat) : Nat → Nat → Nat
  | 0 => upN w (4 + s) 0
  | j + 1 => dn1 (dnF w s j) s j
theorem dn1_fr {w : Nat → Nat} {s m q : Nat} (h : q < 7694 + 72 * m + 6 ∨ 7694 + 72 * m + 8 < q) : dn1 w s m q = w q := by
  unfold dn1
  repeat' split
  all_goals (simp (disch := omega) only [upN_n])
theorem dnF_fr {w : Nat → Nat} {s q : Nat} (hs : q ≠ 4 + s) : ∀ j, (∀ m, m < j → q < 7694 + 72 * m + 6 ∨ 7694 + 72 * m + 8 < q) → dnF w s j q = w q
  | 0, _ => upN_n hs
  | j + 1, h => by
    show dn1 (dnF w s j) s j q = w q
    rw [dn1_fr (h j (by omega)), dnF_fr hs j (fun m hm => h m (by omega))]
def dowB (w : Nat → Nat) (x : Int32) : Bool := inR x 6 && decide (w (4 + x.toNatClampNeg) ≠ 0)
def dowR (w : Nat → Nat) (x : Int32) : Int32 := if dowB w x then nI (cnt (dnB w x.toNatClampNeg) (w 3)) else -1
def dowW (w : Nat → Nat) (x : Int32) : Nat → Nat := if dowB w x then dnF w x.toNatClampNeg (w 3) else w
theorem ct_X11_down {fi : FI} {fr : FR} {ai : FI} {ar : FR} {N : Nat} {w : Nat → Nat} (sm : SM fr) (iv : Inv w) (y0 : Int32) {sc : Bool} (hsc : fi (32 * 11 + 8) (rf 11 80) = bI sc) : CP mX11_down 2 0 0 [.ref (rf 11 80), .int y0] fi fr (mW ai w) ar N (xQ (some (.int (dowR w y0))) (if dowB w y0 then forF fi sc else fi) fr (mW ai (dowW w y0)) ar N) := by
  obtain ⟨sW, sA, sK, sU, sC, sKC, sT, sCl⟩ := id sm
  have h1 := iv_n iv
  have h3 := iv_mm iv
  change EV mX11_down 2 0 0 0 [some (.ref (rf 11 80)), some (.int y0), none, none, none, none] [] fi fr (mW ai w) ar N (xQ (some (.int (dowR w y0))) (if dowB w y0 then forF fi sc else fi) fr (mW ai (dowW w y0)) ar N)
  cases hx : inR y0 6 with
  | false =>
    have eb : dowB w y0 = false := by unfold dowB; rw [hx]; rfl
    have e1 : dowR w y0 = -1 := by unfold dowR; rw [eb]; rfl
    have e2 : dowW w y0 = w := by unfold dowW; rw [eb]; rfl
    rw [e1, e2, eb]
    refine e_iload_n dX11_down_0 rfl rfl ?_
    refine x_S1 (M' := mX11_isServer) dX11_down_1 ml_X11_161 ok_X11_isServer rfl sc_X11_isServer (ct_X11_isServer _) (Nat.le_of_ble_eq_true rfl) (by decide) (Nat.le_of_ble_eq_true rfl) ?_
    rw [hx]
    first | ((with_reducible refine mk_b ?_); refine b_if_eq (tgt := 18) dX11_down_4 (by decide) (fun h4 => ?_) (fun h4 => ?_)) | ((with_reducible refine mk_ll ?_); refine m_if_eq (tgt := 18) dX11_down_4 (by decide) (by omega) (by omega) (fun h4 => ?_) (fun h4 => ?_)) | ((with_reducible refine mk_lc ?_); refine l_if_eq (tgt := 18) dX11_down_4 (by decide) (fun h4 => ?_) (fun h4 => ?_)) | ((with_reducible refine mk_n ?_); refine n_if_eq (tgt := 18) dX11_down_4 (by decide) (by omega) (fun h4 => ?_) (fun h4 => ?_)) | refine e_if_eq (tgt := 18) dX11_down_4 (by decide) (fun h4 => ?_) (fun h4 => ?_)
    · try first | contradiction | omega | (simp only [decide_eq_true_eq, decide_eq_false_iff_not] at h4; omega)
      all_goals
        refine e_iconst (v := -1) dX11_down_18 rfl ?_
        refine e_ret (some _) rfl (r_int dX11_down_19 rfl) ?_
        exact xq rfl rfl rfl rfl rfl rfl
    · try first | contradiction | omega | (simp only [decide_eq_true_eq, decide_eq_false_iff_not] at h4; omega)
      all_goals
        contradiction
  | true =>
    obtain ⟨a, ha, ha2, rfl⟩ := inR_ex hx
    have hcl : (nI a).toNatClampNeg = a := nI_clamp ha2
    have hua := iv_up iv ha
    by_cases hu0 : w (4 + a) = 0
    · have eb : dowB w (nI a) = false := by unfold dowB; rw [hcl, decide_eq_false (by omega), Bool.and_false]
      have e1 : dowR w (nI a) = -1 := by unfold dowR; rw [eb]; rfl
      have e2 : dowW w (nI a) = w := by unfold dowW; rw [eb]; rfl
      rw [e1, e2, eb]
      refine e_iload_n dX11_down_0 rfl rfl ?_
      refine x_S1 (M' := mX11_isServer) dX11_down_1 ml_X11_161 ok_X11_isServer rfl sc_X11_isServer (ct_X11_isServer _) (Nat.le_of_ble_eq_true rfl) (by decide) (Nat.le_of_ble_eq_true rfl) ?_
      rw [hx]
      first | ((with_reducible refine mk_b ?_); refine b_if_eq (tgt := 18) dX11_down_4 (by decide) (fun h4 => ?_) (fun h4 => ?_)) | ((with_reducible refine mk_ll ?_); refine m_if_eq (tgt := 18) dX11_down_4 (by decide) (by omega) (by omega) (fun h4 => ?_) (fun h4 => ?_)) | ((with_reducible refine mk_lc ?_); refine l_if_eq (tgt := 18) dX11_down_4 (by decide) (fun h4 => ?_) (fun h4 => ?_)) | ((with_reducible refine mk_n ?_); refine n_if_eq (tgt := 18) dX11_down_4 (by decide) (by omega) (fun h4 => ?_) (fun h4 => ?_)) | refine e_if_eq (tgt := 18) dX11_down_4 (by decide) (fun h4 => ?_) (fun h4 => ?_)
      · try first | contradiction | omega | (simp only [decide_eq_true_eq, decide_eq_false_iff_not] at h4; omega)
        all_goals
          refine e_iconst (v := -1) dX11_down_18 rfl ?_
          refine e_ret (some _) rfl (r_int dX11_down_19 rfl) ?_
          exact xq rfl rfl rfl rfl rfl rfl
      · try first | contradiction | omega | (simp only [decide_eq_true_eq, decide_eq_false_iff_not] at h4; omega)
        all_goals
          refine e_aload_n dX11_down_7 rfl rfl ?_
          refine e_getR dX11_down_8 fl_X11_7 rfl (by assumption) ?_
          refine e_iconst (v := nI 4) dX11_down_11 rfl ?_
          refine e_iload_n dX11_down_12 rfl rfl ?_
          first | ((with_reducible refine mk_nn ?_); refine n_iadd dX11_down_13 ?_) | refine e_iadd dX11_down_13 ?_
          first | ((with_reducible refine mk_ldw ?_); refine e_ldw dX11_down_14 (by omega) ?_) | refine e_iald _ dX11_down_14 ⟨by decide, by decide⟩ rfl rfl (by simp only [lenK]; omega) ?_
          first | ((with_reducible refine mk_b ?_); refine b_if_ne (tgt := 20) dX11_down_15 (by decide) (fun h15 => ?_) (fun h15 => ?_)) | ((with_reducible refine mk_ll ?_); refine m_if_ne (tgt := 20) dX11_down_15 (by decide) (by omega) (by omega) (fun h15 => ?_) (fun h15 => ?_)) | ((with_reducible refine mk_lc ?_); refine l_if_ne (tgt := 20) dX11_down_15 (by decide) (fun h15 => ?_) (fun h15 => ?_)) | ((with_reducible refine mk_n ?_); refine n_if_ne (tgt := 20) dX11_down_15 (by decide) (by omega) (fun h15 => ?_) (fun h15 => ?_)) | refine e_if_ne (tgt := 20) dX11_down_15 (by decide) (fun h15 => ?_) (fun h15 => ?_)
          · try first | contradiction | omega | (simp only [decide_eq_true_eq, decide_eq_false_iff_not] at h15; omega)
            all_goals
              contradiction
          · try first | contradiction | omega | (simp only [decide_eq_true_eq, decide_eq_false_iff_not] at h15; omega)
            all_goals
              refine e_iconst (v := -1) dX11_down_18 rfl ?_
              refine e_ret (some _) rfl (r_int dX11_down_19 rfl) ?_
              exact xq rfl rfl rfl rfl rfl rfl
    · have eb : dowB w (nI a) = true := by unfold dowB; rw [hcl, hx, decide_eq_true (by omega)]; rfl
      have e1 : dowR w (nI a) = nI (cnt (dnB w a) (w 3)) := by unfold dowR; rw [eb, hcl]; rfl
      have e2 : dowW w (nI a) = dnF w a (w 3) := by unfold dowW; rw [eb, hcl]; rfl
      rw [e1, e2, eb, if_pos rfl]
      have key := ev_up (P := fun j => EV mX11_down 2 0 0 37 [some (.ref (rf 11 80)), some (.int (nI a)), some (.int (nI (cnt (dnB w a) j))), some (.int (nI j)), none, none] [] (forF fi sc) fr (mW ai (dnF w a j)) ar N (xQ (some (.int (nI (cnt (dnB w a) (w 3))))) (forF fi sc) fr (mW ai (dnF w a (w 3))) ar N)) (w 3) (fun j hj ih => by
        have hq := iv_mv iv hj
        have hf : ∀ q, q < 8597 → (q < 7694 → q ≠ 4 + a) → (7694 ≤ q → 7694 + 72 * j ≤ q) → dnF w a j q = w q := fun q h1 h2 h3 => dnF_fr (by omega) j (fun m hm => by omega)
        have r3 := hf 3 (by omega) (by omega) (by omega)
        have s0 := hf (7694 + 72 * j + 0) (by omega) (by omega) (by omega)
        have s3 := hf (7694 + 72 * j + 3) (by omega) (by omega) (by omega)
        have s4 := hf (7694 + 72 * j + 4) (by omega) (by omega) (by omega)
        have s7 := hf (7694 + 72 * j + 7) (by omega) (by omega) (by omega)
        have eg : goB (dnF w a j) j = goB w j := by unfold goB; rw [s0]
        have es : dnF w a (j + 1) = dn1 (dnF w a j) a j := rfl
        have ec : cnt (dnB w a) (j + 1) = cnt (dnB w a) j + (if dnB w a j then 1 else 0) := rfl
        rw [es, ec] at ih
        unfold dn1 at ih
        rw [eg, s3, s4, s7] at ih
        refine e_iload_n dX11_down_37 rfl rfl ?_
        refine e_aload_n dX11_down_38 rfl rfl ?_
        refine e_getR dX11_down_39 fl_X11_7 rfl (by assumption) ?_
        refine e_iconst (v := nI 3) dX11_down_42 rfl ?_
        first | ((with_reducible refine mk_ldw ?_); refine e_ldw dX11_down_43 (by omega) ?_) | refine e_iald _ dX11_down_43 ⟨by decide, by decide⟩ rfl rfl (by simp only [lenK]; omega) ?_
        rw [r3]
        first | ((with_reducible refine mk_nn ?_); refine n_icmp_ge (tgt := 175) dX11_down_44 (by decide) (by omega) (by omega) (fun h44 => ?_) (fun h44 => ?_)) | refine e_icmp_ge (tgt := 175) dX11_down_44 (by decide) (fun h44 => ?_) (fun h44 => ?_)
        · try first | contradiction | omega
          all_goals
            refine e_iload_n dX11_down_175 rfl rfl ?_
            refine e_ret (some _) rfl (r_int dX11_down_176 rfl) ?_
            exact xq rfl rfl rfl rfl rfl rfl
        · try first | contradiction | omega
          all_goals
            refine e_iload_n dX11_down_47 rfl rfl ?_
            refine x_S1 (M' := mX11_moveAt) dX11_down_48 ml_X11_62 ok_X11_moveAt rfl sc_X11_moveAt (ct_X11_moveAt) (Nat.le_of_ble_eq_true rfl) (by decide) (Nat.le_of_ble_eq_true rfl) ?_
            refine e_istore dX11_down_51 (Nat.le_of_ble_eq_true rfl) rfl ?_
            refine e_aload_n dX11_down_53 rfl rfl ?_
            refine e_getR dX11_down_54 fl_X11_7 rfl (by assumption) ?_
            refine e_iload dX11_down_57 rfl ?_
            refine e_iconst (v := nI 3) dX11_down_59 rfl ?_
            first | ((with_reducible refine mk_nn ?_); refine n_iadd dX11_down_60 ?_) | refine e_iadd dX11_down_60 ?_
            first | ((with_reducible refine mk_ldw ?_); refine e_ldw dX11_down_61 (by omega) ?_) | refine e_iald _ dX11_down_61 ⟨by decide, by decide⟩ rfl rfl (by simp only [lenK]; omega) ?_
            rw [s3]
            refine e_iload_n dX11_down_62 rfl rfl ?_
            first | ((with_reducible refine mk_mo ?_); refine p_icmp_ne (tgt := 70) dX11_down_63 (by decide) (fun h63 => ?_) (fun h63 => ?_)) | ((with_reducible refine mk_ms ?_); refine s_icmp_ne (tgt := 70) dX11_down_63 (by decide) (by omega) (fun h63 => ?_) (fun h63 => ?_)) | ((with_reducible refine mk_mn ?_); refine q_icmp_ne (tgt := 70) dX11_down_63 (by decide) (by omega) (fun h63 => ?_) (fun h63 => ?_)) | ((with_reducible refine mk_nn ?_); refine n_icmp_ne (tgt := 70) dX11_down_63 (by decide) (by omega) (by omega) (fun h63 => ?_) (fun h63 => ?_)) | refine e_icmp_ne (tgt := 70) dX11_down_63 (by decide) (fun h63 => ?_) (fun h63 => ?_)
            · try first | contradiction | omega
              all_goals
                refine e_iconst (v := nI 0) dX11_down_70 rfl ?_
                refine e_istore dX11_down_71 (Nat.le_of_ble_eq_true rfl) rfl ?_
                refine e_aload_n dX11_down_73 rfl rfl ?_
                refine e_iload_n dX11_down_74 rfl rfl ?_
                refine x_V1 (M' := mX11_isGoing) dX11_down_75 ml_X11_67 ok_X11_isGoing (by decide) rfl im_X11_isGoing se_X11_isGoing (ct_isGoing2 ‹_› (by omega) (by omega)) (Nat.le_of_ble_eq_true rfl) (by decide) (Nat.le_of_ble_eq_true rfl) ?_
                rw [eg]
                first | ((with_reducible refine mk_b ?_); refine b_if_eq (tgt := 169) dX11_down_78 (by decide) (fun h78 => ?_) (fun h78 => ?_)) | ((with_reducible refine mk_ll ?_); refine m_if_eq (tgt := 169) dX11_down_78 (by decide) (by omega) (by omega) (fun h78 => ?_) (fun h78 => ?_)) | ((with_reducible refine mk_lc ?_); refine l_if_eq (tgt := 169) dX11_down_78 (by decide) (fun h78 => ?_) (fun h78 => ?_)) | ((with_reducible refine mk_n ?_); refine n_if_eq (tgt := 169) dX11_down_78 (by decide) (by omega) (fun h78 => ?_) (fun h78 => ?_)) | refine e_if_eq (tgt := 169) dX11_down_78 (by decide) (fun h78 => ?_) (fun h78 => ?_)
                · try first | contradiction | omega | (simp only [decide_eq_true_eq, decide_eq_false_iff_not] at h78; omega)
                  all_goals
                    first | refine n_inc dX11_down_169 rfl (Nat.le_of_ble_eq_true rfl) rfl ?_ | refine e_iinc dX11_down_169 rfl rfl (Nat.le_of_ble_eq_true rfl) rfl ?_
                    refine e_goto (tgt := 37) dX11_down_172 (by decide) ?_
                    repeat' split at ih
                    all_goals first | (exfalso; grind [dnB]) | (refine EV_ls ?_ ih; repeat (first | exact lsub_0 | refine lsub_n ?_ | refine lsub_s ?_))
                · try first | contradiction | omega | (simp only [decide_eq_true_eq, decide_eq_false_iff_not] at h78; omega)
                  all_goals
                    refine e_iload dX11_down_81 rfl ?_
                    first | ((with_reducible refine mk_b ?_); refine b_if_ne (tgt := 102) dX11_down_83 (by decide) (fun h83 => ?_) (fun h83 => ?_)) | ((with_reducible refine mk_ll ?_); refine m_if_ne (tgt := 102) dX11_down_83 (by decide) (by omega) (by omega) (fun h83 => ?_) (fun h83 => ?_)) | ((with_reducible refine mk_lc ?_); refine l_if_ne (tgt := 102) dX11_down_83 (by decide) (fun h83 => ?_) (fun h83 => ?_)) | ((with_reducible refine mk_n ?_); refine n_if_ne (tgt := 102) dX11_down_83 (by decide) (by omega) (fun h83 => ?_) (fun h83 => ?_)) | refine e_if_ne (tgt := 102) dX11_down_83 (by decide) (fun h83 => ?_) (fun h83 => ?_)
                    · try first | contradiction | omega | (simp only [decide_eq_true_eq, decide_eq_false_iff_not] at h83; omega)
                      all_goals
                        refine e_iload dX11_down_102 rfl ?_
                        first | ((with_reducible refine mk_b ?_); refine b_if_eq (tgt := 118) dX11_down_104 (by decide) (fun h104 => ?_) (fun h104 => ?_)) | ((with_reducible refine mk_ll ?_); refine m_if_eq (tgt := 118) dX11_down_104 (by decide) (by omega) (by omega) (fun h104 => ?_) (fun h104 => ?_)) | ((with_reducible refine mk_lc ?_); refine l_if_eq (tgt := 118) dX11_down_104 (by decide) (fun h104 => ?_) (fun h104 => ?_)) | ((with_reducible refine mk_n ?_); refine n_if_eq (tgt := 118) dX11_down_104 (by decide) (by omega) (fun h104 => ?_) (fun h104 => ?_)) | refine e_if_eq (tgt := 118) dX11_down_104 (by decide) (fun h104 => ?_) (fun h104 => ?_)
                        · try first | contradiction | omega | (simp only [decide_eq_true_eq, decide_eq_false_iff_not] at h104; omega)
                          all_goals
                            refine e_aload_n dX11_down_118 rfl rfl ?_
                            refine e_getR dX11_down_119 fl_X11_7 rfl (by assumption) ?_
                            refine e_iload dX11_down_122 rfl ?_
                            refine e_bipush (v := nI 7) dX11_down_124 rfl ?_
                            first | ((with_reducible refine mk_nn ?_); refine n_iadd dX11_down_126 ?_) | refine e_iadd dX11_down_126 ?_
                            first | ((with_reducible refine mk_ldw ?_); refine e_ldw dX11_down_127 (by omega) ?_) | refine e_iald _ dX11_down_127 ⟨by decide, by decide⟩ rfl rfl (by simp only [lenK]; omega) ?_
                            simp (disch := omega) only [upN_n, s7]
                            refine e_iconst (v := nI 1) dX11_down_128 rfl ?_
                            first | ((with_reducible refine mk_mo ?_); refine p_icmp_ne (tgt := 135) dX11_down_129 (by decide) (fun h129 => ?_) (fun h129 => ?_)) | ((with_reducible refine mk_ms ?_); refine s_icmp_ne (tgt := 135) dX11_down_129 (by decide) (by omega) (fun h129 => ?_) (fun h129 => ?_)) | ((with_reducible refine mk_mn ?_); refine q_icmp_ne (tgt := 135) dX11_down_129 (by decide) (by omega) (fun h129 => ?_) (fun h129 => ?_)) | ((with_reducible refine mk_nn ?_); refine n_icmp_ne (tgt := 135) dX11_down_129 (by decide) (by omega) (by omega) (fun h129 => ?_) (fun h129 => ?_)) | refine e_icmp_ne (tgt := 135) dX11_down_129 (by decide) (fun h129 => ?_) (fun h129 => ?_)
                            · try first | contradiction | omega
                              all_goals
                                refine e_aload_n dX11_down_135 rfl rfl ?_
                                refine e_getR dX11_down_136 fl_X11_7 rfl (by assumption) ?_
                                refine e_iload dX11_down_139 rfl ?_
                                refine e_bipush (v := nI 7) dX11_down_141 rfl ?_
                                first | ((with_reducible refine mk_nn ?_); refine n_iadd dX11_down_143 ?_) | refine e_iadd dX11_down_143 ?_
                                refine e_iconst (v := nI 1) dX11_down_144 rfl ?_
                                first | ((with_reducible refine mk_stw ?_); refine e_stw dX11_down_145 (by omega) ?_) | refine e_iast _ dX11_down_145 ⟨by decide, by decide⟩ rfl rfl (by simp only [lenK]; omega) ?_
                                refine e_aload_n dX11_down_146 rfl rfl ?_
                                refine e_getR dX11_down_147 fl_X11_7 rfl (by assumption) ?_
                                refine e_iload dX11_down_150 rfl ?_
                                refine e_bipush (v := nI 8) dX11_down_152 rfl ?_
                                first | ((with_reducible refine mk_nn ?_); refine n_iadd dX11_down_154 ?_) | refine e_iadd dX11_down_154 ?_
                                refine e_iload dX11_down_155 rfl ?_
                                first | ((with_reducible refine mk_b ?_); refine b_if_eq (tgt := 164) dX11_down_157 (by decide) (fun h157 => ?_) (fun h157 => ?_)) | ((with_reducible refine mk_ll ?_); refine m_if_eq (tgt := 164) dX11_down_157 (by decide) (by omega) (by omega) (fun h157 => ?_) (fun h157 => ?_)) | ((with_reducible refine mk_lc ?_); refine l_if_eq (tgt := 164) dX11_down_157 (by decide) (fun h157 => ?_) (fun h157 => ?_)) | ((with_reducible refine mk_n ?_); refine n_if_eq (tgt := 164) dX11_down_157 (by decide) (by omega) (fun h157 => ?_) (fun h157 => ?_)) | refine e_if_eq (tgt := 164) dX11_down_157 (by decide) (fun h157 => ?_) (fun h157 => ?_)
                                · try first | contradiction | omega | (simp only [decide_eq_true_eq, decide_eq_false_iff_not] at h157; omega)
                                  all_goals
                                    refine e_iconst (v := nI 2) dX11_down_164 rfl ?_
                                    first | ((with_reducible refine mk_stw ?_); refine e_stw dX11_down_165 (by omega) ?_) | refine e_iast _ dX11_down_165 ⟨by decide, by decide⟩ rfl rfl (by simp only [lenK]; omega) ?_
                                    first | refine n_inc dX11_down_166 rfl (Nat.le_of_ble_eq_true rfl) rfl ?_ | refine e_iinc dX11_down_166 rfl rfl (Nat.le_of_ble_eq_true rfl) rfl ?_
                                    first | refine n_inc dX11_down_169 rfl (Nat.le_of_ble_eq_true rfl) rfl ?_ | refine e_iinc dX11_down_169 rfl rfl (Nat.le_of_ble_eq_true rfl) rfl ?_
                                    refine e_goto (tgt := 37) dX11_down_172 (by decide) ?_
                                    repeat' split at ih
                                    all_goals first | (exfalso; grind [dnB]) | (refine EV_ls ?_ ih; repeat (first | exact lsub_0 | refine lsub_n ?_ | refine lsub_s ?_))
                                · try first | contradiction | omega | (simp only [decide_eq_true_eq, decide_eq_false_iff_not] at h157; omega)
                                  all_goals
                                    refine e_iconst (v := nI 1) dX11_down_160 rfl ?_
                                    refine e_goto (tgt := 165) dX11_down_161 (by decide) ?_
                                    first | ((with_reducible refine mk_stw ?_); refine e_stw dX11_down_165 (by omega) ?_) | refine e_iast _ dX11_down_165 ⟨by decide, by decide⟩ rfl rfl (by simp only [lenK]; omega) ?_
                                    first | refine n_inc dX11_down_166 rfl (Nat.le_of_ble_eq_true rfl) rfl ?_ | refine e_iinc dX11_down_166 rfl rfl (Nat.le_of_ble_eq_true rfl) rfl ?_
                                    first | refine n_inc dX11_down_169 rfl (Nat.le_of_ble_eq_true rfl) rfl ?_ | refine e_iinc dX11_down_169 rfl rfl (Nat.le_of_ble_eq_true rfl) rfl ?_
                                    refine e_goto (tgt := 37) dX11_down_172 (by decide) ?_
                                    repeat' split at ih
                                    all_goals first | (exfalso; grind [dnB]) | (refine EV_ls ?_ ih; repeat (first | exact lsub_0 | refine lsub_n ?_ | refine lsub_s ?_))
                            · try first | contradiction | omega
                              all_goals
                                refine e_goto (tgt := 169) dX11_down_132 (by decide) ?_
                                first | refine n_inc dX11_down_169 rfl (Nat.le_of_ble_eq_true rfl) rfl ?_ | refine e_iinc dX11_down_169 rfl rfl (Nat.le_of_ble_eq_true rfl) rfl ?_
                                refine e_goto (tgt := 37) dX11_down_172 (by decide) ?_
                                repeat' split at ih
                                all_goals first | (exfalso; grind [dnB]) | (refine EV_ls ?_ ih; repeat (first | exact lsub_0 | refine lsub_n ?_ | refine lsub_s ?_))
                        · try first | contradiction | omega | (simp only [decide_eq_true_eq, decide_eq_false_iff_not] at h104; omega)
                          all_goals
                            refine e_aload_n dX11_down_107 rfl rfl ?_
                            refine e_getR dX11_down_108 fl_X11_7 rfl (by assumption) ?_
                            refine e_iload dX11_down_111 rfl ?_
                            refine e_bipush (v := nI 6) dX11_down_113 rfl ?_
                            first | ((with_reducible refine mk_nn ?_); refine n_iadd dX11_down_115 ?_) | refine e_iadd dX11_down_115 ?_
                            refine e_iconst (v := nI 0) dX11_down_116 rfl ?_
                            first | ((with_reducible refine mk_stw ?_); refine e_stw dX11_down_117 (by omega) ?_) | refine e_iast _ dX11_down_117 ⟨by decide, by decide⟩ rfl rfl (by simp only [lenK]; omega) ?_
                            refine e_aload_n dX11_down_118 rfl rfl ?_
                            refine e_getR dX11_down_119 fl_X11_7 rfl (by assumption) ?_
                            refine e_iload dX11_down_122 rfl ?_
                            refine e_bipush (v := nI 7) dX11_down_124 rfl ?_
                            first | ((with_reducible refine mk_nn ?_); refine n_iadd dX11_down_126 ?_) | refine e_iadd dX11_down_126 ?_
                            first | ((with_reducible refine mk_ldw ?_); refine e_ldw dX11_down_127 (by omega) ?_) | refine e_iald _ dX11_down_127 ⟨by decide, by decide⟩ rfl rfl (by simp only [lenK]; omega) ?_
                            simp (disch := omega) only [upN_n, s7]
                            refine e_iconst (v := nI 1) dX11_down_128 rfl ?_
                            first | ((with_reducible refine mk_mo ?_); refine p_icmp_ne (tgt := 135) dX11_down_129 (by decide) (fun h129 => ?_) (fun h129 => ?_)) | ((with_reducible refine mk_ms ?_); refine s_icmp_ne (tgt := 135) dX11_down_129 (by decide) (by omega) (fun h129 => ?_) (fun h129 => ?_)) | ((with_reducible refine mk_mn ?_); refine q_icmp_ne (tgt := 135) dX11_down_129 (by decide) (by omega) (fun h129 => ?_) (fun h129 => ?_)) | ((with_reducible refine mk_nn ?_); refine n_icmp_ne (tgt := 135) dX11_down_129 (by decide) (by omega) (by omega) (fun h129 => ?_) (fun h129 => ?_)) | refine e_icmp_ne (tgt := 135) dX11_down_129 (by decide) (fun h129 => ?_) (fun h129 => ?_)
                            · try first | contradiction | omega
                              all_goals
                                refine e_aload_n dX11_down_135 rfl rfl ?_
                                refine e_getR dX11_down_136 fl_X11_7 rfl (by assumption) ?_
                                refine e_iload dX11_down_139 rfl ?_
                                refine e_bipush (v := nI 7) dX11_down_141 rfl ?_
                                first | ((with_reducible refine mk_nn ?_); refine n_iadd dX11_down_143 ?_) | refine e_iadd dX11_down_143 ?_
                                refine e_iconst (v := nI 1) dX11_down_144 rfl ?_
                                first | ((with_reducible refine mk_stw ?_); refine e_stw dX11_down_145 (by omega) ?_) | refine e_iast _ dX11_down_145 ⟨by decide, by decide⟩ rfl rfl (by simp only [lenK]; omega) ?_
                                refine e_aload_n dX11_down_146 rfl rfl ?_
                                refine e_getR dX11_down_147 fl_X11_7 rfl (by assumption) ?_
                                refine e_iload dX11_down_150 rfl ?_
                                refine e_bipush (v := nI 8) dX11_down_152 rfl ?_
                                first | ((with_reducible refine mk_nn ?_); refine n_iadd dX11_down_154 ?_) | refine e_iadd dX11_down_154 ?_
                                refine e_iload dX11_down_155 rfl ?_
                                first | ((with_reducible refine mk_b ?_); refine b_if_eq (tgt := 164) dX11_down_157 (by decide) (fun h157 => ?_) (fun h157 => ?_)) | ((with_reducible refine mk_ll ?_); refine m_if_eq (tgt := 164) dX11_down_157 (by decide) (by omega) (by omega) (fun h157 => ?_) (fun h157 => ?_)) | ((with_reducible refine mk_lc ?_); refine l_if_eq (tgt := 164) dX11_down_157 (by decide) (fun h157 => ?_) (fun h157 => ?_)) | ((with_reducible refine mk_n ?_); refine n_if_eq (tgt := 164) dX11_down_157 (by decide) (by omega) (fun h157 => ?_) (fun h157 => ?_)) | refine e_if_eq (tgt := 164) dX11_down_157 (by decide) (fun h157 => ?_) (fun h157 => ?_)
                                · try first | contradiction | omega | (simp only [decide_eq_true_eq, decide_eq_false_iff_not] at h157; omega)
                                  all_goals
                                    refine e_iconst (v := nI 2) dX11_down_164 rfl ?_
                                    first | ((with_reducible refine mk_stw ?_); refine e_stw dX11_down_165 (by omega) ?_) | refine e_iast _ dX11_down_165 ⟨by decide, by decide⟩ rfl rfl (by simp only [lenK]; omega) ?_
                                    first | refine n_inc dX11_down_166 rfl (Nat.le_of_ble_eq_true rfl) rfl ?_ | refine e_iinc dX11_down_166 rfl rfl (Nat.le_of_ble_eq_true rfl) rfl ?_
                                    first | refine n_inc dX11_down_169 rfl (Nat.le_of_ble_eq_true rfl) rfl ?_ | refine e_iinc dX11_down_169 rfl rfl (Nat.le_of_ble_eq_true rfl) rfl ?_
                                    refine e_goto (tgt := 37) dX11_down_172 (by decide) ?_
                                    repeat' split at ih
                                    all_goals first | (exfalso; grind [dnB]) | (refine EV_ls ?_ ih; repeat (first | exact lsub_0 | refine lsub_n ?_ | refine lsub_s ?_))
                                · try first | contradiction | omega | (simp only [decide_eq_true_eq, decide_eq_false_iff_not] at h157; omega)
                                  all_goals
                                    refine e_iconst (v := nI 1) dX11_down_160 rfl ?_
                                    refine e_goto (tgt := 165) dX11_down_161 (by decide) ?_
                                    first | ((with_reducible refine mk_stw ?_); refine e_stw dX11_down_165 (by omega) ?_) | refine e_iast _ dX11_down_165 ⟨by decide, by decide⟩ rfl rfl (by simp only [lenK]; omega) ?_
                                    first | refine n_inc dX11_down_166 rfl (Nat.le_of_ble_eq_true rfl) rfl ?_ | refine e_iinc dX11_down_166 rfl rfl (Nat.le_of_ble_eq_true rfl) rfl ?_
                                    first | refine n_inc dX11_down_169 rfl (Nat.le_of_ble_eq_true rfl) rfl ?_ | refine e_iinc dX11_down_169 rfl rfl (Nat.le_of_ble_eq_true rfl) rfl ?_
                                    refine e_goto (tgt := 37) dX11_down_172 (by decide) ?_
                                    repeat' split at ih
                                    all_goals first | (exfalso; grind [dnB]) | (refine EV_ls ?_ ih; repeat (first | exact lsub_0 | refine lsub_n ?_ | refine lsub_s ?_))
                            · try first | contradiction | omega
                              all_goals
                                refine e_goto (tgt := 169) dX11_down_132 (by decide) ?_
                                first | refine n_inc dX11_down_169 rfl (Nat.le_of_ble_eq_true rfl) rfl ?_ | refine e_iinc dX11_down_169 rfl rfl (Nat.le_of_ble_eq_true rfl) rfl ?_
                                refine e_goto (tgt := 37) dX11_down_172 (by decide) ?_
                                repeat' split at ih
                                all_goals first | (exfalso; grind [dnB]) | (refine EV_ls ?_ ih; repeat (first | exact lsub_0 | refine lsub_n ?_ | refine lsub_s ?_))
                    · try first | contradiction | omega | (simp only [decide_eq_true_eq, decide_eq_false_iff_not] at h83; omega)
                      all_goals
                        refine e_aload_n dX11_down_86 rfl rfl ?_
                        refine e_getR dX11_down_87 fl_X11_7 rfl (by assumption) ?_
                        refine e_iload dX11_down_90 rfl ?_
                        refine e_iconst (v := nI 4) dX11_down_92 rfl ?_
                        first | ((with_reducible refine mk_nn ?_); refine n_iadd dX11_down_93 ?_) | refine e_iadd dX11_down_93 ?_
                        first | ((with_reducible refine mk_ldw ?_); refine e_ldw dX11_down_94 (by omega) ?_) | refine e_iald _ dX11_down_94 ⟨by decide, by decide⟩ rfl rfl (by simp only [lenK]; omega) ?_
                        rw [s4]
                        refine e_iload_n dX11_down_95 rfl rfl ?_
                        first | ((with_reducible refine mk_mo ?_); refine p_icmp_eq (tgt := 102) dX11_down_96 (by decide) (fun h96 => ?_) (fun h96 => ?_)) | ((with_reducible refine mk_ms ?_); refine s_icmp_eq (tgt := 102) dX11_down_96 (by decide) (by omega) (fun h96 => ?_) (fun h96 => ?_)) | ((with_reducible refine mk_mn ?_); refine q_icmp_eq (tgt := 102) dX11_down_96 (by decide) (by omega) (fun h96 => ?_) (fun h96 => ?_)) | ((with_reducible refine mk_nn ?_); refine n_icmp_eq (tgt := 102) dX11_down_96 (by decide) (by omega) (by omega) (fun h96 => ?_) (fun h96 => ?_)) | refine e_icmp_eq (tgt := 102) dX11_down_96 (by decide) (fun h96 => ?_) (fun h96 => ?_)
                        · try first | contradiction | omega
                          all_goals
                            refine e_iload dX11_down_102 rfl ?_
                            first | ((with_reducible refine mk_b ?_); refine b_if_eq (tgt := 118) dX11_down_104 (by decide) (fun h104 => ?_) (fun h104 => ?_)) | ((with_reducible refine mk_ll ?_); refine m_if_eq (tgt := 118) dX11_down_104 (by decide) (by omega) (by omega) (fun h104 => ?_) (fun h104 => ?_)) | ((with_reducible refine mk_lc ?_); refine l_if_eq (tgt := 118) dX11_down_104 (by decide) (fun h104 => ?_) (fun h104 => ?_)) | ((with_reducible refine mk_n ?_); refine n_if_eq (tgt := 118) dX11_down_104 (by decide) (by omega) (fun h104 => ?_) (fun h104 => ?_)) | refine e_if_eq (tgt := 118) dX11_down_104 (by decide) (fun h104 => ?_) (fun h104 => ?_)
                            · try first | contradiction | omega | (simp only [decide_eq_true_eq, decide_eq_false_iff_not] at h104; omega)
                              all_goals
                                refine e_aload_n dX11_down_118 rfl rfl ?_
                                refine e_getR dX11_down_119 fl_X11_7 rfl (by assumption) ?_
                                refine e_iload dX11_down_122 rfl ?_
                                refine e_bipush (v := nI 7) dX11_down_124 rfl ?_
                                first | ((with_reducible refine mk_nn ?_); refine n_iadd dX11_down_126 ?_) | refine e_iadd dX11_down_126 ?_
                                first | ((with_reducible refine mk_ldw ?_); refine e_ldw dX11_down_127 (by omega) ?_) | refine e_iald _ dX11_down_127 ⟨by decide, by decide⟩ rfl rfl (by simp only [lenK]; omega) ?_
                                simp (disch := omega) only [upN_n, s7]
                                refine e_iconst (v := nI 1) dX11_down_128 rfl ?_
                                first | ((with_reducible refine mk_mo ?_); refine p_icmp_ne (tgt := 135) dX11_down_129 (by decide) (fun h129 => ?_) (fun h129 => ?_)) | ((with_reducible refine mk_ms ?_); refine s_icmp_ne (tgt := 135) dX11_down_129 (by decide) (by omega) (fun h129 => ?_) (fun h129 => ?_)) | ((with_reducible refine mk_mn ?_); refine q_icmp_ne (tgt := 135) dX11_down_129 (by decide) (by omega) (fun h129 => ?_) (fun h129 => ?_)) | ((with_reducible refine mk_nn ?_); refine n_icmp_ne (tgt := 135) dX11_down_129 (by decide) (by omega) (by omega) (fun h129 => ?_) (fun h129 => ?_)) | refine e_icmp_ne (tgt := 135) dX11_down_129 (by decide) (fun h129 => ?_) (fun h129 => ?_)
                                · try first | contradiction | omega
                                  all_goals
                                    refine e_aload_n dX11_down_135 rfl rfl ?_
                                    refine e_getR dX11_down_136 fl_X11_7 rfl (by assumption) ?_
                                    refine e_iload dX11_down_139 rfl ?_
                                    refine e_bipush (v := nI 7) dX11_down_141 rfl ?_
                                    first | ((with_reducible refine mk_nn ?_); refine n_iadd dX11_down_143 ?_) | refine e_iadd dX11_down_143 ?_
                                    refine e_iconst (v := nI 1) dX11_down_144 rfl ?_
                                    first | ((with_reducible refine mk_stw ?_); refine e_stw dX11_down_145 (by omega) ?_) | refine e_iast _ dX11_down_145 ⟨by decide, by decide⟩ rfl rfl (by simp only [lenK]; omega) ?_
                                    refine e_aload_n dX11_down_146 rfl rfl ?_
                                    refine e_getR dX11_down_147 fl_X11_7 rfl (by assumption) ?_
                                    refine e_iload dX11_down_150 rfl ?_
                                    refine e_bipush (v := nI 8) dX11_down_152 rfl ?_
                                    first | ((with_reducible refine mk_nn ?_); refine n_iadd dX11_down_154 ?_) | refine e_iadd dX11_down_154 ?_
                                    refine e_iload dX11_down_155 rfl ?_
                                    first | ((with_reducible refine mk_b ?_); refine b_if_eq (tgt := 164) dX11_down_157 (by decide) (fun h157 => ?_) (fun h157 => ?_)) | ((with_reducible refine mk_ll ?_); refine m_if_eq (tgt := 164) dX11_down_157 (by decide) (by omega) (by omega) (fun h157 => ?_) (fun h157 => ?_)) | ((with_reducible refine mk_lc ?_); refine l_if_eq (tgt := 164) dX11_down_157 (by decide) (fun h157 => ?_) (fun h157 => ?_)) | ((with_reducible refine mk_n ?_); refine n_if_eq (tgt := 164) dX11_down_157 (by decide) (by omega) (fun h157 => ?_) (fun h157 => ?_)) | refine e_if_eq (tgt := 164) dX11_down_157 (by decide) (fun h157 => ?_) (fun h157 => ?_)
                                    · try first | contradiction | omega | (simp only [decide_eq_true_eq, decide_eq_false_iff_not] at h157; omega)
                                      all_goals
                                        refine e_iconst (v := nI 2) dX11_down_164 rfl ?_
                                        first | ((with_reducible refine mk_stw ?_); refine e_stw dX11_down_165 (by omega) ?_) | refine e_iast _ dX11_down_165 ⟨by decide, by decide⟩ rfl rfl (by simp only [lenK]; omega) ?_
                                        first | refine n_inc dX11_down_166 rfl (Nat.le_of_ble_eq_true rfl) rfl ?_ | refine e_iinc dX11_down_166 rfl rfl (Nat.le_of_ble_eq_true rfl) rfl ?_
                                        first | refine n_inc dX11_down_169 rfl (Nat.le_of_ble_eq_true rfl) rfl ?_ | refine e_iinc dX11_down_169 rfl rfl (Nat.le_of_ble_eq_true rfl) rfl ?_
                                        refine e_goto (tgt := 37) dX11_down_172 (by decide) ?_
                                        repeat' split at ih
                                        all_goals first | (exfalso; grind [dnB]) | (refine EV_ls ?_ ih; repeat (first | exact lsub_0 | refine lsub_n ?_ | refine lsub_s ?_))
                                    · try first | contradiction | omega | (simp only [decide_eq_true_eq, decide_eq_false_iff_not] at h157; omega)
                                      all_goals
                                        refine e_iconst (v := nI 1) dX11_down_160 rfl ?_
                                        refine e_goto (tgt := 165) dX11_down_161 (by decide) ?_
                                        first | ((with_reducible refine mk_stw ?_); refine e_stw dX11_down_165 (by omega) ?_) | refine e_iast _ dX11_down_165 ⟨by decide, by decide⟩ rfl rfl (by simp only [lenK]; omega) ?_
                                        first | refine n_inc dX11_down_166 rfl (Nat.le_of_ble_eq_true rfl) rfl ?_ | refine e_iinc dX11_down_166 rfl rfl (Nat.le_of_ble_eq_true rfl) rfl ?_
                                        first | refine n_inc dX11_down_169 rfl (Nat.le_of_ble_eq_true rfl) rfl ?_ | refine e_iinc dX11_down_169 rfl rfl (Nat.le_of_ble_eq_true rfl) rfl ?_
                                        refine e_goto (tgt := 37) dX11_down_172 (by decide) ?_
                                        repeat' split at ih
                                        all_goals first | (exfalso; grind [dnB]) | (refine EV_ls ?_ ih; repeat (first | exact lsub_0 | refine lsub_n ?_ | refine lsub_s ?_))
                                · try first | contradiction | omega
                                  all_goals
                                    refine e_goto (tgt := 169) dX11_down_132 (by decide) ?_
                                    first | refine n_inc dX11_down_169 rfl (Nat.le_of_ble_eq_true rfl) rfl ?_ | refine e_iinc dX11_down_169 rfl rfl (Nat.le_of_ble_eq_true rfl) rfl ?_
                                    refine e_goto (tgt := 37) dX11_down_172 (by decide) ?_
                                    repeat' split at ih
                                    all_goals first | (exfalso; grind [dnB]) | (refine EV_ls ?_ ih; repeat (first | exact lsub_0 | refine lsub_n ?_ | refine lsub_s ?_))
                            · try first | contradiction | omega | (simp only [decide_eq_true_eq, decide_eq_false_iff_not] at h104; omega)
                              all_goals
                                refine e_aload_n dX11_down_107 rfl rfl ?_
                                refine e_getR dX11_down_108 fl_X11_7 rfl (by assumption) ?_
                                refine e_iload dX11_down_111 rfl ?_
                                refine e_bipush (v := nI 6) dX11_down_113 rfl ?_
                                first | ((with_reducible refine mk_nn ?_); refine n_iadd dX11_down_115 ?_) | refine e_iadd dX11_down_115 ?_
                                refine e_iconst (v := nI 0) dX11_down_116 rfl ?_
                                first | ((with_reducible refine mk_stw ?_); refine e_stw dX11_down_117 (by omega) ?_) | refine e_iast _ dX11_down_117 ⟨by decide, by decide⟩ rfl rfl (by simp only [lenK]; omega) ?_
                                refine e_aload_n dX11_down_118 rfl rfl ?_
                                refine e_getR dX11_down_119 fl_X11_7 rfl (by assumption) ?_
                                refine e_iload dX11_down_122 rfl ?_
                                refine e_bipush (v := nI 7) dX11_down_124 rfl ?_
                                first | ((with_reducible refine mk_nn ?_); refine n_iadd dX11_down_126 ?_) | refine e_iadd dX11_down_126 ?_
                                first | ((with_reducible refine mk_ldw ?_); refine e_ldw dX11_down_127 (by omega) ?_) | refine e_iald _ dX11_down_127 ⟨by decide, by decide⟩ rfl rfl (by simp only [lenK]; omega) ?_
                                simp (disch := omega) only [upN_n, s7]
                                refine e_iconst (v := nI 1) dX11_down_128 rfl ?_
                                first | ((with_reducible refine mk_mo ?_); refine p_icmp_ne (tgt := 135) dX11_down_129 (by decide) (fun h129 => ?_) (fun h129 => ?_)) | ((with_reducible refine mk_ms ?_); refine s_icmp_ne (tgt := 135) dX11_down_129 (by decide) (by omega) (fun h129 => ?_) (fun h129 => ?_)) | ((with_reducible refine mk_mn ?_); refine q_icmp_ne (tgt := 135) dX11_down_129 (by decide) (by omega) (fun h129 => ?_) (fun h129 => ?_)) | ((with_reducible refine mk_nn ?_); refine n_icmp_ne (tgt := 135) dX11_down_129 (by decide) (by omega) (by omega) (fun h129 => ?_) (fun h129 => ?_)) | refine e_icmp_ne (tgt := 135) dX11_down_129 (by decide) (fun h129 => ?_) (fun h129 => ?_)
                                · try first | contradiction | omega
                                  all_goals
                                    refine e_aload_n dX11_down_135 rfl rfl ?_
                                    refine e_getR dX11_down_136 fl_X11_7 rfl (by assumption) ?_
                                    refine e_iload dX11_down_139 rfl ?_
                                    refine e_bipush (v := nI 7) dX11_down_141 rfl ?_
                                    first | ((with_reducible refine mk_nn ?_); refine n_iadd dX11_down_143 ?_) | refine e_iadd dX11_down_143 ?_
                                    refine e_iconst (v := nI 1) dX11_down_144 rfl ?_
                                    first | ((with_reducible refine mk_stw ?_); refine e_stw dX11_down_145 (by omega) ?_) | refine e_iast _ dX11_down_145 ⟨by decide, by decide⟩ rfl rfl (by simp only [lenK]; omega) ?_
                                    refine e_aload_n dX11_down_146 rfl rfl ?_
                                    refine e_getR dX11_down_147 fl_X11_7 rfl (by assumption) ?_
                                    refine e_iload dX11_down_150 rfl ?_
                                    refine e_bipush (v := nI 8) dX11_down_152 rfl ?_
                                    first | ((with_reducible refine mk_nn ?_); refine n_iadd dX11_down_154 ?_) | refine e_iadd dX11_down_154 ?_
                                    refine e_iload dX11_down_155 rfl ?_
                                    first | ((with_reducible refine mk_b ?_); refine b_if_eq (tgt := 164) dX11_down_157 (by decide) (fun h157 => ?_) (fun h157 => ?_)) | ((with_reducible refine mk_ll ?_); refine m_if_eq (tgt := 164) dX11_down_157 (by decide) (by omega) (by omega) (fun h157 => ?_) (fun h157 => ?_)) | ((with_reducible refine mk_lc ?_); refine l_if_eq (tgt := 164) dX11_down_157 (by decide) (fun h157 => ?_) (fun h157 => ?_)) | ((with_reducible refine mk_n ?_); refine n_if_eq (tgt := 164) dX11_down_157 (by decide) (by omega) (fun h157 => ?_) (fun h157 => ?_)) | refine e_if_eq (tgt := 164) dX11_down_157 (by decide) (fun h157 => ?_) (fun h157 => ?_)
                                    · try first | contradiction | omega | (simp only [decide_eq_true_eq, decide_eq_false_iff_not] at h157; omega)
                                      all_goals
                                        refine e_iconst (v := nI 2) dX11_down_164 rfl ?_
                                        first | ((with_reducible refine mk_stw ?_); refine e_stw dX11_down_165 (by omega) ?_) | refine e_iast _ dX11_down_165 ⟨by decide, by decide⟩ rfl rfl (by simp only [lenK]; omega) ?_
                                        first | refine n_inc dX11_down_166 rfl (Nat.le_of_ble_eq_true rfl) rfl ?_ | refine e_iinc dX11_down_166 rfl rfl (Nat.le_of_ble_eq_true rfl) rfl ?_
                                        first | refine n_inc dX11_down_169 rfl (Nat.le_of_ble_eq_true rfl) rfl ?_ | refine e_iinc dX11_down_169 rfl rfl (Nat.le_of_ble_eq_true rfl) rfl ?_
                                        refine e_goto (tgt := 37) dX11_down_172 (by decide) ?_
                                        repeat' split at ih
                                        all_goals first | (exfalso; grind [dnB]) | (refine EV_ls ?_ ih; repeat (first | exact lsub_0 | refine lsub_n ?_ | refine lsub_s ?_))
                                    · try first | contradiction | omega | (simp only [decide_eq_true_eq, decide_eq_false_iff_not] at h157; omega)
                                      all_goals
                                        refine e_iconst (v := nI 1) dX11_down_160 rfl ?_
                                        refine e_goto (tgt := 165) dX11_down_161 (by decide) ?_
                                        first | ((with_reducible refine mk_stw ?_); refine e_stw dX11_down_165 (by omega) ?_) | refine e_iast _ dX11_down_165 ⟨by decide, by decide⟩ rfl rfl (by simp only [lenK]; omega) ?_
                                        first | refine n_inc dX11_down_166 rfl (Nat.le_of_ble_eq_true rfl) rfl ?_ | refine e_iinc dX11_down_166 rfl rfl (Nat.le_of_ble_eq_true rfl) rfl ?_
                                        first | refine n_inc dX11_down_169 rfl (Nat.le_of_ble_eq_true rfl) rfl ?_ | refine e_iinc dX11_down_169 rfl rfl (Nat.le_of_ble_eq_true rfl) rfl ?_
                                        refine e_goto (tgt := 37) dX11_down_172 (by decide) ?_
                                        repeat' split at ih
                                        all_goals first | (exfalso; grind [dnB]) | (refine EV_ls ?_ ih; repeat (first | exact lsub_0 | refine lsub_n ?_ | refine lsub_s ?_))
                                · try first | contradiction | omega
                                  all_goals
                                    refine e_goto (tgt := 169) dX11_down_132 (by decide) ?_
                                    first | refine n_inc dX11_down_169 rfl (Nat.le_of_ble_eq_true rfl) rfl ?_ | refine e_iinc dX11_down_169 rfl rfl (Nat.le_of_ble_eq_true rfl) rfl ?_
                                    refine e_goto (tgt := 37) dX11_down_172 (by decide) ?_
                                    repeat' split at ih
                                    all_goals first | (exfalso; grind [dnB]) | (refine EV_ls ?_ ih; repeat (first | exact lsub_0 | refine lsub_n ?_ | refine lsub_s ?_))
                        · try first | contradiction | omega
                          all_goals
                            refine e_goto (tgt := 169) dX11_down_99 (by decide) ?_
                            first | refine n_inc dX11_down_169 rfl (Nat.le_of_ble_eq_true rfl) rfl ?_ | refine e_iinc dX11_down_169 rfl rfl (Nat.le_of_ble_eq_true rfl) rfl ?_
                            refine e_goto (tgt := 37) dX11_down_172 (by decide) ?_
                            repeat' split at ih
                            all_goals first | (exfalso; grind [dnB]) | (refine EV_ls ?_ ih; repeat (first | exact lsub_0 | refine lsub_n ?_ | refine lsub_s ?_))
            · try first | contradiction | omega
              all_goals
                refine e_iconst (v := nI 1) dX11_down_66 rfl ?_
                refine e_goto (tgt := 71) dX11_down_67 (by decide) ?_
                refine e_istore dX11_down_71 (Nat.le_of_ble_eq_true rfl) rfl ?_
                refine e_aload_n dX11_down_73 rfl rfl ?_
                refine e_iload_n dX11_down_74 rfl rfl ?_
                refine x_V1 (M' := mX11_isGoing) dX11_down_75 ml_X11_67 ok_X11_isGoing (by decide) rfl im_X11_isGoing se_X11_isGoing (ct_isGoing2 ‹_› (by omega) (by omega)) (Nat.le_of_ble_eq_true rfl) (by decide) (Nat.le_of_ble_eq_true rfl) ?_
                rw [eg]
                first | ((with_reducible refine mk_b ?_); refine b_if_eq (tgt := 169) dX11_down_78 (by decide) (fun h78 => ?_) (fun h78 => ?_)) | ((with_reducible refine mk_ll ?_); refine m_if_eq (tgt := 169) dX11_down_78 (by decide) (by omega) (by omega) (fun h78 => ?_) (fun h78 => ?_)) | ((with_reducible refine mk_lc ?_); refine l_if_eq (tgt := 169) dX11_down_78 (by decide) (fun h78 => ?_) (fun h78 => ?_)) | ((with_reducible refine mk_n ?_); refine n_if_eq (tgt := 169) dX11_down_78 (by decide) (by omega) (fun h78 => ?_) (fun h78 => ?_)) | refine e_if_eq (tgt := 169) dX11_down_78 (by decide) (fun h78 => ?_) (fun h78 => ?_)
                · try first | contradiction | omega | (simp only [decide_eq_true_eq, decide_eq_false_iff_not] at h78; omega)
                  all_goals
                    first | refine n_inc dX11_down_169 rfl (Nat.le_of_ble_eq_true rfl) rfl ?_ | refine e_iinc dX11_down_169 rfl rfl (Nat.le_of_ble_eq_true rfl) rfl ?_
                    refine e_goto (tgt := 37) dX11_down_172 (by decide) ?_
                    repeat' split at ih
                    all_goals first | (exfalso; grind [dnB]) | (refine EV_ls ?_ ih; repeat (first | exact lsub_0 | refine lsub_n ?_ | refine lsub_s ?_))
                · try first | contradiction | omega | (simp only [decide_eq_true_eq, decide_eq_false_iff_not] at h78; omega)
                  all_goals
                    refine e_iload dX11_down_81 rfl ?_
                    first | ((with_reducible refine mk_b ?_); refine b_if_ne (tgt := 102) dX11_down_83 (by decide) (fun h83 => ?_) (fun h83 => ?_)) | ((with_reducible refine mk_ll ?_); refine m_if_ne (tgt := 102) dX11_down_83 (by decide) (by omega) (by omega) (fun h83 => ?_) (fun h83 => ?_)) | ((with_reducible refine mk_lc ?_); refine l_if_ne (tgt := 102) dX11_down_83 (by decide) (fun h83 => ?_) (fun h83 => ?_)) | ((with_reducible refine mk_n ?_); refine n_if_ne (tgt := 102) dX11_down_83 (by decide) (by omega) (fun h83 => ?_) (fun h83 => ?_)) | refine e_if_ne (tgt := 102) dX11_down_83 (by decide) (fun h83 => ?_) (fun h83 => ?_)
                    · try first | contradiction | omega | (simp only [decide_eq_true_eq, decide_eq_false_iff_not] at h83; omega)
                      all_goals
                        refine e_iload dX11_down_102 rfl ?_
                        first | ((with_reducible refine mk_b ?_); refine b_if_eq (tgt := 118) dX11_down_104 (by decide) (fun h104 => ?_) (fun h104 => ?_)) | ((with_reducible refine mk_ll ?_); refine m_if_eq (tgt := 118) dX11_down_104 (by decide) (by omega) (by omega) (fun h104 => ?_) (fun h104 => ?_)) | ((with_reducible refine mk_lc ?_); refine l_if_eq (tgt := 118) dX11_down_104 (by decide) (fun h104 => ?_) (fun h104 => ?_)) | ((with_reducible refine mk_n ?_); refine n_if_eq (tgt := 118) dX11_down_104 (by decide) (by omega) (fun h104 => ?_) (fun h104 => ?_)) | refine e_if_eq (tgt := 118) dX11_down_104 (by decide) (fun h104 => ?_) (fun h104 => ?_)
                        · try first | contradiction | omega | (simp only [decide_eq_true_eq, decide_eq_false_iff_not] at h104; omega)
                          all_goals
                            refine e_aload_n dX11_down_118 rfl rfl ?_
                            refine e_getR dX11_down_119 fl_X11_7 rfl (by assumption) ?_
                            refine e_iload dX11_down_122 rfl ?_
                            refine e_bipush (v := nI 7) dX11_down_124 rfl ?_
                            first | ((with_reducible refine mk_nn ?_); refine n_iadd dX11_down_126 ?_) | refine e_iadd dX11_down_126 ?_
                            first | ((with_reducible refine mk_ldw ?_); refine e_ldw dX11_down_127 (by omega) ?_) | refine e_iald _ dX11_down_127 ⟨by decide, by decide⟩ rfl rfl (by simp only [lenK]; omega) ?_
                            simp (disch := omega) only [upN_n, s7]
                            refine e_iconst (v := nI 1) dX11_down_128 rfl ?_
                            first | ((with_reducible refine mk_mo ?_); refine p_icmp_ne (tgt := 135) dX11_down_129 (by decide) (fun h129 => ?_) (fun h129 => ?_)) | ((with_reducible refine mk_ms ?_); refine s_icmp_ne (tgt := 135) dX11_down_129 (by decide) (by omega) (fun h129 => ?_) (fun h129 => ?_)) | ((with_reducible refine mk_mn ?_); refine q_icmp_ne (tgt := 135) dX11_down_129 (by decide) (by omega) (fun h129 => ?_) (fun h129 => ?_)) | ((with_reducible refine mk_nn ?_); refine n_icmp_ne (tgt := 135) dX11_down_129 (by decide) (by omega) (by omega) (fun h129 => ?_) (fun h129 => ?_)) | refine e_icmp_ne (tgt := 135) dX11_down_129 (by decide) (fun h129 => ?_) (fun h129 => ?_)
                            · try first | contradiction | omega
                              all_goals
                                refine e_aload_n dX11_down_135 rfl rfl ?_
                                refine e_getR dX11_down_136 fl_X11_7 rfl (by assumption) ?_
                                refine e_iload dX11_down_139 rfl ?_
                                refine e_bipush (v := nI 7) dX11_down_141 rfl ?_
                                first | ((with_reducible refine mk_nn ?_); refine n_iadd dX11_down_143 ?_) | refine e_iadd dX11_down_143 ?_
                                refine e_iconst (v := nI 1) dX11_down_144 rfl ?_
                                first | ((with_reducible refine mk_stw ?_); refine e_stw dX11_down_145 (by omega) ?_) | refine e_iast _ dX11_down_145 ⟨by decide, by decide⟩ rfl rfl (by simp only [lenK]; omega) ?_
                                refine e_aload_n dX11_down_146 rfl rfl ?_
                                refine e_getR dX11_down_147 fl_X11_7 rfl (by assumption) ?_
                                refine e_iload dX11_down_150 rfl ?_
                                refine e_bipush (v := nI 8) dX11_down_152 rfl ?_
                                first | ((with_reducible refine mk_nn ?_); refine n_iadd dX11_down_154 ?_) | refine e_iadd dX11_down_154 ?_
                                refine e_iload dX11_down_155 rfl ?_
                                first | ((with_reducible refine mk_b ?_); refine b_if_eq (tgt := 164) dX11_down_157 (by decide) (fun h157 => ?_) (fun h157 => ?_)) | ((with_reducible refine mk_ll ?_); refine m_if_eq (tgt := 164) dX11_down_157 (by decide) (by omega) (by omega) (fun h157 => ?_) (fun h157 => ?_)) | ((with_reducible refine mk_lc ?_); refine l_if_eq (tgt := 164) dX11_down_157 (by decide) (fun h157 => ?_) (fun h157 => ?_)) | ((with_reducible refine mk_n ?_); refine n_if_eq (tgt := 164) dX11_down_157 (by decide) (by omega) (fun h157 => ?_) (fun h157 => ?_)) | refine e_if_eq (tgt := 164) dX11_down_157 (by decide) (fun h157 => ?_) (fun h157 => ?_)
                                · try first | contradiction | omega | (simp only [decide_eq_true_eq, decide_eq_false_iff_not] at h157; omega)
                                  all_goals
                                    refine e_iconst (v := nI 2) dX11_down_164 rfl ?_
                                    first | ((with_reducible refine mk_stw ?_); refine e_stw dX11_down_165 (by omega) ?_) | refine e_iast _ dX11_down_165 ⟨by decide, by decide⟩ rfl rfl (by simp only [lenK]; omega) ?_
                                    first | refine n_inc dX11_down_166 rfl (Nat.le_of_ble_eq_true rfl) rfl ?_ | refine e_iinc dX11_down_166 rfl rfl (Nat.le_of_ble_eq_true rfl) rfl ?_
                                    first | refine n_inc dX11_down_169 rfl (Nat.le_of_ble_eq_true rfl) rfl ?_ | refine e_iinc dX11_down_169 rfl rfl (Nat.le_of_ble_eq_true rfl) rfl ?_
                                    refine e_goto (tgt := 37) dX11_down_172 (by decide) ?_
                                    repeat' split at ih
                                    all_goals first | (exfalso; grind [dnB]) | (refine EV_ls ?_ ih; repeat (first | exact lsub_0 | refine lsub_n ?_ | refine lsub_s ?_))
                                · try first | contradiction | omega | (simp only [decide_eq_true_eq, decide_eq_false_iff_not] at h157; omega)
                                  all_goals
                                    refine e_iconst (v := nI 1) dX11_down_160 rfl ?_
                                    refine e_goto (tgt := 165) dX11_down_161 (by decide) ?_
                                    first | ((with_reducible refine mk_stw ?_); refine e_stw dX11_down_165 (by omega) ?_) | refine e_iast _ dX11_down_165 ⟨by decide, by decide⟩ rfl rfl (by simp only [lenK]; omega) ?_
                                    first | refine n_inc dX11_down_166 rfl (Nat.le_of_ble_eq_true rfl) rfl ?_ | refine e_iinc dX11_down_166 rfl rfl (Nat.le_of_ble_eq_true rfl) rfl ?_
                                    first | refine n_inc dX11_down_169 rfl (Nat.le_of_ble_eq_true rfl) rfl ?_ | refine e_iinc dX11_down_169 rfl rfl (Nat.le_of_ble_eq_true rfl) rfl ?_
                                    refine e_goto (tgt := 37) dX11_down_172 (by decide) ?_
                                    repeat' split at ih
                                    all_goals first | (exfalso; grind [dnB]) | (refine EV_ls ?_ ih; repeat (first | exact lsub_0 | refine lsub_n ?_ | refine lsub_s ?_))
                            · try first | contradiction | omega
                              all_goals
                                refine e_goto (tgt := 169) dX11_down_132 (by decide) ?_
                                first | refine n_inc dX11_down_169 rfl (Nat.le_of_ble_eq_true rfl) rfl ?_ | refine e_iinc dX11_down_169 rfl rfl (Nat.le_of_ble_eq_true rfl) rfl ?_
                                refine e_goto (tgt := 37) dX11_down_172 (by decide) ?_
                                repeat' split at ih
                                all_goals first | (exfalso; grind [dnB]) | (refine EV_ls ?_ ih; repeat (first | exact lsub_0 | refine lsub_n ?_ | refine lsub_s ?_))
                        · try first | contradiction | omega | (simp only [decide_eq_true_eq, decide_eq_false_iff_not] at h104; omega)
                          all_goals
                            refine e_aload_n dX11_down_107 rfl rfl ?_
                            refine e_getR dX11_down_108 fl_X11_7 rfl (by assumption) ?_
                            refine e_iload dX11_down_111 rfl ?_
                            refine e_bipush (v := nI 6) dX11_down_113 rfl ?_
                            first | ((with_reducible refine mk_nn ?_); refine n_iadd dX11_down_115 ?_) | refine e_iadd dX11_down_115 ?_
                            refine e_iconst (v := nI 0) dX11_down_116 rfl ?_
                            first | ((with_reducible refine mk_stw ?_); refine e_stw dX11_down_117 (by omega) ?_) | refine e_iast _ dX11_down_117 ⟨by decide, by decide⟩ rfl rfl (by simp only [lenK]; omega) ?_
                            refine e_aload_n dX11_down_118 rfl rfl ?_
                            refine e_getR dX11_down_119 fl_X11_7 rfl (by assumption) ?_
                            refine e_iload dX11_down_122 rfl ?_
                            refine e_bipush (v := nI 7) dX11_down_124 rfl ?_
                            first | ((with_reducible refine mk_nn ?_); refine n_iadd dX11_down_126 ?_) | refine e_iadd dX11_down_126 ?_
                            first | ((with_reducible refine mk_ldw ?_); refine e_ldw dX11_down_127 (by omega) ?_) | refine e_iald _ dX11_down_127 ⟨by decide, by decide⟩ rfl rfl (by simp only [lenK]; omega) ?_
                            simp (disch := omega) only [upN_n, s7]
                            refine e_iconst (v := nI 1) dX11_down_128 rfl ?_
                            first | ((with_reducible refine mk_mo ?_); refine p_icmp_ne (tgt := 135) dX11_down_129 (by decide) (fun h129 => ?_) (fun h129 => ?_)) | ((with_reducible refine mk_ms ?_); refine s_icmp_ne (tgt := 135) dX11_down_129 (by decide) (by omega) (fun h129 => ?_) (fun h129 => ?_)) | ((with_reducible refine mk_mn ?_); refine q_icmp_ne (tgt := 135) dX11_down_129 (by decide) (by omega) (fun h129 => ?_) (fun h129 => ?_)) | ((with_reducible refine mk_nn ?_); refine n_icmp_ne (tgt := 135) dX11_down_129 (by decide) (by omega) (by omega) (fun h129 => ?_) (fun h129 => ?_)) | refine e_icmp_ne (tgt := 135) dX11_down_129 (by decide) (fun h129 => ?_) (fun h129 => ?_)
                            · try first | contradiction | omega
                              all_goals
                                refine e_aload_n dX11_down_135 rfl rfl ?_
                                refine e_getR dX11_down_136 fl_X11_7 rfl (by assumption) ?_
                                refine e_iload dX11_down_139 rfl ?_
                                refine e_bipush (v := nI 7) dX11_down_141 rfl ?_
                                first | ((with_reducible refine mk_nn ?_); refine n_iadd dX11_down_143 ?_) | refine e_iadd dX11_down_143 ?_
                                refine e_iconst (v := nI 1) dX11_down_144 rfl ?_
                                first | ((with_reducible refine mk_stw ?_); refine e_stw dX11_down_145 (by omega) ?_) | refine e_iast _ dX11_down_145 ⟨by decide, by decide⟩ rfl rfl (by simp only [lenK]; omega) ?_
                                refine e_aload_n dX11_down_146 rfl rfl ?_
                                refine e_getR dX11_down_147 fl_X11_7 rfl (by assumption) ?_
                                refine e_iload dX11_down_150 rfl ?_
                                refine e_bipush (v := nI 8) dX11_down_152 rfl ?_
                                first | ((with_reducible refine mk_nn ?_); refine n_iadd dX11_down_154 ?_) | refine e_iadd dX11_down_154 ?_
                                refine e_iload dX11_down_155 rfl ?_
                                first | ((with_reducible refine mk_b ?_); refine b_if_eq (tgt := 164) dX11_down_157 (by decide) (fun h157 => ?_) (fun h157 => ?_)) | ((with_reducible refine mk_ll ?_); refine m_if_eq (tgt := 164) dX11_down_157 (by decide) (by omega) (by omega) (fun h157 => ?_) (fun h157 => ?_)) | ((with_reducible refine mk_lc ?_); refine l_if_eq (tgt := 164) dX11_down_157 (by decide) (fun h157 => ?_) (fun h157 => ?_)) | ((with_reducible refine mk_n ?_); refine n_if_eq (tgt := 164) dX11_down_157 (by decide) (by omega) (fun h157 => ?_) (fun h157 => ?_)) | refine e_if_eq (tgt := 164) dX11_down_157 (by decide) (fun h157 => ?_) (fun h157 => ?_)
                                · try first | contradiction | omega | (simp only [decide_eq_true_eq, decide_eq_false_iff_not] at h157; omega)
                                  all_goals
                                    refine e_iconst (v := nI 2) dX11_down_164 rfl ?_
                                    first | ((with_reducible refine mk_stw ?_); refine e_stw dX11_down_165 (by omega) ?_) | refine e_iast _ dX11_down_165 ⟨by decide, by decide⟩ rfl rfl (by simp only [lenK]; omega) ?_
                                    first | refine n_inc dX11_down_166 rfl (Nat.le_of_ble_eq_true rfl) rfl ?_ | refine e_iinc dX11_down_166 rfl rfl (Nat.le_of_ble_eq_true rfl) rfl ?_
                                    first | refine n_inc dX11_down_169 rfl (Nat.le_of_ble_eq_true rfl) rfl ?_ | refine e_iinc dX11_down_169 rfl rfl (Nat.le_of_ble_eq_true rfl) rfl ?_
                                    refine e_goto (tgt := 37) dX11_down_172 (by decide) ?_
                                    repeat' split at ih
                                    all_goals first | (exfalso; grind [dnB]) | (refine EV_ls ?_ ih; repeat (first | exact lsub_0 | refine lsub_n ?_ | refine lsub_s ?_))
                                · try first | contradiction | omega | (simp only [decide_eq_true_eq, decide_eq_false_iff_not] at h157; omega)
                                  all_goals
                                    refine e_iconst (v := nI 1) dX11_down_160 rfl ?_
                                    refine e_goto (tgt := 165) dX11_down_161 (by decide) ?_
                                    first | ((with_reducible refine mk_stw ?_); refine e_stw dX11_down_165 (by omega) ?_) | refine e_iast _ dX11_down_165 ⟨by decide, by decide⟩ rfl rfl (by simp only [lenK]; omega) ?_
                                    first | refine n_inc dX11_down_166 rfl (Nat.le_of_ble_eq_true rfl) rfl ?_ | refine e_iinc dX11_down_166 rfl rfl (Nat.le_of_ble_eq_true rfl) rfl ?_
                                    first | refine n_inc dX11_down_169 rfl (Nat.le_of_ble_eq_true rfl) rfl ?_ | refine e_iinc dX11_down_169 rfl rfl (Nat.le_of_ble_eq_true rfl) rfl ?_
                                    refine e_goto (tgt := 37) dX11_down_172 (by decide) ?_
                                    repeat' split at ih
                                    all_goals first | (exfalso; grind [dnB]) | (refine EV_ls ?_ ih; repeat (first | exact lsub_0 | refine lsub_n ?_ | refine lsub_s ?_))
                            · try first | contradiction | omega
                              all_goals
                                refine e_goto (tgt := 169) dX11_down_132 (by decide) ?_
                                first | refine n_inc dX11_down_169 rfl (Nat.le_of_ble_eq_true rfl) rfl ?_ | refine e_iinc dX11_down_169 rfl rfl (Nat.le_of_ble_eq_true rfl) rfl ?_
                                refine e_goto (tgt := 37) dX11_down_172 (by decide) ?_
                                repeat' split at ih
                                all_goals first | (exfalso; grind [dnB]) | (refine EV_ls ?_ ih; repeat (first | exact lsub_0 | refine lsub_n ?_ | refine lsub_s ?_))
                    · try first | contradiction | omega | (simp only [decide_eq_true_eq, decide_eq_false_iff_not] at h83; omega)
                      all_goals
                        refine e_aload_n dX11_down_86 rfl rfl ?_
                        refine e_getR dX11_down_87 fl_X11_7 rfl (by assumption) ?_
                        refine e_iload dX11_down_90 rfl ?_
                        refine e_iconst (v := nI 4) dX11_down_92 rfl ?_
                        first | ((with_reducible refine mk_nn ?_); refine n_iadd dX11_down_93 ?_) | refine e_iadd dX11_down_93 ?_
                        first | ((with_reducible refine mk_ldw ?_); refine e_ldw dX11_down_94 (by omega) ?_) | refine e_iald _ dX11_down_94 ⟨by decide, by decide⟩ rfl rfl (by simp only [lenK]; omega) ?_
                        rw [s4]
                        refine e_iload_n dX11_down_95 rfl rfl ?_
                        first | ((with_reducible refine mk_mo ?_); refine p_icmp_eq (tgt := 102) dX11_down_96 (by decide) (fun h96 => ?_) (fun h96 => ?_)) | ((with_reducible refine mk_ms ?_); refine s_icmp_eq (tgt := 102) dX11_down_96 (by decide) (by omega) (fun h96 => ?_) (fun h96 => ?_)) | ((with_reducible refine mk_mn ?_); refine q_icmp_eq (tgt := 102) dX11_down_96 (by decide) (by omega) (fun h96 => ?_) (fun h96 => ?_)) | ((with_reducible refine mk_nn ?_); refine n_icmp_eq (tgt := 102) dX11_down_96 (by decide) (by omega) (by omega) (fun h96 => ?_) (fun h96 => ?_)) | refine e_icmp_eq (tgt := 102) dX11_down_96 (by decide) (fun h96 => ?_) (fun h96 => ?_)
                        · try first | contradiction | omega
                          all_goals
                            refine e_iload dX11_down_102 rfl ?_
                            first | ((with_reducible refine mk_b ?_); refine b_if_eq (tgt := 118) dX11_down_104 (by decide) (fun h104 => ?_) (fun h104 => ?_)) | ((with_reducible refine mk_ll ?_); refine m_if_eq (tgt := 118) dX11_down_104 (by decide) (by omega) (by omega) (fun h104 => ?_) (fun h104 => ?_)) | ((with_reducible refine mk_lc ?_); refine l_if_eq (tgt := 118) dX11_down_104 (by decide) (fun h104 => ?_) (fun h104 => ?_)) | ((with_reducible refine mk_n ?_); refine n_if_eq (tgt := 118) dX11_down_104 (by decide) (by omega) (fun h104 => ?_) (fun h104 => ?_)) | refine e_if_eq (tgt := 118) dX11_down_104 (by decide) (fun h104 => ?_) (fun h104 => ?_)
                            · try first | contradiction | omega | (simp only [decide_eq_true_eq, decide_eq_false_iff_not] at h104; omega)
                              all_goals
                                refine e_aload_n dX11_down_118 rfl rfl ?_
                                refine e_getR dX11_down_119 fl_X11_7 rfl (by assumption) ?_
                                refine e_iload dX11_down_122 rfl ?_
                                refine e_bipush (v := nI 7) dX11_down_124 rfl ?_
                                first | ((with_reducible refine mk_nn ?_); refine n_iadd dX11_down_126 ?_) | refine e_iadd dX11_down_126 ?_
                                first | ((with_reducible refine mk_ldw ?_); refine e_ldw dX11_down_127 (by omega) ?_) | refine e_iald _ dX11_down_127 ⟨by decide, by decide⟩ rfl rfl (by simp only [lenK]; omega) ?_
                                simp (disch := omega) only [upN_n, s7]
                                refine e_iconst (v := nI 1) dX11_down_128 rfl ?_
                                first | ((with_reducible refine mk_mo ?_); refine p_icmp_ne (tgt := 135) dX11_down_129 (by decide) (fun h129 => ?_) (fun h129 => ?_)) | ((with_reducible refine mk_ms ?_); refine s_icmp_ne (tgt := 135) dX11_down_129 (by decide) (by omega) (fun h129 => ?_) (fun h129 => ?_)) | ((with_reducible refine mk_mn ?_); refine q_icmp_ne (tgt := 135) dX11_down_129 (by decide) (by omega) (fun h129 => ?_) (fun h129 => ?_)) | ((with_reducible refine mk_nn ?_); refine n_icmp_ne (tgt := 135) dX11_down_129 (by decide) (by omega) (by omega) (fun h129 => ?_) (fun h129 => ?_)) | refine e_icmp_ne (tgt := 135) dX11_down_129 (by decide) (fun h129 => ?_) (fun h129 => ?_)
                                · try first | contradiction | omega
                                  all_goals
                                    refine e_aload_n dX11_down_135 rfl rfl ?_
                                    refine e_getR dX11_down_136 fl_X11_7 rfl (by assumption) ?_
                                    refine e_iload dX11_down_139 rfl ?_
                                    refine e_bipush (v := nI 7) dX11_down_141 rfl ?_
                                    first | ((with_reducible refine mk_nn ?_); refine n_iadd dX11_down_143 ?_) | refine e_iadd dX11_down_143 ?_
                                    refine e_iconst (v := nI 1) dX11_down_144 rfl ?_
                                    first | ((with_reducible refine mk_stw ?_); refine e_stw dX11_down_145 (by omega) ?_) | refine e_iast _ dX11_down_145 ⟨by decide, by decide⟩ rfl rfl (by simp only [lenK]; omega) ?_
                                    refine e_aload_n dX11_down_146 rfl rfl ?_
                                    refine e_getR dX11_down_147 fl_X11_7 rfl (by assumption) ?_
                                    refine e_iload dX11_down_150 rfl ?_
                                    refine e_bipush (v := nI 8) dX11_down_152 rfl ?_
                                    first | ((with_reducible refine mk_nn ?_); refine n_iadd dX11_down_154 ?_) | refine e_iadd dX11_down_154 ?_
                                    refine e_iload dX11_down_155 rfl ?_
                                    first | ((with_reducible refine mk_b ?_); refine b_if_eq (tgt := 164) dX11_down_157 (by decide) (fun h157 => ?_) (fun h157 => ?_)) | ((with_reducible refine mk_ll ?_); refine m_if_eq (tgt := 164) dX11_down_157 (by decide) (by omega) (by omega) (fun h157 => ?_) (fun h157 => ?_)) | ((with_reducible refine mk_lc ?_); refine l_if_eq (tgt := 164) dX11_down_157 (by decide) (fun h157 => ?_) (fun h157 => ?_)) | ((with_reducible refine mk_n ?_); refine n_if_eq (tgt := 164) dX11_down_157 (by decide) (by omega) (fun h157 => ?_) (fun h157 => ?_)) | refine e_if_eq (tgt := 164) dX11_down_157 (by decide) (fun h157 => ?_) (fun h157 => ?_)
                                    · try first | contradiction | omega | (simp only [decide_eq_true_eq, decide_eq_false_iff_not] at h157; omega)
                                      all_goals
                                        refine e_iconst (v := nI 2) dX11_down_164 rfl ?_
                                        first | ((with_reducible refine mk_stw ?_); refine e_stw dX11_down_165 (by omega) ?_) | refine e_iast _ dX11_down_165 ⟨by decide, by decide⟩ rfl rfl (by simp only [lenK]; omega) ?_
                                        first | refine n_inc dX11_down_166 rfl (Nat.le_of_ble_eq_true rfl) rfl ?_ | refine e_iinc dX11_down_166 rfl rfl (Nat.le_of_ble_eq_true rfl) rfl ?_
                                        first | refine n_inc dX11_down_169 rfl (Nat.le_of_ble_eq_true rfl) rfl ?_ | refine e_iinc dX11_down_169 rfl rfl (Nat.le_of_ble_eq_true rfl) rfl ?_
                                        refine e_goto (tgt := 37) dX11_down_172 (by decide) ?_
                                        repeat' split at ih
                                        all_goals first | (exfalso; grind [dnB]) | (refine EV_ls ?_ ih; repeat (first | exact lsub_0 | refine lsub_n ?_ | refine lsub_s ?_))
                                    · try first | contradiction | omega | (simp only [decide_eq_true_eq, decide_eq_false_iff_not] at h157; omega)
                                      all_goals
                                        refine e_iconst (v := nI 1) dX11_down_160 rfl ?_
                                        refine e_goto (tgt := 165) dX11_down_161 (by decide) ?_
                                        first | ((with_reducible refine mk_stw ?_); refine e_stw dX11_down_165 (by omega) ?_) | refine e_iast _ dX11_down_165 ⟨by decide, by decide⟩ rfl rfl (by simp only [lenK]; omega) ?_
                                        first | refine n_inc dX11_down_166 rfl (Nat.le_of_ble_eq_true rfl) rfl ?_ | refine e_iinc dX11_down_166 rfl rfl (Nat.le_of_ble_eq_true rfl) rfl ?_
                                        first | refine n_inc dX11_down_169 rfl (Nat.le_of_ble_eq_true rfl) rfl ?_ | refine e_iinc dX11_down_169 rfl rfl (Nat.le_of_ble_eq_true rfl) rfl ?_
                                        refine e_goto (tgt := 37) dX11_down_172 (by decide) ?_
                                        repeat' split at ih
                                        all_goals first | (exfalso; grind [dnB]) | (refine EV_ls ?_ ih; repeat (first | exact lsub_0 | refine lsub_n ?_ | refine lsub_s ?_))
                                · try first | contradiction | omega
                                  all_goals
                                    refine e_goto (tgt := 169) dX11_down_132 (by decide) ?_
                                    first | refine n_inc dX11_down_169 rfl (Nat.le_of_ble_eq_true rfl) rfl ?_ | refine e_iinc dX11_down_169 rfl rfl (Nat.le_of_ble_eq_true rfl) rfl ?_
                                    refine e_goto (tgt := 37) dX11_down_172 (by decide) ?_
                                    repeat' split at ih
                                    all_goals first | (exfalso; grind [dnB]) | (refine EV_ls ?_ ih; repeat (first | exact lsub_0 | refine lsub_n ?_ | refine lsub_s ?_))
                            · try first | contradiction | omega | (simp only [decide_eq_true_eq, decide_eq_false_iff_not] at h104; omega)
                              all_goals
                                refine e_aload_n dX11_down_107 rfl rfl ?_
                                refine e_getR dX11_down_108 fl_X11_7 rfl (by assumption) ?_
                                refine e_iload dX11_down_111 rfl ?_
                                refine e_bipush (v := nI 6) dX11_down_113 rfl ?_
                                first | ((with_reducible refine mk_nn ?_); refine n_iadd dX11_down_115 ?_) | refine e_iadd dX11_down_115 ?_
                                refine e_iconst (v := nI 0) dX11_down_116 rfl ?_
                                first | ((with_reducible refine mk_stw ?_); refine e_stw dX11_down_117 (by omega) ?_) | refine e_iast _ dX11_down_117 ⟨by decide, by decide⟩ rfl rfl (by simp only [lenK]; omega) ?_
                                refine e_aload_n dX11_down_118 rfl rfl ?_
                                refine e_getR dX11_down_119 fl_X11_7 rfl (by assumption) ?_
                                refine e_iload dX11_down_122 rfl ?_
                                refine e_bipush (v := nI 7) dX11_down_124 rfl ?_
                                first | ((with_reducible refine mk_nn ?_); refine n_iadd dX11_down_126 ?_) | refine e_iadd dX11_down_126 ?_
                                first | ((with_reducible refine mk_ldw ?_); refine e_ldw dX11_down_127 (by omega) ?_) | refine e_iald _ dX11_down_127 ⟨by decide, by decide⟩ rfl rfl (by simp only [lenK]; omega) ?_
                                simp (disch := omega) only [upN_n, s7]
                                refine e_iconst (v := nI 1) dX11_down_128 rfl ?_
                                first | ((with_reducible refine mk_mo ?_); refine p_icmp_ne (tgt := 135) dX11_down_129 (by decide) (fun h129 => ?_) (fun h129 => ?_)) | ((with_reducible refine mk_ms ?_); refine s_icmp_ne (tgt := 135) dX11_down_129 (by decide) (by omega) (fun h129 => ?_) (fun h129 => ?_)) | ((with_reducible refine mk_mn ?_); refine q_icmp_ne (tgt := 135) dX11_down_129 (by decide) (by omega) (fun h129 => ?_) (fun h129 => ?_)) | ((with_reducible refine mk_nn ?_); refine n_icmp_ne (tgt := 135) dX11_down_129 (by decide) (by omega) (by omega) (fun h129 => ?_) (fun h129 => ?_)) | refine e_icmp_ne (tgt := 135) dX11_down_129 (by decide) (fun h129 => ?_) (fun h129 => ?_)
                                · try first | contradiction | omega
                                  all_goals
                                    refine e_aload_n dX11_down_135 rfl rfl ?_
                                    refine e_getR dX11_down_136 fl_X11_7 rfl (by assumption) ?_
                                    refine e_iload dX11_down_139 rfl ?_
                                    refine e_bipush (v := nI 7) dX11_down_141 rfl ?_
                                    first | ((with_reducible refine mk_nn ?_); refine n_iadd dX11_down_143 ?_) | refine e_iadd dX11_down_143 ?_
                                    refine e_iconst (v := nI 1) dX11_down_144 rfl ?_
                                    first | ((with_reducible refine mk_stw ?_); refine e_stw dX11_down_145 (by omega) ?_) | refine e_iast _ dX11_down_145 ⟨by decide, by decide⟩ rfl rfl (by simp only [lenK]; omega) ?_
                                    refine e_aload_n dX11_down_146 rfl rfl ?_
                                    refine e_getR dX11_down_147 fl_X11_7 rfl (by assumption) ?_
                                    refine e_iload dX11_down_150 rfl ?_
                                    refine e_bipush (v := nI 8) dX11_down_152 rfl ?_
                                    first | ((with_reducible refine mk_nn ?_); refine n_iadd dX11_down_154 ?_) | refine e_iadd dX11_down_154 ?_
                                    refine e_iload dX11_down_155 rfl ?_
                                    first | ((with_reducible refine mk_b ?_); refine b_if_eq (tgt := 164) dX11_down_157 (by decide) (fun h157 => ?_) (fun h157 => ?_)) | ((with_reducible refine mk_ll ?_); refine m_if_eq (tgt := 164) dX11_down_157 (by decide) (by omega) (by omega) (fun h157 => ?_) (fun h157 => ?_)) | ((with_reducible refine mk_lc ?_); refine l_if_eq (tgt := 164) dX11_down_157 (by decide) (fun h157 => ?_) (fun h157 => ?_)) | ((with_reducible refine mk_n ?_); refine n_if_eq (tgt := 164) dX11_down_157 (by decide) (by omega) (fun h157 => ?_) (fun h157 => ?_)) | refine e_if_eq (tgt := 164) dX11_down_157 (by decide) (fun h157 => ?_) (fun h157 => ?_)
                                    · try first | contradiction | omega | (simp only [decide_eq_true_eq, decide_eq_false_iff_not] at h157; omega)
                                      all_goals
                                        refine e_iconst (v := nI 2) dX11_down_164 rfl ?_
                                        first | ((with_reducible refine mk_stw ?_); refine e_stw dX11_down_165 (by omega) ?_) | refine e_iast _ dX11_down_165 ⟨by decide, by decide⟩ rfl rfl (by simp only [lenK]; omega) ?_
                                        first | refine n_inc dX11_down_166 rfl (Nat.le_of_ble_eq_true rfl) rfl ?_ | refine e_iinc dX11_down_166 rfl rfl (Nat.le_of_ble_eq_true rfl) rfl ?_
                                        first | refine n_inc dX11_down_169 rfl (Nat.le_of_ble_eq_true rfl) rfl ?_ | refine e_iinc dX11_down_169 rfl rfl (Nat.le_of_ble_eq_true rfl) rfl ?_
                                        refine e_goto (tgt := 37) dX11_down_172 (by decide) ?_
                                        repeat' split at ih
                                        all_goals first | (exfalso; grind [dnB]) | (refine EV_ls ?_ ih; repeat (first | exact lsub_0 | refine lsub_n ?_ | refine lsub_s ?_))
                                    · try first | contradiction | omega | (simp only [decide_eq_true_eq, decide_eq_false_iff_not] at h157; omega)
                                      all_goals
                                        refine e_iconst (v := nI 1) dX11_down_160 rfl ?_
                                        refine e_goto (tgt := 165) dX11_down_161 (by decide) ?_
                                        first | ((with_reducible refine mk_stw ?_); refine e_stw dX11_down_165 (by omega) ?_) | refine e_iast _ dX11_down_165 ⟨by decide, by decide⟩ rfl rfl (by simp only [lenK]; omega) ?_
                                        first | refine n_inc dX11_down_166 rfl (Nat.le_of_ble_eq_true rfl) rfl ?_ | refine e_iinc dX11_down_166 rfl rfl (Nat.le_of_ble_eq_true rfl) rfl ?_
                                        first | refine n_inc dX11_down_169 rfl (Nat.le_of_ble_eq_true rfl) rfl ?_ | refine e_iinc dX11_down_169 rfl rfl (Nat.le_of_ble_eq_true rfl) rfl ?_
                                        refine e_goto (tgt := 37) dX11_down_172 (by decide) ?_
                                        repeat' split at ih
                                        all_goals first | (exfalso; grind [dnB]) | (refine EV_ls ?_ ih; repeat (first | exact lsub_0 | refine lsub_n ?_ | refine lsub_s ?_))
                                · try first | contradiction | omega
                                  all_goals
                                    refine e_goto (tgt := 169) dX11_down_132 (by decide) ?_
                                    first | refine n_inc dX11_down_169 rfl (Nat.le_of_ble_eq_true rfl) rfl ?_ | refine e_iinc dX11_down_169 rfl rfl (Nat.le_of_ble_eq_true rfl) rfl ?_
                                    refine e_goto (tgt := 37) dX11_down_172 (by decide) ?_
                                    repeat' split at ih
                                    all_goals first | (exfalso; grind [dnB]) | (refine EV_ls ?_ ih; repeat (first | exact lsub_0 | refine lsub_n ?_ | refine lsub_s ?_))
                        · try first | contradiction | omega
                          all_goals
                            refine e_goto (tgt := 169) dX11_down_99 (by decide) ?_
                            first | refine n_inc dX11_down_169 rfl (Nat.le_of_ble_eq_true rfl) rfl ?_ | refine e_iinc dX11_down_169 rfl rfl (Nat.le_of_ble_eq_true rfl) rfl ?_
                            refine e_goto (tgt := 37) dX11_down_172 (by decide) ?_
                            repeat' split at ih
                            all_goals first | (exfalso; grind [dnB]) | (refine EV_ls ?_ ih; repeat (first | exact lsub_0 | refine lsub_n ?_ | refine lsub_s ?_))
        ) (by
        have r3 : dnF w a (w 3) 3 = w 3 := dnF_fr (by omega) _ (fun m hm => by omega)
        refine e_iload_n dX11_down_37 rfl rfl ?_
        refine e_aload_n dX11_down_38 rfl rfl ?_
        refine e_getR dX11_down_39 fl_X11_7 rfl (by assumption) ?_
        refine e_iconst (v := nI 3) dX11_down_42 rfl ?_
        first | ((with_reducible refine mk_ldw ?_); refine e_ldw dX11_down_43 (by omega) ?_) | refine e_iald _ dX11_down_43 ⟨by decide, by decide⟩ rfl rfl (by simp only [lenK]; omega) ?_
        rw [r3]
        first | ((with_reducible refine mk_nn ?_); refine n_icmp_ge (tgt := 175) dX11_down_44 (by decide) (by omega) (by omega) (fun h44 => ?_) (fun h44 => ?_)) | refine e_icmp_ge (tgt := 175) dX11_down_44 (by decide) (fun h44 => ?_) (fun h44 => ?_)
        · try first | contradiction | omega
          all_goals
            refine e_iload_n dX11_down_175 rfl rfl ?_
            refine e_ret (some _) rfl (r_int dX11_down_176 rfl) ?_
            exact xq rfl rfl rfl rfl rfl rfl
        · try first | contradiction | omega
          all_goals
            contradiction
        )
      refine e_iload_n dX11_down_0 rfl rfl ?_
      refine x_S1 (M' := mX11_isServer) dX11_down_1 ml_X11_161 ok_X11_isServer rfl sc_X11_isServer (ct_X11_isServer _) (Nat.le_of_ble_eq_true rfl) (by decide) (Nat.le_of_ble_eq_true rfl) ?_
      rw [hx]
      first | ((with_reducible refine mk_b ?_); refine b_if_eq (tgt := 18) dX11_down_4 (by decide) (fun h4 => ?_) (fun h4 => ?_)) | ((with_reducible refine mk_ll ?_); refine m_if_eq (tgt := 18) dX11_down_4 (by decide) (by omega) (by omega) (fun h4 => ?_) (fun h4 => ?_)) | ((with_reducible refine mk_lc ?_); refine l_if_eq (tgt := 18) dX11_down_4 (by decide) (fun h4 => ?_) (fun h4 => ?_)) | ((with_reducible refine mk_n ?_); refine n_if_eq (tgt := 18) dX11_down_4 (by decide) (by omega) (fun h4 => ?_) (fun h4 => ?_)) | refine e_if_eq (tgt := 18) dX11_down_4 (by decide) (fun h4 => ?_) (fun h4 => ?_)
      · try first | contradiction | omega | (simp only [decide_eq_true_eq, decide_eq_false_iff_not] at h4; omega)
        all_goals
          contradiction
      · try first | contradiction | omega | (simp only [decide_eq_true_eq, decide_eq_false_iff_not] at h4; omega)
        all_goals
          refine e_aload_n dX11_down_7 rfl rfl ?_
          refine e_getR dX11_down_8 fl_X11_7 rfl (by assumption) ?_
          refine e_iconst (v := nI 4) dX11_down_11 rfl ?_
          refine e_iload_n dX11_down_12 rfl rfl ?_
          first | ((with_reducible refine mk_nn ?_); refine n_iadd dX11_down_13 ?_) | refine e_iadd dX11_down_13 ?_
          first | ((with_reducible refine mk_ldw ?_); refine e_ldw dX11_down_14 (by omega) ?_) | refine e_iald _ dX11_down_14 ⟨by decide, by decide⟩ rfl rfl (by simp only [lenK]; omega) ?_
          first | ((with_reducible refine mk_b ?_); refine b_if_ne (tgt := 20) dX11_down_15 (by decide) (fun h15 => ?_) (fun h15 => ?_)) | ((with_reducible refine mk_ll ?_); refine m_if_ne (tgt := 20) dX11_down_15 (by decide) (by omega) (by omega) (fun h15 => ?_) (fun h15 => ?_)) | ((with_reducible refine mk_lc ?_); refine l_if_ne (tgt := 20) dX11_down_15 (by decide) (fun h15 => ?_) (fun h15 => ?_)) | ((with_reducible refine mk_n ?_); refine n_if_ne (tgt := 20) dX11_down_15 (by decide) (by omega) (fun h15 => ?_) (fun h15 => ?_)) | refine e_if_ne (tgt := 20) dX11_down_15 (by decide) (fun h15 => ?_) (fun h15 => ?_)
          · try first | contradiction | omega | (simp only [decide_eq_true_eq, decide_eq_false_iff_not] at h15; omega)
            all_goals
              refine e_aload_n dX11_down_20 rfl rfl ?_
              refine y_V0 (M' := mX11_forgets) dX11_down_21 ml_X11_124 ok_X11_forgets (by decide) rfl im_X11_forgets se_X11_forgets (ct_X11_forgets ‹_› (by assumption)) (Nat.le_of_ble_eq_true rfl) (by decide) (Nat.le_of_ble_eq_true rfl) ?_
              refine e_aload_n dX11_down_24 rfl rfl ?_
              refine e_getR dX11_down_25 fl_X11_7 rfl (by assumption) ?_
              refine e_iconst (v := nI 4) dX11_down_28 rfl ?_
              refine e_iload_n dX11_down_29 rfl rfl ?_
              first | ((with_reducible refine mk_nn ?_); refine n_iadd dX11_down_30 ?_) | refine e_iadd dX11_down_30 ?_
              refine e_iconst (v := nI 0) dX11_down_31 rfl ?_
              first | ((with_reducible refine mk_stw ?_); refine e_stw dX11_down_32 (by omega) ?_) | refine e_iast _ dX11_down_32 ⟨by decide, by decide⟩ rfl rfl (by simp only [lenK]; omega) ?_
              refine e_iconst (v := nI 0) dX11_down_33 rfl ?_
              refine e_istore_n dX11_down_34 rfl (Nat.le_of_ble_eq_true rfl) rfl ?_
              refine e_iconst (v := nI 0) dX11_down_35 rfl ?_
              refine e_istore_n dX11_down_36 rfl (Nat.le_of_ble_eq_true rfl) rfl ?_
              exact key 0 (by omega)
          · try first | contradiction | omega | (simp only [decide_eq_true_eq, decide_eq_false_iff_not] at h15; omega)
            all_goals
              contradiction
