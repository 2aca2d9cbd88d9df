theorem cpA_z {u g : Nat → Int32} {j : Nat} {v : Int32} (h : v = g j) : upd (cpA u g 0 j) j v = cpA u g 0 (j + 1) := by
  have := cpA_v (u := u) (g := g) (lo := 0) (j := j) (v := v) (by rw [Nat.zero_add]; exact h)
  rw [Nat.zero_add] at this
  exact this
theorem ct_image1 {fi : FI} {fr : FR} {ai : FI} {ar : FR} {N : Nat} {w : Nat → Nat} (sm : SM fr) : CP mX11_image 0 0 0 [.ref (rf 11 80), .int (nI 1)] fi fr (mW ai w) ar N (xQ (some (.int (nI 1))) (up2 fi (32 * 11 + 5) (rf 11 80) (nI 1)) fr (mW (sA (sA ai (rf 32 83) (cpA (ai (rf 32 83)) (fun i => nI (w i)) 0 8597)) (rf 34 86) (cpA (ai (rf 34 86)) (ai (rf 34 85)) 0 12000)) w) ar N) := by
  obtain ⟨sW, sA0, sK, sU, sC, sKC, sT, sCl⟩ := id sm
  change EV mX11_image 0 0 0 0 [some (.ref (rf 11 80)), some (.int (nI 1)), none] [] fi fr (mW ai w) ar N (xQ (some (.int (nI 1))) (up2 fi (32 * 11 + 5) (rf 11 80) (nI 1)) fr (mW (sA (sA ai (rf 32 83) (cpA (ai (rf 32 83)) (fun i => nI (w i)) 0 8597)) (rf 34 86) (cpA (ai (rf 34 86)) (ai (rf 34 85)) 0 12000)) w) ar N)
  have k2 := ev_up (P := fun j => EV mX11_image 0 0 0 61 [some (.ref (rf 11 80)), some (.int (nI 1)), some (.int (nI j))] [] fi fr (mW (sA (sA ai (rf 32 83) (cpA (ai (rf 32 83)) (fun i => nI (w i)) 0 8597)) (rf 34 86) (cpA (ai (rf 34 86)) (ai (rf 34 85)) 0 j)) w) ar N (xQ (some (.int (nI 1))) (up2 fi (32 * 11 + 5) (rf 11 80) (nI 1)) fr (mW (sA (sA ai (rf 32 83) (cpA (ai (rf 32 83)) (fun i => nI (w i)) 0 8597)) (rf 34 86) (cpA (ai (rf 34 86)) (ai (rf 34 85)) 0 12000)) w) ar N)) 12000 (fun j hj ih => by
    refine e_iload_n dX11_image_61 rfl rfl ?_
    refine e_sipush (v := nI 12000) dX11_image_62 rfl ?_
    first | ((with_reducible refine mk_nn ?_); refine n_icmp_ge (tgt := 105) dX11_image_65 (by decide) (by omega) (by omega) (fun h65 => ?_) (fun h65 => ?_)) | refine e_icmp_ge (tgt := 105) dX11_image_65 (by decide) (fun h65 => ?_) (fun h65 => ?_)
    · try first | contradiction | omega
      all_goals
        contradiction
    · try first | contradiction | omega
      all_goals
        refine e_iload_n dX11_image_68 rfl rfl ?_
        first | ((with_reducible refine mk_b ?_); refine b_if_eq (tgt := 87) dX11_image_69 (by decide) (fun h69 => ?_) (fun h69 => ?_)) | ((with_reducible refine mk_ll ?_); refine m_if_eq (tgt := 87) dX11_image_69 (by decide) (by omega) (by omega) (fun h69 => ?_) (fun h69 => ?_)) | ((with_reducible refine mk_lc ?_); refine l_if_eq (tgt := 87) dX11_image_69 (by decide) (fun h69 => ?_) (fun h69 => ?_)) | ((with_reducible refine mk_n ?_); refine n_if_eq (tgt := 87) dX11_image_69 (by decide) (by omega) (fun h69 => ?_) (fun h69 => ?_)) | refine e_if_eq (tgt := 87) dX11_image_69 (by decide) (fun h69 => ?_) (fun h69 => ?_)
        · try first | contradiction | omega | (simp only [decide_eq_true_eq, decide_eq_false_iff_not] at h69; omega)
          all_goals
            contradiction
        · try first | contradiction | omega | (simp only [decide_eq_true_eq, decide_eq_false_iff_not] at h69; omega)
          all_goals
            refine e_aload_n dX11_image_72 rfl rfl ?_
            refine e_getR dX11_image_73 fl_X11_26 rfl (by assumption) ?_
            refine e_iload_n dX11_image_76 rfl rfl ?_
            refine e_aload_n dX11_image_77 rfl rfl ?_
            refine e_getR dX11_image_78 fl_X11_23 rfl (by assumption) ?_
            refine e_iload_n dX11_image_81 rfl rfl ?_
            first | ((with_reducible refine mk_ldw ?_); refine e_ldw dX11_image_82 (by omega) ?_) | refine e_iald _ dX11_image_82 ⟨by decide, by decide⟩ rfl rfl (by simp only [lenK]; omega) ?_
            first | ((with_reducible refine mk_stw ?_); refine e_stw dX11_image_83 (by omega) ?_) | refine e_iast _ dX11_image_83 ⟨by decide, by decide⟩ rfl rfl (by simp only [lenK]; omega) ?_
            refine e_goto (tgt := 99) dX11_image_84 (by decide) ?_
            first | refine n_inc dX11_image_99 rfl (Nat.le_of_ble_eq_true rfl) rfl ?_ | refine e_iinc dX11_image_99 rfl rfl (Nat.le_of_ble_eq_true rfl) rfl ?_
            refine e_goto (tgt := 61) dX11_image_102 (by decide) ?_
            rw [mW_up (by decide), sA_up, cpA_z (by rw [mW_o (by decide), sA_o (by decide), sA_o (by decide)])]
            exact ih
    ) (by
    refine e_iload_n dX11_image_61 rfl rfl ?_
    refine e_sipush (v := nI 12000) dX11_image_62 rfl ?_
    first | ((with_reducible refine mk_nn ?_); refine n_icmp_ge (tgt := 105) dX11_image_65 (by decide) (by omega) (by omega) (fun h65 => ?_) (fun h65 => ?_)) | refine e_icmp_ge (tgt := 105) dX11_image_65 (by decide) (fun h65 => ?_) (fun h65 => ?_)
    · try first | contradiction | omega
      all_goals
        refine e_iload_n dX11_image_105 rfl rfl ?_
        first | ((with_reducible refine mk_b ?_); refine b_if_ne (tgt := 114) dX11_image_106 (by decide) (fun h106 => ?_) (fun h106 => ?_)) | ((with_reducible refine mk_ll ?_); refine m_if_ne (tgt := 114) dX11_image_106 (by decide) (by omega) (by omega) (fun h106 => ?_) (fun h106 => ?_)) | ((with_reducible refine mk_lc ?_); refine l_if_ne (tgt := 114) dX11_image_106 (by decide) (fun h106 => ?_) (fun h106 => ?_)) | ((with_reducible refine mk_n ?_); refine n_if_ne (tgt := 114) dX11_image_106 (by decide) (by omega) (fun h106 => ?_) (fun h106 => ?_)) | refine e_if_ne (tgt := 114) dX11_image_106 (by decide) (fun h106 => ?_) (fun h106 => ?_)
        · try first | contradiction | omega | (simp only [decide_eq_true_eq, decide_eq_false_iff_not] at h106; omega)
          all_goals
            refine e_aload_n dX11_image_114 rfl rfl ?_
            refine e_iconst (v := nI 1) dX11_image_115 rfl ?_
            refine e_putI dX11_image_116 fl_X11_403 rfl rfl rfl rfl ?_
            refine e_iconst (v := nI 1) dX11_image_119 rfl ?_
            first | ((with_reducible refine mk_b ?_); refine e_ret (some _) rfl (r_bool dX11_image_120 rfl) ?_) | ((with_reducible refine mk_n1 ?_); refine e_ret (some _) rfl (r_b1 dX11_image_120 rfl) ?_) | ((with_reducible refine mk_n0 ?_); refine e_ret (some _) rfl (r_b0 dX11_image_120 rfl) ?_)
            exact xq rfl rfl rfl rfl rfl rfl
        · try first | contradiction | omega | (simp only [decide_eq_true_eq, decide_eq_false_iff_not] at h106; omega)
          all_goals
            contradiction
    · try first | contradiction | omega
      all_goals
        contradiction
    )
  have k1 := ev_up (P := fun j => EV mX11_image 0 0 0 15 [some (.ref (rf 11 80)), some (.int (nI 1)), some (.int (nI j))] [] fi fr (mW (sA ai (rf 32 83) (cpA (ai (rf 32 83)) (fun i => nI (w i)) 0 j)) w) ar N (xQ (some (.int (nI 1))) (up2 fi (32 * 11 + 5) (rf 11 80) (nI 1)) fr (mW (sA (sA ai (rf 32 83) (cpA (ai (rf 32 83)) (fun i => nI (w i)) 0 8597)) (rf 34 86) (cpA (ai (rf 34 86)) (ai (rf 34 85)) 0 12000)) w) ar N)) 8597 (fun j hj ih => by
    refine e_iload_n dX11_image_15 rfl rfl ?_
    refine e_sipush (v := nI 8597) dX11_image_16 rfl ?_
    first | ((with_reducible refine mk_nn ?_); refine n_icmp_ge (tgt := 59) dX11_image_19 (by decide) (by omega) (by omega) (fun h19 => ?_) (fun h19 => ?_)) | refine e_icmp_ge (tgt := 59) dX11_image_19 (by decide) (fun h19 => ?_) (fun h19 => ?_)
    · try first | contradiction | omega
      all_goals
        contradiction
    · try first | contradiction | omega
      all_goals
        refine e_iload_n dX11_image_22 rfl rfl ?_
        first | ((with_reducible refine mk_b ?_); refine b_if_eq (tgt := 41) dX11_image_23 (by decide) (fun h23 => ?_) (fun h23 => ?_)) | ((with_reducible refine mk_ll ?_); refine m_if_eq (tgt := 41) dX11_image_23 (by decide) (by omega) (by omega) (fun h23 => ?_) (fun h23 => ?_)) | ((with_reducible refine mk_lc ?_); refine l_if_eq (tgt := 41) dX11_image_23 (by decide) (fun h23 => ?_) (fun h23 => ?_)) | ((with_reducible refine mk_n ?_); refine n_if_eq (tgt := 41) dX11_image_23 (by decide) (by omega) (fun h23 => ?_) (fun h23 => ?_)) | refine e_if_eq (tgt := 41) dX11_image_23 (by decide) (fun h23 => ?_) (fun h23 => ?_)
        · try first | contradiction | omega | (simp only [decide_eq_true_eq, decide_eq_false_iff_not] at h23; omega)
          all_goals
            contradiction
        · try first | contradiction | omega | (simp only [decide_eq_true_eq, decide_eq_false_iff_not] at h23; omega)
          all_goals
            refine e_aload_n dX11_image_26 rfl rfl ?_
            refine e_getR dX11_image_27 fl_X11_16 rfl (by assumption) ?_
            refine e_iload_n dX11_image_30 rfl rfl ?_
            refine e_aload_n dX11_image_31 rfl rfl ?_
            refine e_getR dX11_image_32 fl_X11_7 rfl (by assumption) ?_
            refine e_iload_n dX11_image_35 rfl rfl ?_
            first | ((with_reducible refine mk_ldw ?_); refine e_ldw dX11_image_36 (by omega) ?_) | refine e_iald _ dX11_image_36 ⟨by decide, by decide⟩ rfl rfl (by simp only [lenK]; omega) ?_
            first | ((with_reducible refine mk_stw ?_); refine e_stw dX11_image_37 (by omega) ?_) | refine e_iast _ dX11_image_37 ⟨by decide, by decide⟩ rfl rfl (by simp only [lenK]; omega) ?_
            refine e_goto (tgt := 53) dX11_image_38 (by decide) ?_
            first | refine n_inc dX11_image_53 rfl (Nat.le_of_ble_eq_true rfl) rfl ?_ | refine e_iinc dX11_image_53 rfl rfl (Nat.le_of_ble_eq_true rfl) rfl ?_
            refine e_goto (tgt := 15) dX11_image_56 (by decide) ?_
            rw [mW_up (by decide), sA_up, cpA_z rfl]
            exact ih
    ) (by
    have kk := k2 0 (by omega)
    have e : sA (sA ai (rf 32 83) (cpA (ai (rf 32 83)) (fun i => nI (w i)) 0 8597)) (rf 34 86) (cpA (ai (rf 34 86)) (ai (rf 34 85)) 0 0) = (sA ai (rf 32 83) (cpA (ai (rf 32 83)) (fun i => nI (w i)) 0 8597)) := by rw [cpA_0]; have : (sA ai (rf 32 83) (cpA (ai (rf 32 83)) (fun i => nI (w i)) 0 8597)) (rf 34 86) = ai (rf 34 86) := sA_o (by decide); rw [← this]; exact sA_self _ _
    rw [e] at kk
    refine e_iload_n dX11_image_15 rfl rfl ?_
    refine e_sipush (v := nI 8597) dX11_image_16 rfl ?_
    first | ((with_reducible refine mk_nn ?_); refine n_icmp_ge (tgt := 59) dX11_image_19 (by decide) (by omega) (by omega) (fun h19 => ?_) (fun h19 => ?_)) | refine e_icmp_ge (tgt := 59) dX11_image_19 (by decide) (fun h19 => ?_) (fun h19 => ?_)
    · try first | contradiction | omega
      all_goals
        refine e_iconst (v := nI 0) dX11_image_59 rfl ?_
        refine e_istore_n dX11_image_60 rfl (Nat.le_of_ble_eq_true rfl) rfl ?_
        exact kk
    · try first | contradiction | omega
      all_goals
        contradiction
    )
  have kk := k1 0 (by omega)
  rw [cpA_0, sA_self] at kk
  refine e_iload_n dX11_image_0 rfl rfl ?_
  first | ((with_reducible refine mk_b ?_); refine b_if_ne (tgt := 13) dX11_image_1 (by decide) (fun h1 => ?_) (fun h1 => ?_)) | ((with_reducible refine mk_ll ?_); refine m_if_ne (tgt := 13) dX11_image_1 (by decide) (by omega) (by omega) (fun h1 => ?_) (fun h1 => ?_)) | ((with_reducible refine mk_lc ?_); refine l_if_ne (tgt := 13) dX11_image_1 (by decide) (fun h1 => ?_) (fun h1 => ?_)) | ((with_reducible refine mk_n ?_); refine n_if_ne (tgt := 13) dX11_image_1 (by decide) (by omega) (fun h1 => ?_) (fun h1 => ?_)) | refine e_if_ne (tgt := 13) dX11_image_1 (by decide) (fun h1 => ?_) (fun h1 => ?_)
  · try first | contradiction | omega | (simp only [decide_eq_true_eq, decide_eq_false_iff_not] at h1; omega)
    all_goals
      refine e_iconst (v := nI 0) dX11_image_13 rfl ?_
      refine e_istore_n dX11_image_14 rfl (Nat.le_of_ble_eq_true rfl) rfl ?_
      exact kk
  · try first | contradiction | omega | (simp only [decide_eq_true_eq, decide_eq_false_iff_not] at h1; omega)
    all_goals
      contradiction
theorem ct_image00 {fi : FI} {fr : FR} {ai : FI} {ar : FR} {N : Nat} {w : Nat → Nat} (sm : SM fr) (hh : fi (32 * 11 + 5) (rf 11 80) = nI 0) : CP mX11_image 0 0 0 [.ref (rf 11 80), .int (nI 0)] fi fr (mW ai w) ar N (xQ (some (.int (nI 0))) fi fr (mW ai w) ar N) := by
  obtain ⟨sW, sA0, sK, sU, sC, sKC, sT, sCl⟩ := id sm
  change EV mX11_image 0 0 0 0 [some (.ref (rf 11 80)), some (.int (nI 0)), none] [] fi fr (mW ai w) ar N (xQ (some (.int (nI 0))) fi fr (mW ai w) ar N)
  refine e_iload_n dX11_image_0 rfl rfl ?_
  first | ((with_reducible refine mk_b ?_); refine b_if_ne (tgt := 13) dX11_image_1 (by decide) (fun h1 => ?_) (fun h1 => ?_)) | ((with_reducible refine mk_ll ?_); refine m_if_ne (tgt := 13) dX11_image_1 (by decide) (by omega) (by omega) (fun h1 => ?_) (fun h1 => ?_)) | ((with_reducible refine mk_lc ?_); refine l_if_ne (tgt := 13) dX11_image_1 (by decide) (fun h1 => ?_) (fun h1 => ?_)) | ((with_reducible refine mk_n ?_); refine n_if_ne (tgt := 13) dX11_image_1 (by decide) (by omega) (fun h1 => ?_) (fun h1 => ?_)) | refine e_if_ne (tgt := 13) dX11_image_1 (by decide) (fun h1 => ?_) (fun h1 => ?_)
  · try first | contradiction | omega | (simp only [decide_eq_true_eq, decide_eq_false_iff_not] at h1; omega)
    all_goals
      contradiction
  · try first | contradiction | omega | (simp only [decide_eq_true_eq, decide_eq_false_iff_not] at h1; omega)
    all_goals
      refine e_aload_n dX11_image_4 rfl rfl ?_
      refine e_getI dX11_image_5 fl_X11_403 rfl ?_
      rw [hh]
      first | ((with_reducible refine mk_b ?_); refine b_if_ne (tgt := 13) dX11_image_8 (by decide) (fun h8 => ?_) (fun h8 => ?_)) | ((with_reducible refine mk_ll ?_); refine m_if_ne (tgt := 13) dX11_image_8 (by decide) (by omega) (by omega) (fun h8 => ?_) (fun h8 => ?_)) | ((with_reducible refine mk_lc ?_); refine l_if_ne (tgt := 13) dX11_image_8 (by decide) (fun h8 => ?_) (fun h8 => ?_)) | ((with_reducible refine mk_n ?_); refine n_if_ne (tgt := 13) dX11_image_8 (by decide) (by omega) (fun h8 => ?_) (fun h8 => ?_)) | refine e_if_ne (tgt := 13) dX11_image_8 (by decide) (fun h8 => ?_) (fun h8 => ?_)
      · try first | contradiction | omega | (simp only [decide_eq_true_eq, decide_eq_false_iff_not] at h8; omega)
        all_goals
          contradiction
      · try first | contradiction | omega | (simp only [decide_eq_true_eq, decide_eq_false_iff_not] at h8; omega)
        all_goals
          refine e_iconst (v := nI 0) dX11_image_11 rfl ?_
          first | ((with_reducible refine mk_b ?_); refine e_ret (some _) rfl (r_bool dX11_image_12 rfl) ?_) | ((with_reducible refine mk_n1 ?_); refine e_ret (some _) rfl (r_b1 dX11_image_12 rfl) ?_) | ((with_reducible refine mk_n0 ?_); refine e_ret (some _) rfl (r_b0 dX11_image_12 rfl) ?_)
          exact xq rfl rfl rfl rfl rfl rfl
theorem ct_image01 {fi : FI} {fr : FR} {ai : FI} {ar : FR} {N : Nat} {w : Nat → Nat} (sm : SM fr) (hh : fi (32 * 11 + 5) (rf 11 80) = nI 1) {v : Nat → Nat} (hv : ∀ k, k < 8597 → ai (rf 32 83) k = nI (v k)) : CP mX11_image 0 0 0 [.ref (rf 11 80), .int (nI 0)] fi fr (mW ai w) ar N (xQ (some (.int (nI 1))) (up2 (up2 fi (32 * 11 + 4) (rf 11 80) (nI 0)) (32 * 11 + 5) (rf 11 80) (nI 1)) fr (mW (sA ai (rf 34 85) (cpA (ai (rf 34 85)) (ai (rf 34 86)) 0 12000)) (ovF w v 8597)) ar N) := by
  obtain ⟨sW, sA0, sK, sU, sC, sKC, sT, sCl⟩ := id sm
  change EV mX11_image 0 0 0 0 [some (.ref (rf 11 80)), some (.int (nI 0)), none] [] fi fr (mW ai w) ar N (xQ (some (.int (nI 1))) (up2 (up2 fi (32 * 11 + 4) (rf 11 80) (nI 0)) (32 * 11 + 5) (rf 11 80) (nI 1)) fr (mW (sA ai (rf 34 85) (cpA (ai (rf 34 85)) (ai (rf 34 86)) 0 12000)) (ovF w v 8597)) ar N)
  have k2 := ev_up (P := fun j => EV mX11_image 0 0 0 61 [some (.ref (rf 11 80)), some (.int (nI 0)), some (.int (nI j))] [] fi fr (mW (sA ai (rf 34 85) (cpA (ai (rf 34 85)) (ai (rf 34 86)) 0 j)) (ovF w v 8597)) ar N (xQ (some (.int (nI 1))) (up2 (up2 fi (32 * 11 + 4) (rf 11 80) (nI 0)) (32 * 11 + 5) (rf 11 80) (nI 1)) fr (mW (sA ai (rf 34 85) (cpA (ai (rf 34 85)) (ai (rf 34 86)) 0 12000)) (ovF w v 8597)) ar N)) 12000 (fun j hj ih => by
    refine e_iload_n dX11_image_61 rfl rfl ?_
    refine e_sipush (v := nI 12000) dX11_image_62 rfl ?_
    first | ((with_reducible refine mk_nn ?_); refine n_icmp_ge (tgt := 105) dX11_image_65 (by decide) (by omega) (by omega) (fun h65 => ?_) (fun h65 => ?_)) | refine e_icmp_ge (tgt := 105) dX11_image_65 (by decide) (fun h65 => ?_) (fun h65 => ?_)
    · try first | contradiction | omega
      all_goals
        contradiction
    · try first | contradiction | omega
      all_goals
        refine e_iload_n dX11_image_68 rfl rfl ?_
        first | ((with_reducible refine mk_b ?_); refine b_if_eq (tgt := 87) dX11_image_69 (by decide) (fun h69 => ?_) (fun h69 => ?_)) | ((with_reducible refine mk_ll ?_); refine m_if_eq (tgt := 87) dX11_image_69 (by decide) (by omega) (by omega) (fun h69 => ?_) (fun h69 => ?_)) | ((with_reducible refine mk_lc ?_); refine l_if_eq (tgt := 87) dX11_image_69 (by decide) (fun h69 => ?_) (fun h69 => ?_)) | ((with_reducible refine mk_n ?_); refine n_if_eq (tgt := 87) dX11_image_69 (by decide) (by omega) (fun h69 => ?_) (fun h69 => ?_)) | refine e_if_eq (tgt := 87) dX11_image_69 (by decide) (fun h69 => ?_) (fun h69 => ?_)
        · try first | contradiction | omega | (simp only [decide_eq_true_eq, decide_eq_false_iff_not] at h69; omega)
          all_goals
            refine e_aload_n dX11_image_87 rfl rfl ?_
            refine e_getR dX11_image_88 fl_X11_23 rfl (by assumption) ?_
            refine e_iload_n dX11_image_91 rfl rfl ?_
            refine e_aload_n dX11_image_92 rfl rfl ?_
            refine e_getR dX11_image_93 fl_X11_26 rfl (by assumption) ?_
            refine e_iload_n dX11_image_96 rfl rfl ?_
            first | ((with_reducible refine mk_ldw ?_); refine e_ldw dX11_image_97 (by omega) ?_) | refine e_iald _ dX11_image_97 ⟨by decide, by decide⟩ rfl rfl (by simp only [lenK]; omega) ?_
            first | ((with_reducible refine mk_stw ?_); refine e_stw dX11_image_98 (by omega) ?_) | refine e_iast _ dX11_image_98 ⟨by decide, by decide⟩ rfl rfl (by simp only [lenK]; omega) ?_
            first | refine n_inc dX11_image_99 rfl (Nat.le_of_ble_eq_true rfl) rfl ?_ | refine e_iinc dX11_image_99 rfl rfl (Nat.le_of_ble_eq_true rfl) rfl ?_
            refine e_goto (tgt := 61) dX11_image_102 (by decide) ?_
            rw [mW_up (by decide), sA_up, cpA_z (by rw [mW_o (by decide), sA_o (by decide)])]
            exact ih
        · try first | contradiction | omega | (simp only [decide_eq_true_eq, decide_eq_false_iff_not] at h69; omega)
          all_goals
            contradiction
    ) (by
    refine e_iload_n dX11_image_61 rfl rfl ?_
    refine e_sipush (v := nI 12000) dX11_image_62 rfl ?_
    first | ((with_reducible refine mk_nn ?_); refine n_icmp_ge (tgt := 105) dX11_image_65 (by decide) (by omega) (by omega) (fun h65 => ?_) (fun h65 => ?_)) | refine e_icmp_ge (tgt := 105) dX11_image_65 (by decide) (fun h65 => ?_) (fun h65 => ?_)
    · try first | contradiction | omega
      all_goals
        refine e_iload_n dX11_image_105 rfl rfl ?_
        first | ((with_reducible refine mk_b ?_); refine b_if_ne (tgt := 114) dX11_image_106 (by decide) (fun h106 => ?_) (fun h106 => ?_)) | ((with_reducible refine mk_ll ?_); refine m_if_ne (tgt := 114) dX11_image_106 (by decide) (by omega) (by omega) (fun h106 => ?_) (fun h106 => ?_)) | ((with_reducible refine mk_lc ?_); refine l_if_ne (tgt := 114) dX11_image_106 (by decide) (fun h106 => ?_) (fun h106 => ?_)) | ((with_reducible refine mk_n ?_); refine n_if_ne (tgt := 114) dX11_image_106 (by decide) (by omega) (fun h106 => ?_) (fun h106 => ?_)) | refine e_if_ne (tgt := 114) dX11_image_106 (by decide) (fun h106 => ?_) (fun h106 => ?_)
        · try first | contradiction | omega | (simp only [decide_eq_true_eq, decide_eq_false_iff_not] at h106; omega)
          all_goals
            refine e_aload_n dX11_image_114 rfl rfl ?_
            refine e_iconst (v := nI 1) dX11_image_115 rfl ?_
            refine e_putI dX11_image_116 fl_X11_403 rfl rfl rfl rfl ?_
            refine e_iconst (v := nI 1) dX11_image_119 rfl ?_
            first | ((with_reducible refine mk_b ?_); refine e_ret (some _) rfl (r_bool dX11_image_120 rfl) ?_) | ((with_reducible refine mk_n1 ?_); refine e_ret (some _) rfl (r_b1 dX11_image_120 rfl) ?_) | ((with_reducible refine mk_n0 ?_); refine e_ret (some _) rfl (r_b0 dX11_image_120 rfl) ?_)
            exact xq rfl rfl rfl rfl rfl rfl
        · try first | contradiction | omega | (simp only [decide_eq_true_eq, decide_eq_false_iff_not] at h106; omega)
          all_goals
            refine e_aload_n dX11_image_109 rfl rfl ?_
            refine e_iconst (v := nI 0) dX11_image_110 rfl ?_
            refine e_putI dX11_image_111 fl_X11_51 rfl rfl rfl rfl ?_
            refine e_aload_n dX11_image_114 rfl rfl ?_
            refine e_iconst (v := nI 1) dX11_image_115 rfl ?_
            refine e_putI dX11_image_116 fl_X11_403 rfl rfl rfl rfl ?_
            refine e_iconst (v := nI 1) dX11_image_119 rfl ?_
            first | ((with_reducible refine mk_b ?_); refine e_ret (some _) rfl (r_bool dX11_image_120 rfl) ?_) | ((with_reducible refine mk_n1 ?_); refine e_ret (some _) rfl (r_b1 dX11_image_120 rfl) ?_) | ((with_reducible refine mk_n0 ?_); refine e_ret (some _) rfl (r_b0 dX11_image_120 rfl) ?_)
            exact xq rfl rfl rfl rfl rfl rfl
    · try first | contradiction | omega
      all_goals
        contradiction
    )
  have k1 := ev_up (P := fun j => EV mX11_image 0 0 0 15 [some (.ref (rf 11 80)), some (.int (nI 0)), some (.int (nI j))] [] fi fr (mW ai (ovF w v j)) ar N (xQ (some (.int (nI 1))) (up2 (up2 fi (32 * 11 + 4) (rf 11 80) (nI 0)) (32 * 11 + 5) (rf 11 80) (nI 1)) fr (mW (sA ai (rf 34 85) (cpA (ai (rf 34 85)) (ai (rf 34 86)) 0 12000)) (ovF w v 8597)) ar N)) 8597 (fun j hj ih => by
    refine e_iload_n dX11_image_15 rfl rfl ?_
    refine e_sipush (v := nI 8597) dX11_image_16 rfl ?_
    first | ((with_reducible refine mk_nn ?_); refine n_icmp_ge (tgt := 59) dX11_image_19 (by decide) (by omega) (by omega) (fun h19 => ?_) (fun h19 => ?_)) | refine e_icmp_ge (tgt := 59) dX11_image_19 (by decide) (fun h19 => ?_) (fun h19 => ?_)
    · try first | contradiction | omega
      all_goals
        contradiction
    · try first | contradiction | omega
      all_goals
        refine e_iload_n dX11_image_22 rfl rfl ?_
        first | ((with_reducible refine mk_b ?_); refine b_if_eq (tgt := 41) dX11_image_23 (by decide) (fun h23 => ?_) (fun h23 => ?_)) | ((with_reducible refine mk_ll ?_); refine m_if_eq (tgt := 41) dX11_image_23 (by decide) (by omega) (by omega) (fun h23 => ?_) (fun h23 => ?_)) | ((with_reducible refine mk_lc ?_); refine l_if_eq (tgt := 41) dX11_image_23 (by decide) (fun h23 => ?_) (fun h23 => ?_)) | ((with_reducible refine mk_n ?_); refine n_if_eq (tgt := 41) dX11_image_23 (by decide) (by omega) (fun h23 => ?_) (fun h23 => ?_)) | refine e_if_eq (tgt := 41) dX11_image_23 (by decide) (fun h23 => ?_) (fun h23 => ?_)
        · try first | contradiction | omega | (simp only [decide_eq_true_eq, decide_eq_false_iff_not] at h23; omega)
          all_goals
            refine e_aload_n dX11_image_41 rfl rfl ?_
            refine e_getR dX11_image_42 fl_X11_7 rfl (by assumption) ?_
            refine e_iload_n dX11_image_45 rfl rfl ?_
            refine e_aload_n dX11_image_46 rfl rfl ?_
            refine e_getR dX11_image_47 fl_X11_16 rfl (by assumption) ?_
            refine e_iload_n dX11_image_50 rfl rfl ?_
            first | ((with_reducible refine mk_ldw ?_); refine e_ldw dX11_image_51 (by omega) ?_) | refine e_iald _ dX11_image_51 ⟨by decide, by decide⟩ rfl rfl (by simp only [lenK]; omega) ?_
            rw [mW_o (by decide), hv j hj]
            first | ((with_reducible refine mk_stw ?_); refine e_stw dX11_image_52 (by omega) ?_) | refine e_iast _ dX11_image_52 ⟨by decide, by decide⟩ rfl rfl (by simp only [lenK]; omega) ?_
            first | refine n_inc dX11_image_53 rfl (Nat.le_of_ble_eq_true rfl) rfl ?_ | refine e_iinc dX11_image_53 rfl rfl (Nat.le_of_ble_eq_true rfl) rfl ?_
            refine e_goto (tgt := 15) dX11_image_56 (by decide) ?_
            rw [ovF_s]
            exact ih
        · try first | contradiction | omega | (simp only [decide_eq_true_eq, decide_eq_false_iff_not] at h23; omega)
          all_goals
            contradiction
    ) (by
    have kk := k2 0 (by omega)
    rw [cpA_0, sA_self] at kk
    refine e_iload_n dX11_image_15 rfl rfl ?_
    refine e_sipush (v := nI 8597) dX11_image_16 rfl ?_
    first | ((with_reducible refine mk_nn ?_); refine n_icmp_ge (tgt := 59) dX11_image_19 (by decide) (by omega) (by omega) (fun h19 => ?_) (fun h19 => ?_)) | refine e_icmp_ge (tgt := 59) dX11_image_19 (by decide) (fun h19 => ?_) (fun h19 => ?_)
    · try first | contradiction | omega
      all_goals
        refine e_iconst (v := nI 0) dX11_image_59 rfl ?_
        refine e_istore_n dX11_image_60 rfl (Nat.le_of_ble_eq_true rfl) rfl ?_
        exact kk
    · try first | contradiction | omega
      all_goals
        contradiction
    )
  have kk := k1 0 (by omega)
  rw [ovF_0] at kk
  refine e_iload_n dX11_image_0 rfl rfl ?_
  first | ((with_reducible refine mk_b ?_); refine b_if_ne (tgt := 13) dX11_image_1 (by decide) (fun h1 => ?_) (fun h1 => ?_)) | ((with_reducible refine mk_ll ?_); refine m_if_ne (tgt := 13) dX11_image_1 (by decide) (by omega) (by omega) (fun h1 => ?_) (fun h1 => ?_)) | ((with_reducible refine mk_lc ?_); refine l_if_ne (tgt := 13) dX11_image_1 (by decide) (fun h1 => ?_) (fun h1 => ?_)) | ((with_reducible refine mk_n ?_); refine n_if_ne (tgt := 13) dX11_image_1 (by decide) (by omega) (fun h1 => ?_) (fun h1 => ?_)) | refine e_if_ne (tgt := 13) dX11_image_1 (by decide) (fun h1 => ?_) (fun h1 => ?_)
  · try first | contradiction | omega | (simp only [decide_eq_true_eq, decide_eq_false_iff_not] at h1; omega)
    all_goals
      refine e_iconst (v := nI 0) dX11_image_13 rfl ?_
      refine e_istore_n dX11_image_14 rfl (Nat.le_of_ble_eq_true rfl) rfl ?_
      exact kk
  · try first | contradiction | omega | (simp only [decide_eq_true_eq, decide_eq_false_iff_not] at h1; omega)
    all_goals
      refine e_aload_n dX11_image_4 rfl rfl ?_
      refine e_getI dX11_image_5 fl_X11_403 rfl ?_
      rw [hh]
      first | ((with_reducible refine mk_b ?_); refine b_if_ne (tgt := 13) dX11_image_8 (by decide) (fun h8 => ?_) (fun h8 => ?_)) | ((with_reducible refine mk_ll ?_); refine m_if_ne (tgt := 13) dX11_image_8 (by decide) (by omega) (by omega) (fun h8 => ?_) (fun h8 => ?_)) | ((with_reducible refine mk_lc ?_); refine l_if_ne (tgt := 13) dX11_image_8 (by decide) (fun h8 => ?_) (fun h8 => ?_)) | ((with_reducible refine mk_n ?_); refine n_if_ne (tgt := 13) dX11_image_8 (by decide) (by omega) (fun h8 => ?_) (fun h8 => ?_)) | refine e_if_ne (tgt := 13) dX11_image_8 (by decide) (fun h8 => ?_) (fun h8 => ?_)
      · try first | contradiction | omega | (simp only [decide_eq_true_eq, decide_eq_false_iff_not] at h8; omega)
        all_goals
          refine e_iconst (v := nI 0) dX11_image_13 rfl ?_
          refine e_istore_n dX11_image_14 rfl (Nat.le_of_ble_eq_true rfl) rfl ?_
          exact kk
      · try first | contradiction | omega | (simp only [decide_eq_true_eq, decide_eq_false_iff_not] at h8; omega)
        all_goals
          contradiction
/-- scan: the answer and the state, from key k on, so many keys left -/
def scF (c : Nat) : Nat → Nat → Nat → (Nat → Nat) → Int32 × (Nat → Nat)
  | 0, _, n, w => (nI n, w)
  | l + 1, k, n, w => if anF w c k = 0 then scF c l (k + 1) (n + (if 0 < w (1106 + 1000 * w (42 + spW w k) + k) then 1 else 0)) (askW w c k 0) else (-1 - nI (anF w c k), askW w c k 0)
def scnB (x y z : Int32) : Bool := inR x 6 && inR y 1000 && inR z 1000 && decide (y.toInt ≤ z.toInt ∧ z.toInt ≤ y.toInt + 60)
def scnR (w : Nat → Nat) (x y z : Int32) : Int32 := if scnB x y z then (scF x.toNatClampNeg (z.toNatClampNeg - y.toNatClampNeg + 1) y.toNatClampNeg 0 w).1 else -10
def scnW (w : Nat → Nat) (x y z : Int32) : Nat → Nat := if scnB x y z then (scF x.toNatClampNeg (z.toNatClampNeg - y.toNatClampNeg + 1) y.toNatClampNeg 0 w).2 else w
def scnF (fi : FI) (w : Nat → Nat) (x y z : Int32) (sc : Bool) : FI := if scnB x y z && decide (anF w x.toNatClampNeg y.toNatClampNeg = 0) then forF fi sc else fi
theorem forF_2 (fi : FI) (sc : Bool) : forF (forF fi sc) sc = forF fi sc := by
  unfold forF
  split
  · rfl
  · exact up2_2 _ _ _ _ _
theorem nI_subI {a b : Nat} (ha : a < 1000) (hb : b < 1000) : (nI a - nI b).toInt = (a : Int) - b := by
  have h1 := nI_toInt (n := a) (by omega)
  have h2 := nI_toInt (n := b) (by omega)
  rw [Int32.toInt_sub, h1, h2, Int.bmod_def]
  split <;> omega
theorem ct_X11_scan {fi : FI} {fr : FR} {ai : FI} {ar : FR} {N : Nat} {w : Nat → Nat} (sm : SM fr) (iv : Inv w) (y0 y1 y2 : Int32) {sc : Bool} (hsc : fi (32 * 11 + 8) (rf 11 80) = bI sc) (hwt : ∀ k, k < 1000 → w (106 + k) + 70 ≤ 100000) : CP mX11_scan 6 0 0 [.ref (rf 11 80), .int y0, .int y1, .int y2] fi fr (mW ai w) ar N (xQ (some (.int (scnR w y0 y1 y2))) (scnF fi w y0 y1 y2 sc) fr (mW ai (scnW w y0 y1 y2)) ar N) := by
  obtain ⟨sW, sA, sK, sU, sC, sKC, sT, sCl⟩ := id sm
  have h1 := iv_n iv
  have h3 := iv_mm iv
  change EV mX11_scan 6 0 0 0 [some (.ref (rf 11 80)), some (.int y0), some (.int y1), some (.int y2), none, none, none] [] fi fr (mW ai w) ar N (xQ (some (.int (scnR w y0 y1 y2))) (scnF fi w y0 y1 y2 sc) fr (mW ai (scnW w y0 y1 y2)) ar N)
  cases hx : inR y0 6 with
  | false =>
    have eb : scnB y0 y1 y2 = false := by unfold scnB; rw [hx]; rfl
    have e1 : scnR w y0 y1 y2 = -10 := by unfold scnR; rw [eb]; rfl
    have e2 : scnW w y0 y1 y2 = w := by unfold scnW; rw [eb]; rfl
    have e3 : scnF fi w y0 y1 y2 sc = fi := by unfold scnF; rw [eb]; rfl
    rw [e1, e2, e3]
    refine e_iload_n dX11_scan_0 rfl rfl ?_
    refine x_S1 (M' := mX11_isClient) dX11_scan_1 ml_X11_121 ok_X11_isClient rfl sc_X11_isClient (ct_X11_isClient _) (Nat.le_of_ble_eq_true rfl) (by decide) (Nat.le_of_ble_eq_true rfl) ?_
    rw [hx]
    first | ((with_reducible refine mk_b ?_); refine b_if_eq (tgt := 35) dX11_scan_4 (by decide) (fun h4 => ?_) (fun h4 => ?_)) | ((with_reducible refine mk_ll ?_); refine m_if_eq (tgt := 35) dX11_scan_4 (by decide) (by omega) (by omega) (fun h4 => ?_) (fun h4 => ?_)) | ((with_reducible refine mk_lc ?_); refine l_if_eq (tgt := 35) dX11_scan_4 (by decide) (fun h4 => ?_) (fun h4 => ?_)) | ((with_reducible refine mk_n ?_); refine n_if_eq (tgt := 35) dX11_scan_4 (by decide) (by omega) (fun h4 => ?_) (fun h4 => ?_)) | refine e_if_eq (tgt := 35) dX11_scan_4 (by decide) (fun h4 => ?_) (fun h4 => ?_)
    · try first | contradiction | omega | (simp only [decide_eq_true_eq, decide_eq_false_iff_not] at h4; omega)
      all_goals
        refine e_bipush (v := -10) dX11_scan_35 rfl ?_
        refine e_ret (some _) rfl (r_int dX11_scan_37 rfl) ?_
        exact xq rfl rfl rfl rfl rfl rfl
    · try first | contradiction | omega | (simp only [decide_eq_true_eq, decide_eq_false_iff_not] at h4; omega)
      all_goals
        contradiction
  | true =>
    cases hy : inR y1 1000 with
    | false =>
      have eb : scnB y0 y1 y2 = false := by unfold scnB; rw [hy, Bool.and_false]; rfl
      have e1 : scnR w y0 y1 y2 = -10 := by unfold scnR; rw [eb]; rfl
      have e2 : scnW w y0 y1 y2 = w := by unfold scnW; rw [eb]; rfl
      have e3 : scnF fi w y0 y1 y2 sc = fi := by unfold scnF; rw [eb]; rfl
      rw [e1, e2, e3]
      refine e_iload_n dX11_scan_0 rfl rfl ?_
      refine x_S1 (M' := mX11_isClient) dX11_scan_1 ml_X11_121 ok_X11_isClient rfl sc_X11_isClient (ct_X11_isClient _) (Nat.le_of_ble_eq_true rfl) (by decide) (Nat.le_of_ble_eq_true rfl) ?_
      rw [hx]
      first | ((with_reducible refine mk_b ?_); refine b_if_eq (tgt := 35) dX11_scan_4 (by decide) (fun h4 => ?_) (fun h4 => ?_)) | ((with_reducible refine mk_ll ?_); refine m_if_eq (tgt := 35) dX11_scan_4 (by decide) (by omega) (by omega) (fun h4 => ?_) (fun h4 => ?_)) | ((with_reducible refine mk_lc ?_); refine l_if_eq (tgt := 35) dX11_scan_4 (by decide) (fun h4 => ?_) (fun h4 => ?_)) | ((with_reducible refine mk_n ?_); refine n_if_eq (tgt := 35) dX11_scan_4 (by decide) (by omega) (fun h4 => ?_) (fun h4 => ?_)) | refine e_if_eq (tgt := 35) dX11_scan_4 (by decide) (fun h4 => ?_) (fun h4 => ?_)
      · try first | contradiction | omega | (simp only [decide_eq_true_eq, decide_eq_false_iff_not] at h4; omega)
        all_goals
          refine e_bipush (v := -10) dX11_scan_35 rfl ?_
          refine e_ret (some _) rfl (r_int dX11_scan_37 rfl) ?_
          exact xq rfl rfl rfl rfl rfl rfl
      · try first | contradiction | omega | (simp only [decide_eq_true_eq, decide_eq_false_iff_not] at h4; omega)
        all_goals
          refine e_iload_n dX11_scan_7 rfl rfl ?_
          refine x_S1 (M' := mX11_isKey) dX11_scan_8 ml_X11_54 ok_X11_isKey rfl sc_X11_isKey (ct_X11_isKey _) (Nat.le_of_ble_eq_true rfl) (by decide) (Nat.le_of_ble_eq_true rfl) ?_
          rw [hy]
          first | ((with_reducible refine mk_b ?_); refine b_if_eq (tgt := 35) dX11_scan_11 (by decide) (fun h11 => ?_) (fun h11 => ?_)) | ((with_reducible refine mk_ll ?_); refine m_if_eq (tgt := 35) dX11_scan_11 (by decide) (by omega) (by omega) (fun h11 => ?_) (fun h11 => ?_)) | ((with_reducible refine mk_lc ?_); refine l_if_eq (tgt := 35) dX11_scan_11 (by decide) (fun h11 => ?_) (fun h11 => ?_)) | ((with_reducible refine mk_n ?_); refine n_if_eq (tgt := 35) dX11_scan_11 (by decide) (by omega) (fun h11 => ?_) (fun h11 => ?_)) | refine e_if_eq (tgt := 35) dX11_scan_11 (by decide) (fun h11 => ?_) (fun h11 => ?_)
          · try first | contradiction | omega | (simp only [decide_eq_true_eq, decide_eq_false_iff_not] at h11; omega)
            all_goals
              refine e_bipush (v := -10) dX11_scan_35 rfl ?_
              refine e_ret (some _) rfl (r_int dX11_scan_37 rfl) ?_
              exact xq rfl rfl rfl rfl rfl rfl
          · try first | contradiction | omega | (simp only [decide_eq_true_eq, decide_eq_false_iff_not] at h11; omega)
            all_goals
              contradiction
    | true =>
      cases hz : inR y2 1000 with
      | false =>
        have eb : scnB y0 y1 y2 = false := by unfold scnB; rw [hz, Bool.and_false]; rfl
        have e1 : scnR w y0 y1 y2 = -10 := by unfold scnR; rw [eb]; rfl
        have e2 : scnW w y0 y1 y2 = w := by unfold scnW; rw [eb]; rfl
        have e3 : scnF fi w y0 y1 y2 sc = fi := by unfold scnF; rw [eb]; rfl
        rw [e1, e2, e3]
        refine e_iload_n dX11_scan_0 rfl rfl ?_
        refine x_S1 (M' := mX11_isClient) dX11_scan_1 ml_X11_121 ok_X11_isClient rfl sc_X11_isClient (ct_X11_isClient _) (Nat.le_of_ble_eq_true rfl) (by decide) (Nat.le_of_ble_eq_true rfl) ?_
        rw [hx]
        first | ((with_reducible refine mk_b ?_); refine b_if_eq (tgt := 35) dX11_scan_4 (by decide) (fun h4 => ?_) (fun h4 => ?_)) | ((with_reducible refine mk_ll ?_); refine m_if_eq (tgt := 35) dX11_scan_4 (by decide) (by omega) (by omega) (fun h4 => ?_) (fun h4 => ?_)) | ((with_reducible refine mk_lc ?_); refine l_if_eq (tgt := 35) dX11_scan_4 (by decide) (fun h4 => ?_) (fun h4 => ?_)) | ((with_reducible refine mk_n ?_); refine n_if_eq (tgt := 35) dX11_scan_4 (by decide) (by omega) (fun h4 => ?_) (fun h4 => ?_)) | refine e_if_eq (tgt := 35) dX11_scan_4 (by decide) (fun h4 => ?_) (fun h4 => ?_)
        · try first | contradiction | omega | (simp only [decide_eq_true_eq, decide_eq_false_iff_not] at h4; omega)
          all_goals
            refine e_bipush (v := -10) dX11_scan_35 rfl ?_
            refine e_ret (some _) rfl (r_int dX11_scan_37 rfl) ?_
            exact xq rfl rfl rfl rfl rfl rfl
        · try first | contradiction | omega | (simp only [decide_eq_true_eq, decide_eq_false_iff_not] at h4; omega)
          all_goals
            refine e_iload_n dX11_scan_7 rfl rfl ?_
            refine x_S1 (M' := mX11_isKey) dX11_scan_8 ml_X11_54 ok_X11_isKey rfl sc_X11_isKey (ct_X11_isKey _) (Nat.le_of_ble_eq_true rfl) (by decide) (Nat.le_of_ble_eq_true rfl) ?_
            rw [hy]
            first | ((with_reducible refine mk_b ?_); refine b_if_eq (tgt := 35) dX11_scan_11 (by decide) (fun h11 => ?_) (fun h11 => ?_)) | ((with_reducible refine mk_ll ?_); refine m_if_eq (tgt := 35) dX11_scan_11 (by decide) (by omega) (by omega) (fun h11 => ?_) (fun h11 => ?_)) | ((with_reducible refine mk_lc ?_); refine l_if_eq (tgt := 35) dX11_scan_11 (by decide) (fun h11 => ?_) (fun h11 => ?_)) | ((with_reducible refine mk_n ?_); refine n_if_eq (tgt := 35) dX11_scan_11 (by decide) (by omega) (fun h11 => ?_) (fun h11 => ?_)) | refine e_if_eq (tgt := 35) dX11_scan_11 (by decide) (fun h11 => ?_) (fun h11 => ?_)
            · try first | contradiction | omega | (simp only [decide_eq_true_eq, decide_eq_false_iff_not] at h11; omega)
              all_goals
                refine e_bipush (v := -10) dX11_scan_35 rfl ?_
                refine e_ret (some _) rfl (r_int dX11_scan_37 rfl) ?_
                exact xq rfl rfl rfl rfl rfl rfl
            · try first | contradiction | omega | (simp only [decide_eq_true_eq, decide_eq_false_iff_not] at h11; omega)
              all_goals
                refine e_iload_n dX11_scan_14 rfl rfl ?_
                refine x_S1 (M' := mX11_isKey) dX11_scan_15 ml_X11_54 ok_X11_isKey rfl sc_X11_isKey (ct_X11_isKey _) (Nat.le_of_ble_eq_true rfl) (by decide) (Nat.le_of_ble_eq_true rfl) ?_
                rw [hz]
                first | ((with_reducible refine mk_b ?_); refine b_if_eq (tgt := 35) dX11_scan_18 (by decide) (fun h18 => ?_) (fun h18 => ?_)) | ((with_reducible refine mk_ll ?_); refine m_if_eq (tgt := 35) dX11_scan_18 (by decide) (by omega) (by omega) (fun h18 => ?_) (fun h18 => ?_)) | ((with_reducible refine mk_lc ?_); refine l_if_eq (tgt := 35) dX11_scan_18 (by decide) (fun h18 => ?_) (fun h18 => ?_)) | ((with_reducible refine mk_n ?_); refine n_if_eq (tgt := 35) dX11_scan_18 (by decide) (by omega) (fun h18 => ?_) (fun h18 => ?_)) | refine e_if_eq (tgt := 35) dX11_scan_18 (by decide) (fun h18 => ?_) (fun h18 => ?_)
                · try first | contradiction | omega | (simp only [decide_eq_true_eq, decide_eq_false_iff_not] at h18; omega)
                  all_goals
                    refine e_bipush (v := -10) dX11_scan_35 rfl ?_
                    refine e_ret (some _) rfl (r_int dX11_scan_37 rfl) ?_
                    exact xq rfl rfl rfl rfl rfl rfl
                · try first | contradiction | omega | (simp only [decide_eq_true_eq, decide_eq_false_iff_not] at h18; omega)
                  all_goals
                    contradiction
      | true =>
        obtain ⟨c, hc, hc2, rfl⟩ := inR_ex hx
        obtain ⟨lo, hlo, hlo2, rfl⟩ := inR_ex hy
        obtain ⟨hh, hhh, hhh2, rfl⟩ := inR_ex hz
        have ec : (nI c).toNatClampNeg = c := nI_clamp hc2
        have el : (nI lo).toNatClampNeg = lo := nI_clamp hlo2
        have eh : (nI hh).toNatClampNeg = hh := nI_clamp hhh2
        have il := nI_toInt (b31 hlo2)
        have ih' := nI_toInt (b31 hhh2)
        have hsb := nI_subI hhh hlo
        by_cases hr : lo ≤ hh ∧ hh ≤ lo + 60
        · have eb : scnB (nI c) (nI lo) (nI hh) = true := by unfold scnB; rw [hx, hy, hz]; exact decide_eq_true (by omega)
          have e1 : scnR w (nI c) (nI lo) (nI hh) = (scF c (hh - lo + 1) lo 0 w).1 := by unfold scnR; rw [eb, ec, el, eh]; rfl
          have e2 : scnW w (nI c) (nI lo) (nI hh) = (scF c (hh - lo + 1) lo 0 w).2 := by unfold scnW; rw [eb, ec, el, eh]; rfl
          have e3 : scnF fi w (nI c) (nI lo) (nI hh) sc = if anF w c lo = 0 then forF fi sc else fi := by unfold scnF; rw [eb, ec, el]; simp
          rw [e1, e2, e3]
          have key : ∀ (l k n : Nat) (v : Nat → Nat) (R : Int32) (W : Nat → Nat) (f f' : FI), k + l = hh + 1 → n ≤ k → Inv v → (∀ q, q < 1000 → v (106 + q) + l + 2 ≤ 100000) → f (32 * 11 + 8) (rf 11 80) = bI sc → (l ≠ 0 → anF v c k = 0 → forF f sc = f') → (l = 0 ∨ anF v c k ≠ 0 → f = f') → scF c l k n v = (R, W) → EV mX11_scan 6 0 0 44 [some (.ref (rf 11 80)), some (.int (nI c)), some (.int (nI lo)), some (.int (nI hh)), some (.int (nI n)), some (.int (nI k)), none] [] f fr (mW ai v) ar N (xQ (some (.int R)) f' fr (mW ai W) ar N) := by
            intro l
            induction l with
            | zero =>
              intro k n v R W f f' hk hn hv hwv hf8 hf1 hf2 hR
              obtain ⟨rfl, rfl⟩ := Prod.mk.inj hR
              obtain rfl := hf2 (Or.inl rfl)
              refine e_iload dX11_scan_44 rfl ?_
              refine e_iload_n dX11_scan_46 rfl rfl ?_
              first | ((with_reducible refine mk_nn ?_); refine n_icmp_gt (tgt := 88) dX11_scan_47 (by decide) (by omega) (by omega) (fun h47 => ?_) (fun h47 => ?_)) | refine e_icmp_gt (tgt := 88) dX11_scan_47 (by decide) (fun h47 => ?_) (fun h47 => ?_)
              · try first | contradiction | omega
                all_goals
                  refine e_iload dX11_scan_88 rfl ?_
                  refine e_ret (some _) rfl (r_int dX11_scan_90 rfl) ?_
                  exact xq rfl rfl rfl rfl rfl rfl
              · try first | contradiction | omega
                all_goals
                  omega
            | succ l ih =>
              intro k n v R W f f' hk hn hv hwv hf8 hf1 hf2 hR
              have hk1 : k < 1000 := by omega
              have rk : inR (nI k) 1000 = true := by rw [inR_nI (by omega)]; exact decide_eq_true hk1
              have ek : (nI k).toNatClampNeg = k := nI_clamp (by omega)
              have hvl := iv_va hv (i := 1000 * v (42 + spW v k) + k) (by have := iv_own hv (spW_lt hv k); omega)
              rw [← Nat.add_assoc] at hvl
              have ew : redW v (nI c) (nI k) = askW v c k 0 := by unfold redW; rw [if_pos ⟨hx, rk⟩, ec, ek]
              have hle := anF_le v c k
              by_cases ha : anF v c k = 0
              · have er : redR v (nI c) (nI k) = nI (v (1106 + 1000 * v (42 + spW v k) + k)) := by unfold redR; rw [if_pos ⟨hx, rk⟩, ec, ek, if_pos ha]
                have ef : redF f v (nI c) (nI k) sc = forF f sc := by unfold redF askF; rw [if_pos ⟨hx, rk⟩, ec, ek, anF_c, if_pos ha]
                have hR2 : scF c l (k + 1) (n + (if 0 < v (1106 + 1000 * v (42 + spW v k) + k) then 1 else 0)) (askW v c k 0) = (R, W) := by rw [← hR]; show _ = (if anF v c k = 0 then _ else _); rw [if_pos ha]
                have hf1' := hf1 (by omega) ha
                have ih2 := ih (k + 1) (n + (if 0 < v (1106 + 1000 * v (42 + spW v k) + k) then 1 else 0)) (askW v c k 0) R W (forF f sc) f' (by omega) (by split <;> omega) (ask_Inv hv hc hk1 (by omega) (by have := hwv k hk1; omega)) (fun q hq => by
                  have := hwv q hq
                  have hz0 : askW v c k 0 (106 + q) ≤ v (106 + q) + 1 := by
                    unfold askW
                    rw [anF_c, if_pos ha, if_neg (by omega), upN_n (by omega)]
                    by_cases e : 106 + q = 106 + k
                    · rw [e, upN_s]; exact Nat.le_refl _
                    · rw [upN_n e, upN_n (by omega), ask1_fr _ _ _ (by omega)]; omega
                  omega) (by rw [forF_8]; exact hf8) (fun _ _ => by rw [forF_2]; exact hf1') (fun _ => hf1') hR2
                by_cases h0v : 0 < v (1106 + 1000 * v (42 + spW v k) + k)
                · rw [if_pos h0v] at ih2
                  refine e_iload dX11_scan_44 rfl ?_
                  refine e_iload_n dX11_scan_46 rfl rfl ?_
                  first | ((with_reducible refine mk_nn ?_); refine n_icmp_gt (tgt := 88) dX11_scan_47 (by decide) (by omega) (by omega) (fun h47 => ?_) (fun h47 => ?_)) | refine e_icmp_gt (tgt := 88) dX11_scan_47 (by decide) (fun h47 => ?_) (fun h47 => ?_)
                  · try first | contradiction | omega
                    all_goals
                      omega
                  · try first | contradiction | omega
                    all_goals
                      refine e_aload_n dX11_scan_50 rfl rfl ?_
                      refine e_iload_n dX11_scan_51 rfl rfl ?_
                      refine e_iload dX11_scan_52 rfl ?_
                      refine x_V2 (M' := mX11_read) dX11_scan_54 ml_X11_266 ok_X11_read (by decide) rfl im_X11_read se_X11_read (ct_X11_read ‹_› hv _ _ hf8 (fun q hq => by have := hwv q hq; omega)) (Nat.le_of_ble_eq_true rfl) (by decide) (Nat.le_of_ble_eq_true rfl) ?_
                      rw [er, ew, ef]
                      refine e_istore dX11_scan_57 (Nat.le_of_ble_eq_true rfl) rfl ?_
                      refine e_iload dX11_scan_59 rfl ?_
                      first | ((with_reducible refine mk_ll ?_); refine m_if_ge (tgt := 67) dX11_scan_61 (by decide) (by omega) (by omega) (fun h61 => ?_) (fun h61 => ?_)) | ((with_reducible refine mk_lc ?_); refine l_if_ge (tgt := 67) dX11_scan_61 (by decide) (fun h61 => ?_) (fun h61 => ?_)) | ((with_reducible refine mk_n ?_); refine n_if_ge (tgt := 67) dX11_scan_61 (by decide) (by omega) (fun h61 => ?_) (fun h61 => ?_)) | refine e_if_ge (tgt := 67) dX11_scan_61 (by decide) (fun h61 => ?_) (fun h61 => ?_)
                      · try first | contradiction | omega
                        all_goals
                          refine e_iload dX11_scan_67 rfl ?_
                          refine e_iload dX11_scan_69 rfl ?_
                          first | ((with_reducible refine mk_ll ?_); refine m_if_le (tgt := 78) dX11_scan_71 (by decide) (by omega) (by omega) (fun h71 => ?_) (fun h71 => ?_)) | ((with_reducible refine mk_lc ?_); refine l_if_le (tgt := 78) dX11_scan_71 (by decide) (fun h71 => ?_) (fun h71 => ?_)) | ((with_reducible refine mk_n ?_); refine n_if_le (tgt := 78) dX11_scan_71 (by decide) (by omega) (fun h71 => ?_) (fun h71 => ?_)) | refine e_if_le (tgt := 78) dX11_scan_71 (by decide) (fun h71 => ?_) (fun h71 => ?_)
                          · try first | contradiction | omega
                            all_goals
                              omega
                          · try first | contradiction | omega
                            all_goals
                              refine e_iconst (v := nI 1) dX11_scan_74 rfl ?_
                              refine e_goto (tgt := 79) dX11_scan_75 (by decide) ?_
                              first | ((with_reducible refine mk_nn ?_); refine n_iadd dX11_scan_79 ?_) | refine e_iadd dX11_scan_79 ?_
                              refine e_istore dX11_scan_80 (Nat.le_of_ble_eq_true rfl) rfl ?_
                              first | refine n_inc dX11_scan_82 rfl (Nat.le_of_ble_eq_true rfl) rfl ?_ | refine e_iinc dX11_scan_82 rfl rfl (Nat.le_of_ble_eq_true rfl) rfl ?_
                              refine e_goto (tgt := 44) dX11_scan_85 (by decide) ?_
                              exact EV_ls (by repeat (first | exact lsub_0 | refine lsub_n ?_ | refine lsub_s ?_)) ih2
                      · try first | contradiction | omega
                        all_goals
                          contradiction
                · rw [if_neg h0v] at ih2
                  refine e_iload dX11_scan_44 rfl ?_
                  refine e_iload_n dX11_scan_46 rfl rfl ?_
                  first | ((with_reducible refine mk_nn ?_); refine n_icmp_gt (tgt := 88) dX11_scan_47 (by decide) (by omega) (by omega) (fun h47 => ?_) (fun h47 => ?_)) | refine e_icmp_gt (tgt := 88) dX11_scan_47 (by decide) (fun h47 => ?_) (fun h47 => ?_)
                  · try first | contradiction | omega
                    all_goals
                      omega
                  · try first | contradiction | omega
                    all_goals
                      refine e_aload_n dX11_scan_50 rfl rfl ?_
                      refine e_iload_n dX11_scan_51 rfl rfl ?_
                      refine e_iload dX11_scan_52 rfl ?_
                      refine x_V2 (M' := mX11_read) dX11_scan_54 ml_X11_266 ok_X11_read (by decide) rfl im_X11_read se_X11_read (ct_X11_read ‹_› hv _ _ hf8 (fun q hq => by have := hwv q hq; omega)) (Nat.le_of_ble_eq_true rfl) (by decide) (Nat.le_of_ble_eq_true rfl) ?_
                      rw [er, ew, ef]
                      refine e_istore dX11_scan_57 (Nat.le_of_ble_eq_true rfl) rfl ?_
                      refine e_iload dX11_scan_59 rfl ?_
                      first | ((with_reducible refine mk_ll ?_); refine m_if_ge (tgt := 67) dX11_scan_61 (by decide) (by omega) (by omega) (fun h61 => ?_) (fun h61 => ?_)) | ((with_reducible refine mk_lc ?_); refine l_if_ge (tgt := 67) dX11_scan_61 (by decide) (fun h61 => ?_) (fun h61 => ?_)) | ((with_reducible refine mk_n ?_); refine n_if_ge (tgt := 67) dX11_scan_61 (by decide) (by omega) (fun h61 => ?_) (fun h61 => ?_)) | refine e_if_ge (tgt := 67) dX11_scan_61 (by decide) (fun h61 => ?_) (fun h61 => ?_)
                      · try first | contradiction | omega
                        all_goals
                          refine e_iload dX11_scan_67 rfl ?_
                          refine e_iload dX11_scan_69 rfl ?_
                          first | ((with_reducible refine mk_ll ?_); refine m_if_le (tgt := 78) dX11_scan_71 (by decide) (by omega) (by omega) (fun h71 => ?_) (fun h71 => ?_)) | ((with_reducible refine mk_lc ?_); refine l_if_le (tgt := 78) dX11_scan_71 (by decide) (fun h71 => ?_) (fun h71 => ?_)) | ((with_reducible refine mk_n ?_); refine n_if_le (tgt := 78) dX11_scan_71 (by decide) (by omega) (fun h71 => ?_) (fun h71 => ?_)) | refine e_if_le (tgt := 78) dX11_scan_71 (by decide) (fun h71 => ?_) (fun h71 => ?_)
                          · try first | contradiction | omega
                            all_goals
                              refine e_iconst (v := nI 0) dX11_scan_78 rfl ?_
                              first | ((with_reducible refine mk_nn ?_); refine n_iadd dX11_scan_79 ?_) | refine e_iadd dX11_scan_79 ?_
                              refine e_istore dX11_scan_80 (Nat.le_of_ble_eq_true rfl) rfl ?_
                              first | refine n_inc dX11_scan_82 rfl (Nat.le_of_ble_eq_true rfl) rfl ?_ | refine e_iinc dX11_scan_82 rfl rfl (Nat.le_of_ble_eq_true rfl) rfl ?_
                              refine e_goto (tgt := 44) dX11_scan_85 (by decide) ?_
                              exact EV_ls (by repeat (first | exact lsub_0 | refine lsub_n ?_ | refine lsub_s ?_)) ih2
                          · try first | contradiction | omega
                            all_goals
                              omega
                      · try first | contradiction | omega
                        all_goals
                          contradiction
              · have er : redR v (nI c) (nI k) = -1 - nI (anF v c k) := by unfold redR; rw [if_pos ⟨hx, rk⟩, ec, ek, if_neg ha]
                have ef : redF f v (nI c) (nI k) sc = f := by unfold redF askF; rw [if_pos ⟨hx, rk⟩, ec, ek, anF_c, if_neg ha]
                have hR2 : (R, W) = (-1 - nI (anF v c k), askW v c k 0) := by rw [← hR]; show (if anF v c k = 0 then _ else _) = _; rw [if_neg ha]
                obtain ⟨rfl, rfl⟩ := Prod.mk.inj hR2
                obtain rfl := hf2 (Or.inr ha)
                have ha3 : anF v c k = 1 ∨ anF v c k = 2 ∨ anF v c k = 3 := by omega
                rcases ha3 with e | e | e
                · rw [e] at er ⊢
                  rw [show (-1 - nI 1 : Int32) = -2 from by decide] at er ⊢
                  refine e_iload dX11_scan_44 rfl ?_
                  refine e_iload_n dX11_scan_46 rfl rfl ?_
                  first | ((with_reducible refine mk_nn ?_); refine n_icmp_gt (tgt := 88) dX11_scan_47 (by decide) (by omega) (by omega) (fun h47 => ?_) (fun h47 => ?_)) | refine e_icmp_gt (tgt := 88) dX11_scan_47 (by decide) (fun h47 => ?_) (fun h47 => ?_)
                  · try first | contradiction | omega
                    all_goals
                      omega
                  · try first | contradiction | omega
                    all_goals
                      refine e_aload_n dX11_scan_50 rfl rfl ?_
                      refine e_iload_n dX11_scan_51 rfl rfl ?_
                      refine e_iload dX11_scan_52 rfl ?_
                      refine x_V2 (M' := mX11_read) dX11_scan_54 ml_X11_266 ok_X11_read (by decide) rfl im_X11_read se_X11_read (ct_X11_read ‹_› hv _ _ hf8 (fun q hq => by have := hwv q hq; omega)) (Nat.le_of_ble_eq_true rfl) (by decide) (Nat.le_of_ble_eq_true rfl) ?_
                      rw [er, ew, ef]
                      refine e_istore dX11_scan_57 (Nat.le_of_ble_eq_true rfl) rfl ?_
                      refine e_iload dX11_scan_59 rfl ?_
                      first | ((with_reducible refine mk_ll ?_); refine m_if_ge (tgt := 67) dX11_scan_61 (by decide) (by omega) (by omega) (fun h61 => ?_) (fun h61 => ?_)) | ((with_reducible refine mk_lc ?_); refine l_if_ge (tgt := 67) dX11_scan_61 (by decide) (fun h61 => ?_) (fun h61 => ?_)) | ((with_reducible refine mk_n ?_); refine n_if_ge (tgt := 67) dX11_scan_61 (by decide) (by omega) (fun h61 => ?_) (fun h61 => ?_)) | refine e_if_ge (tgt := 67) dX11_scan_61 (by decide) (fun h61 => ?_) (fun h61 => ?_)
                      · try first | contradiction | omega
                        all_goals
                          exact absurd h61 (by decide)
                      · try first | contradiction | omega
                        all_goals
                          refine e_iload dX11_scan_64 rfl ?_
                          refine e_ret (some _) rfl (r_int dX11_scan_66 rfl) ?_
                          exact xq rfl rfl rfl rfl rfl rfl
                · rw [e] at er ⊢
                  rw [show (-1 - nI 2 : Int32) = -3 from by decide] at er ⊢
                  refine e_iload dX11_scan_44 rfl ?_
                  refine e_iload_n dX11_scan_46 rfl rfl ?_
                  first | ((with_reducible refine mk_nn ?_); refine n_icmp_gt (tgt := 88) dX11_scan_47 (by decide) (by omega) (by omega) (fun h47 => ?_) (fun h47 => ?_)) | refine e_icmp_gt (tgt := 88) dX11_scan_47 (by decide) (fun h47 => ?_) (fun h47 => ?_)
                  · try first | contradiction | omega
                    all_goals
                      omega
                  · try first | contradiction | omega
                    all_goals
                      refine e_aload_n dX11_scan_50 rfl rfl ?_
                      refine e_iload_n dX11_scan_51 rfl rfl ?_
                      refine e_iload dX11_scan_52 rfl ?_
                      refine x_V2 (M' := mX11_read) dX11_scan_54 ml_X11_266 ok_X11_read (by decide) rfl im_X11_read se_X11_read (ct_X11_read ‹_› hv _ _ hf8 (fun q hq => by have := hwv q hq; omega)) (Nat.le_of_ble_eq_true rfl) (by decide) (Nat.le_of_ble_eq_true rfl) ?_
                      rw [er, ew, ef]
                      refine e_istore dX11_scan_57 (Nat.le_of_ble_eq_true rfl) rfl ?_
                      refine e_iload dX11_scan_59 rfl ?_
                      first | ((with_reducible refine mk_ll ?_); refine m_if_ge (tgt := 67) dX11_scan_61 (by decide) (by omega) (by omega) (fun h61 => ?_) (fun h61 => ?_)) | ((with_reducible refine mk_lc ?_); refine l_if_ge (tgt := 67) dX11_scan_61 (by decide) (fun h61 => ?_) (fun h61 => ?_)) | ((with_reducible refine mk_n ?_); refine n_if_ge (tgt := 67) dX11_scan_61 (by decide) (by omega) (fun h61 => ?_) (fun h61 => ?_)) | refine e_if_ge (tgt := 67) dX11_scan_61 (by decide) (fun h61 => ?_) (fun h61 => ?_)
                      · try first | contradiction | omega
                        all_goals
                          exact absurd h61 (by decide)
                      · try first | contradiction | omega
                        all_goals
                          refine e_iload dX11_scan_64 rfl ?_
                          refine e_ret (some _) rfl (r_int dX11_scan_66 rfl) ?_
                          exact xq rfl rfl rfl rfl rfl rfl
                · rw [e] at er ⊢
                  rw [show (-1 - nI 3 : Int32) = -4 from by decide] at er ⊢
                  refine e_iload dX11_scan_44 rfl ?_
                  refine e_iload_n dX11_scan_46 rfl rfl ?_
                  first | ((with_reducible refine mk_nn ?_); refine n_icmp_gt (tgt := 88) dX11_scan_47 (by decide) (by omega) (by omega) (fun h47 => ?_) (fun h47 => ?_)) | refine e_icmp_gt (tgt := 88) dX11_scan_47 (by decide) (fun h47 => ?_) (fun h47 => ?_)
                  · try first | contradiction | omega
                    all_goals
                      omega
                  · try first | contradiction | omega
                    all_goals
                      refine e_aload_n dX11_scan_50 rfl rfl ?_
                      refine e_iload_n dX11_scan_51 rfl rfl ?_
                      refine e_iload dX11_scan_52 rfl ?_
                      refine x_V2 (M' := mX11_read) dX11_scan_54 ml_X11_266 ok_X11_read (by decide) rfl im_X11_read se_X11_read (ct_X11_read ‹_› hv _ _ hf8 (fun q hq => by have := hwv q hq; omega)) (Nat.le_of_ble_eq_true rfl) (by decide) (Nat.le_of_ble_eq_true rfl) ?_
                      rw [er, ew, ef]
                      refine e_istore dX11_scan_57 (Nat.le_of_ble_eq_true rfl) rfl ?_
                      refine e_iload dX11_scan_59 rfl ?_
                      first | ((with_reducible refine mk_ll ?_); refine m_if_ge (tgt := 67) dX11_scan_61 (by decide) (by omega) (by omega) (fun h61 => ?_) (fun h61 => ?_)) | ((with_reducible refine mk_lc ?_); refine l_if_ge (tgt := 67) dX11_scan_61 (by decide) (fun h61 => ?_) (fun h61 => ?_)) | ((with_reducible refine mk_n ?_); refine n_if_ge (tgt := 67) dX11_scan_61 (by decide) (by omega) (fun h61 => ?_) (fun h61 => ?_)) | refine e_if_ge (tgt := 67) dX11_scan_61 (by decide) (fun h61 => ?_) (fun h61 => ?_)
                      · try first | contradiction | omega
                        all_goals
                          exact absurd h61 (by decide)
                      · try first | contradiction | omega
                        all_goals
                          refine e_iload dX11_scan_64 rfl ?_
                          refine e_ret (some _) rfl (r_int dX11_scan_66 rfl) ?_
                          exact xq rfl rfl rfl rfl rfl rfl
          have kk := key (hh - lo + 1) lo 0 w (scF c (hh - lo + 1) lo 0 w).1 (scF c (hh - lo + 1) lo 0 w).2 fi (if anF w c lo = 0 then forF fi sc else fi) (by omega) (by omega) iv (fun q hq => by have := hwt q hq; omega) hsc (fun _ h => by rw [if_pos h]) (fun h => by rw [if_neg (by omega)]) rfl
          refine e_iload_n dX11_scan_0 rfl rfl ?_
          refine x_S1 (M' := mX11_isClient) dX11_scan_1 ml_X11_121 ok_X11_isClient rfl sc_X11_isClient (ct_X11_isClient _) (Nat.le_of_ble_eq_true rfl) (by decide) (Nat.le_of_ble_eq_true rfl) ?_
          rw [hx]
          first | ((with_reducible refine mk_b ?_); refine b_if_eq (tgt := 35) dX11_scan_4 (by decide) (fun h4 => ?_) (fun h4 => ?_)) | ((with_reducible refine mk_ll ?_); refine m_if_eq (tgt := 35) dX11_scan_4 (by decide) (by omega) (by omega) (fun h4 => ?_) (fun h4 => ?_)) | ((with_reducible refine mk_lc ?_); refine l_if_eq (tgt := 35) dX11_scan_4 (by decide) (fun h4 => ?_) (fun h4 => ?_)) | ((with_reducible refine mk_n ?_); refine n_if_eq (tgt := 35) dX11_scan_4 (by decide) (by omega) (fun h4 => ?_) (fun h4 => ?_)) | refine e_if_eq (tgt := 35) dX11_scan_4 (by decide) (fun h4 => ?_) (fun h4 => ?_)
          · try first | contradiction | omega | (simp only [decide_eq_true_eq, decide_eq_false_iff_not] at h4; omega)
            all_goals
              omega
          · try first | contradiction | omega | (simp only [decide_eq_true_eq, decide_eq_false_iff_not] at h4; omega)
            all_goals
              refine e_iload_n dX11_scan_7 rfl rfl ?_
              refine x_S1 (M' := mX11_isKey) dX11_scan_8 ml_X11_54 ok_X11_isKey rfl sc_X11_isKey (ct_X11_isKey _) (Nat.le_of_ble_eq_true rfl) (by decide) (Nat.le_of_ble_eq_true rfl) ?_
              rw [hy]
              first | ((with_reducible refine mk_b ?_); refine b_if_eq (tgt := 35) dX11_scan_11 (by decide) (fun h11 => ?_) (fun h11 => ?_)) | ((with_reducible refine mk_ll ?_); refine m_if_eq (tgt := 35) dX11_scan_11 (by decide) (by omega) (by omega) (fun h11 => ?_) (fun h11 => ?_)) | ((with_reducible refine mk_lc ?_); refine l_if_eq (tgt := 35) dX11_scan_11 (by decide) (fun h11 => ?_) (fun h11 => ?_)) | ((with_reducible refine mk_n ?_); refine n_if_eq (tgt := 35) dX11_scan_11 (by decide) (by omega) (fun h11 => ?_) (fun h11 => ?_)) | refine e_if_eq (tgt := 35) dX11_scan_11 (by decide) (fun h11 => ?_) (fun h11 => ?_)
              · try first | contradiction | omega | (simp only [decide_eq_true_eq, decide_eq_false_iff_not] at h11; omega)
                all_goals
                  omega
              · try first | contradiction | omega | (simp only [decide_eq_true_eq, decide_eq_false_iff_not] at h11; omega)
                all_goals
                  refine e_iload_n dX11_scan_14 rfl rfl ?_
                  refine x_S1 (M' := mX11_isKey) dX11_scan_15 ml_X11_54 ok_X11_isKey rfl sc_X11_isKey (ct_X11_isKey _) (Nat.le_of_ble_eq_true rfl) (by decide) (Nat.le_of_ble_eq_true rfl) ?_
                  rw [hz]
                  first | ((with_reducible refine mk_b ?_); refine b_if_eq (tgt := 35) dX11_scan_18 (by decide) (fun h18 => ?_) (fun h18 => ?_)) | ((with_reducible refine mk_ll ?_); refine m_if_eq (tgt := 35) dX11_scan_18 (by decide) (by omega) (by omega) (fun h18 => ?_) (fun h18 => ?_)) | ((with_reducible refine mk_lc ?_); refine l_if_eq (tgt := 35) dX11_scan_18 (by decide) (fun h18 => ?_) (fun h18 => ?_)) | ((with_reducible refine mk_n ?_); refine n_if_eq (tgt := 35) dX11_scan_18 (by decide) (by omega) (fun h18 => ?_) (fun h18 => ?_)) | refine e_if_eq (tgt := 35) dX11_scan_18 (by decide) (fun h18 => ?_) (fun h18 => ?_)
                  · try first | contradiction | omega | (simp only [decide_eq_true_eq, decide_eq_false_iff_not] at h18; omega)
                    all_goals
                      omega
                  · try first | contradiction | omega | (simp only [decide_eq_true_eq, decide_eq_false_iff_not] at h18; omega)
                    all_goals
                      refine e_iload_n dX11_scan_21 rfl rfl ?_
                      refine e_iload_n dX11_scan_22 rfl rfl ?_
                      first | ((with_reducible refine mk_nn ?_); refine n_isub dX11_scan_23 (by omega) ?_) | refine e_isub dX11_scan_23 ?_
                      first | ((with_reducible refine mk_n ?_); refine n_i2l dX11_scan_24 (by omega) ?_) | refine e_i2l dX11_scan_24 ?_
                      refine e_lconst (v := lN 0) dX11_scan_25 rfl ?_
                      refine e_ldc2 dX11_scan_26 co_X11_392 ?_
                      refine x_S3 (M' := mX11_isIn) dX11_scan_29 ml_X11_45 ok_X11_isIn rfl sc_X11_isIn (by first | ((with_reducible refine ct_isInN ?_ ?_ ?_) <;> omega) | ((with_reducible refine ct_isInX ?_ ?_) <;> omega) | exact ct_X11_isIn _ _ _) (Nat.le_of_ble_eq_true rfl) (by decide) (Nat.le_of_ble_eq_true rfl) ?_
                      first | ((with_reducible refine mk_b ?_); refine b_if_ne (tgt := 38) dX11_scan_32 (by decide) (fun h32 => ?_) (fun h32 => ?_)) | ((with_reducible refine mk_ll ?_); refine m_if_ne (tgt := 38) dX11_scan_32 (by decide) (by omega) (by omega) (fun h32 => ?_) (fun h32 => ?_)) | ((with_reducible refine mk_lc ?_); refine l_if_ne (tgt := 38) dX11_scan_32 (by decide) (fun h32 => ?_) (fun h32 => ?_)) | ((with_reducible refine mk_n ?_); refine n_if_ne (tgt := 38) dX11_scan_32 (by decide) (by omega) (fun h32 => ?_) (fun h32 => ?_)) | refine e_if_ne (tgt := 38) dX11_scan_32 (by decide) (fun h32 => ?_) (fun h32 => ?_)
                      · try first | contradiction | omega | (simp only [decide_eq_true_eq, decide_eq_false_iff_not] at h32; omega)
                        all_goals
                          refine e_iconst (v := nI 0) dX11_scan_38 rfl ?_
                          refine e_istore dX11_scan_39 (Nat.le_of_ble_eq_true rfl) rfl ?_
                          refine e_iload_n dX11_scan_41 rfl rfl ?_
                          refine e_istore dX11_scan_42 (Nat.le_of_ble_eq_true rfl) rfl ?_
                          exact EV_ls (by repeat (first | exact lsub_0 | refine lsub_n ?_ | refine lsub_s ?_)) kk
                      · try first | contradiction | omega | (simp only [decide_eq_true_eq, decide_eq_false_iff_not] at h32; omega)
                        all_goals
                          omega
        · have eb : scnB (nI c) (nI lo) (nI hh) = false := by unfold scnB; rw [hx, hy, hz]; exact decide_eq_false (by omega)
          have e1 : scnR w (nI c) (nI lo) (nI hh) = -10 := by unfold scnR; rw [eb]; rfl
          have e2 : scnW w (nI c) (nI lo) (nI hh) = w := by unfold scnW; rw [eb]; rfl
          have e3 : scnF fi w (nI c) (nI lo) (nI hh) sc = fi := by unfold scnF; rw [eb]; rfl
          rw [e1, e2, e3]
          refine e_iload_n dX11_scan_0 rfl rfl ?_
          refine x_S1 (M' := mX11_isClient) dX11_scan_1 ml_X11_121 ok_X11_isClient rfl sc_X11_isClient (ct_X11_isClient _) (Nat.le_of_ble_eq_true rfl) (by decide) (Nat.le_of_ble_eq_true rfl) ?_
          rw [hx]
          first | ((with_reducible refine mk_b ?_); refine b_if_eq (tgt := 35) dX11_scan_4 (by decide) (fun h4 => ?_) (fun h4 => ?_)) | ((with_reducible refine mk_ll ?_); refine m_if_eq (tgt := 35) dX11_scan_4 (by decide) (by omega) (by omega) (fun h4 => ?_) (fun h4 => ?_)) | ((with_reducible refine mk_lc ?_); refine l_if_eq (tgt := 35) dX11_scan_4 (by decide) (fun h4 => ?_) (fun h4 => ?_)) | ((with_reducible refine mk_n ?_); refine n_if_eq (tgt := 35) dX11_scan_4 (by decide) (by omega) (fun h4 => ?_) (fun h4 => ?_)) | refine e_if_eq (tgt := 35) dX11_scan_4 (by decide) (fun h4 => ?_) (fun h4 => ?_)
          · try first | contradiction | omega | (simp only [decide_eq_true_eq, decide_eq_false_iff_not] at h4; omega)
            all_goals
              refine e_bipush (v := -10) dX11_scan_35 rfl ?_
              refine e_ret (some _) rfl (r_int dX11_scan_37 rfl) ?_
              exact xq rfl rfl rfl rfl rfl rfl
          · try first | contradiction | omega | (simp only [decide_eq_true_eq, decide_eq_false_iff_not] at h4; omega)
            all_goals
              refine e_iload_n dX11_scan_7 rfl rfl ?_
              refine x_S1 (M' := mX11_isKey) dX11_scan_8 ml_X11_54 ok_X11_isKey rfl sc_X11_isKey (ct_X11_isKey _) (Nat.le_of_ble_eq_true rfl) (by decide) (Nat.le_of_ble_eq_true rfl) ?_
              rw [hy]
              first | ((with_reducible refine mk_b ?_); refine b_if_eq (tgt := 35) dX11_scan_11 (by decide) (fun h11 => ?_) (fun h11 => ?_)) | ((with_reducible refine mk_ll ?_); refine m_if_eq (tgt := 35) dX11_scan_11 (by decide) (by omega) (by omega) (fun h11 => ?_) (fun h11 => ?_)) | ((with_reducible refine mk_lc ?_); refine l_if_eq (tgt := 35) dX11_scan_11 (by decide) (fun h11 => ?_) (fun h11 => ?_)) | ((with_reducible refine mk_n ?_); refine n_if_eq (tgt := 35) dX11_scan_11 (by decide) (by omega) (fun h11 => ?_) (fun h11 => ?_)) | refine e_if_eq (tgt := 35) dX11_scan_11 (by decide) (fun h11 => ?_) (fun h11 => ?_)
              · try first | contradiction | omega | (simp only [decide_eq_true_eq, decide_eq_false_iff_not] at h11; omega)
                all_goals
                  refine e_bipush (v := -10) dX11_scan_35 rfl ?_
                  refine e_ret (some _) rfl (r_int dX11_scan_37 rfl) ?_
                  exact xq rfl rfl rfl rfl rfl rfl
              · try first | contradiction | omega | (simp only [decide_eq_true_eq, decide_eq_false_iff_not] at h11; omega)
                all_goals
                  refine e_iload_n dX11_scan_14 rfl rfl ?_
                  refine x_S1 (M' := mX11_isKey) dX11_scan_15 ml_X11_54 ok_X11_isKey rfl sc_X11_isKey (ct_X11_isKey _) (Nat.le_of_ble_eq_true rfl) (by decide) (Nat.le_of_ble_eq_true rfl) ?_
                  rw [hz]
                  first | ((with_reducible refine mk_b ?_); refine b_if_eq (tgt := 35) dX11_scan_18 (by decide) (fun h18 => ?_) (fun h18 => ?_)) | ((with_reducible refine mk_ll ?_); refine m_if_eq (tgt := 35) dX11_scan_18 (by decide) (by omega) (by omega) (fun h18 => ?_) (fun h18 => ?_)) | ((with_reducible refine mk_lc ?_); refine l_if_eq (tgt := 35) dX11_scan_18 (by decide) (fun h18 => ?_) (fun h18 => ?_)) | ((with_reducible refine mk_n ?_); refine n_if_eq (tgt := 35) dX11_scan_18 (by decide) (by omega) (fun h18 => ?_) (fun h18 => ?_)) | refine e_if_eq (tgt := 35) dX11_scan_18 (by decide) (fun h18 => ?_) (fun h18 => ?_)
                  · try first | contradiction | omega | (simp only [decide_eq_true_eq, decide_eq_false_iff_not] at h18; omega)
                    all_goals
                      refine e_bipush (v := -10) dX11_scan_35 rfl ?_
                      refine e_ret (some _) rfl (r_int dX11_scan_37 rfl) ?_
                      exact xq rfl rfl rfl rfl rfl rfl
                  · try first | contradiction | omega | (simp only [decide_eq_true_eq, decide_eq_false_iff_not] at h18; omega)
                    all_goals
                      refine e_iload_n dX11_scan_21 rfl rfl ?_
                      refine e_iload_n dX11_scan_22 rfl rfl ?_
                      first | ((with_reducible refine mk_nn ?_); refine n_isub dX11_scan_23 (by omega) ?_) | refine e_isub dX11_scan_23 ?_
                      first | ((with_reducible refine mk_n ?_); refine n_i2l dX11_scan_24 (by omega) ?_) | refine e_i2l dX11_scan_24 ?_
                      refine e_lconst (v := lN 0) dX11_scan_25 rfl ?_
                      refine e_ldc2 dX11_scan_26 co_X11_392 ?_
                      refine x_S3 (M' := mX11_isIn) dX11_scan_29 ml_X11_45 ok_X11_isIn rfl sc_X11_isIn (by first | ((with_reducible refine ct_isInN ?_ ?_ ?_) <;> omega) | ((with_reducible refine ct_isInX ?_ ?_) <;> omega) | exact ct_X11_isIn _ _ _) (Nat.le_of_ble_eq_true rfl) (by decide) (Nat.le_of_ble_eq_true rfl) ?_
                      first | ((with_reducible refine mk_b ?_); refine b_if_ne (tgt := 38) dX11_scan_32 (by decide) (fun h32 => ?_) (fun h32 => ?_)) | ((with_reducible refine mk_ll ?_); refine m_if_ne (tgt := 38) dX11_scan_32 (by decide) (by omega) (by omega) (fun h32 => ?_) (fun h32 => ?_)) | ((with_reducible refine mk_lc ?_); refine l_if_ne (tgt := 38) dX11_scan_32 (by decide) (fun h32 => ?_) (fun h32 => ?_)) | ((with_reducible refine mk_n ?_); refine n_if_ne (tgt := 38) dX11_scan_32 (by decide) (by omega) (fun h32 => ?_) (fun h32 => ?_)) | refine e_if_ne (tgt := 38) dX11_scan_32 (by decide) (fun h32 => ?_) (fun h32 => ?_)
                      · try first | contradiction | omega | (simp only [decide_eq_true_eq, decide_eq_false_iff_not] at h32; omega)
                        all_goals
                          omega
                      · try first | contradiction | omega | (simp only [decide_eq_true_eq, decide_eq_false_iff_not] at h32; omega)
                        all_goals
                          refine e_bipush (v := -10) dX11_scan_35 rfl ?_
                          refine e_ret (some _) rfl (r_int dX11_scan_37 rfl) ?_
                          exact xq rfl rfl rfl rfl rfl rfl
