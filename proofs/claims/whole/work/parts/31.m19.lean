def go1 (w : Nat → Nat) (m ch : Nat) (cl : Bool) (k n : Nat) : (Nat → Nat) × Nat :=
  if n < ch ∧ w (1106 + 1000 * w (7694 + 72 * m + 3) + k) ≠ 0 then
    (upN (if cl then upN w (1106 + 1000 * w (7694 + 72 * m + 3) + k) 0 else upN w (1106 + 1000 * w (7694 + 72 * m + 4) + k) (w (1106 + 1000 * w (7694 + 72 * m + 3) + k))) (7694 + 72 * m + 5) (k + 1), n + 1)
  else (w, n)
def goS (w : Nat → Nat) (m ch : Nat) (cl : Bool) : Nat → (Nat → Nat) × Nat
  | 0 => (w, 0)
  | j + 1 => go1 (goS w m ch cl j).1 m ch cl (w (7694 + 72 * m + 5) + j) (goS w m ch cl j).2
theorem goS_s (w : Nat → Nat) (m ch : Nat) (cl : Bool) (j : Nat) : goS w m ch cl (j + 1) = go1 (goS w m ch cl j).1 m ch cl (w (7694 + 72 * m + 5) + j) (goS w m ch cl j).2 := rfl
theorem go1_f {w : Nat → Nat} {m ch : Nat} {cl : Bool} {k n : Nat} (h : ¬ (n < ch ∧ w (1106 + 1000 * w (7694 + 72 * m + 3) + k) ≠ 0)) : go1 w m ch cl k n = (w, n) := if_neg h
theorem go1_t {w : Nat → Nat} {m ch : Nat} {cl : Bool} {k n : Nat} (h : n < ch ∧ w (1106 + 1000 * w (7694 + 72 * m + 3) + k) ≠ 0) : go1 w m ch cl k n = (upN (if cl then upN w (1106 + 1000 * w (7694 + 72 * m + 3) + k) 0 else upN w (1106 + 1000 * w (7694 + 72 * m + 4) + k) (w (1106 + 1000 * w (7694 + 72 * m + 3) + k))) (7694 + 72 * m + 5) (k + 1), n + 1) := if_pos h
theorem goS_st {w : Nat → Nat} {m ch : Nat} {cl : Bool} {j : Nat} (h : ¬ (goS w m ch cl j).2 < ch) : ∀ i, goS w m ch cl (j + i) = goS w m ch cl j
  | 0 => rfl
  | i + 1 => by
    have ih := goS_st h i
    show goS w m ch cl (j + i + 1) = _
    rw [goS_s, ih, go1_f (fun z => h z.1)]
/-- what going over keys leaves alone -/
theorem goS_in {w : Nat → Nat} (iv : Inv w) {m ch : Nat} {cl : Bool} (hm : m < w 3) : ∀ j, w (7694 + 72 * m + 5) + j ≤ 1000 → (∀ q, (q < 1106 ∨ 7106 ≤ q) → q ≠ 7694 + 72 * m + 5 → (goS w m ch cl j).1 q = w q) ∧ (∀ i, i < 6000 → (goS w m ch cl j).1 (1106 + i) ≤ 99999) ∧ (goS w m ch cl j).2 ≤ j ∧ (goS w m ch cl j).2 ≤ ch ∧ (goS w m ch cl j).1 (7694 + 72 * m + 5) ≤ w (7694 + 72 * m + 5) + j ∧ w (7694 + 72 * m + 5) ≤ (goS w m ch cl j).1 (7694 + 72 * m + 5)
  | 0, _ => ⟨fun q _ _ => rfl, fun i hi => iv_va iv hi, Nat.le_refl _, Nat.zero_le _, Nat.le_refl _, Nat.le_refl _⟩
  | j + 1, hj => by
    obtain ⟨h1, h2, h3, h4, h5, h6⟩ := goS_in iv (ch := ch) (cl := cl) hm j (by omega)
    have hq := iv_mv iv hm
    have hmm := iv_mm iv
    have e3 := h1 (7694 + 72 * m + 3) (by omega) (by omega)
    have e4 := h1 (7694 + 72 * m + 4) (by omega) (by omega)
    rw [goS_s]
    by_cases hc : (goS w m ch cl j).2 < ch ∧ (goS w m ch cl j).1 (1106 + 1000 * (goS w m ch cl j).1 (7694 + 72 * m + 3) + (w (7694 + 72 * m + 5) + j)) ≠ 0
    · rw [go1_t hc, e3, e4]
      have hv := h2 (1000 * w (7694 + 72 * m + 3) + (w (7694 + 72 * m + 5) + j)) (by omega)
      rw [← Nat.add_assoc] at hv
      refine ⟨fun q hq1 hq2 => ?_, fun i hi => ?_, by omega, by omega, by show upN _ _ _ _ ≤ _; rw [upN_s]; omega, by show _ ≤ upN _ _ _ _; rw [upN_s]; omega⟩
      · show upN _ _ _ q = w q
        rw [upN_n hq2]
        cases cl
        · show upN _ _ _ q = w q
          rw [upN_n (by omega)]; exact h1 q hq1 hq2
        · show upN _ _ _ q = w q
          rw [upN_n (by omega)]; exact h1 q hq1 hq2
      · show upN _ _ _ (1106 + i) ≤ 99999
        rw [upN_n (by omega)]
        cases cl
        · show upN _ _ _ (1106 + i) ≤ 99999
          unfold upN
          split
          · exact hv
          · exact h2 i hi
        · show upN _ _ _ (1106 + i) ≤ 99999
          unfold upN
          split
          · omega
          · exact h2 i hi
    · rw [go1_f hc]
      exact ⟨h1, h2, Nat.le_succ_of_le h3, h4, Nat.le_succ_of_le h5, h6⟩
def govL (w : Nat → Nat) (m : Nat) : Nat := w (7694 + 72 * m + 2) - w (7694 + 72 * m + 5)
def govN (w : Nat → Nat) (m ch : Nat) (cl : Bool) : Nat := (goS w m ch cl (govL w m)).2
def govW (w : Nat → Nat) (m ch : Nat) (cl : Bool) : Nat → Nat := upN (goS w m ch cl (govL w m)).1 (8558 + (if cl then 14 else 13)) (w (8558 + (if cl then 14 else 13)) + govN w m ch cl)
theorem ct_goesOver1 {fi : FI} {fr : FR} {ai : FI} {ar : FR} {N : Nat} {w : Nat → Nat} (sm : SM fr) (iv : Inv w) {m ch : Nat} (hm : m < w 3) (hch : ch ≤ 16) (hcu : w (7694 + 72 * m + 5) ≤ w (7694 + 72 * m + 2)) : CP mX11_goesOver 1 0 0 [.ref (rf 11 80), .int (nI (7694 + 72 * m)), .int (nI ch), .int (nI 1)] fi fr (mW ai w) ar N (xQ (some (.int (nI (govN w m ch true)))) fi fr (mW ai (govW w m ch true)) ar N) := by
  obtain ⟨sW, sA0, sK, sU, sC, sKC, sT, sCl⟩ := id sm
  have hq := iv_mv iv hm
  have h3 := iv_mm iv
  change EV mX11_goesOver 1 0 0 0 [some (.ref (rf 11 80)), some (.int (nI (7694 + 72 * m))), some (.int (nI ch)), some (.int (nI 1)), none, none, none, none] [] fi fr (mW ai w) ar N (xQ (some (.int (nI (govN w m ch true)))) fi fr (mW ai (govW w m ch true)) ar N)
  have fin : ∀ j k : Nat, (goS w m ch true j) = goS w m ch true (govL w m) → w (7694 + 72 * m + 5) + j ≤ 1000 → EV mX11_goesOver 1 0 0 125 [some (.ref (rf 11 80)), some (.int (nI (7694 + 72 * m))), some (.int (nI ch)), some (.int (nI 1)), some (.int (nI (goS w m ch true j).2)), none, none, none] [] fi fr (mW ai (goS w m ch true j).1) ar N (xQ (some (.int (nI (govN w m ch true)))) fi fr (mW ai (govW w m ch true)) ar N) := by
    intro j k he hj
    obtain ⟨g1, g2, g3, g4, g5, g6⟩ := goS_in iv (ch := ch) (cl := true) hm j hj
    have rc := g1 (8558 + 14) (by omega) (by omega)
    refine e_aload_n dX11_goesOver_125 rfl rfl ?_
    refine e_iload_n dX11_goesOver_126 rfl rfl ?_
    first | ((with_reducible refine mk_b ?_); refine b_if_eq (tgt := 135) dX11_goesOver_127 (by decide) (fun h127 => ?_) (fun h127 => ?_)) | ((with_reducible refine mk_ll ?_); refine m_if_eq (tgt := 135) dX11_goesOver_127 (by decide) (by omega) (by omega) (fun h127 => ?_) (fun h127 => ?_)) | ((with_reducible refine mk_lc ?_); refine l_if_eq (tgt := 135) dX11_goesOver_127 (by decide) (fun h127 => ?_) (fun h127 => ?_)) | ((with_reducible refine mk_n ?_); refine n_if_eq (tgt := 135) dX11_goesOver_127 (by decide) (by omega) (fun h127 => ?_) (fun h127 => ?_)) | refine e_if_eq (tgt := 135) dX11_goesOver_127 (by decide) (fun h127 => ?_) (fun h127 => ?_)
    · try first | contradiction | omega | (simp only [decide_eq_true_eq, decide_eq_false_iff_not] at h127; omega)
      all_goals
        refine e_bipush (v := nI 13) dX11_goesOver_135 rfl ?_
        refine e_iload dX11_goesOver_137 rfl ?_
        refine y_V2 (M' := mX11_counts) dX11_goesOver_139 ml_X11_97 ok_X11_counts (by decide) rfl im_X11_counts se_X11_counts (ct_X11_counts ‹_› (by omega)) (Nat.le_of_ble_eq_true rfl) (by decide) (Nat.le_of_ble_eq_true rfl) ?_
        refine e_iload dX11_goesOver_142 rfl ?_
        refine e_ret (some _) rfl (r_int dX11_goesOver_144 rfl) ?_
        refine xq ?_ rfl rfl ?_ rfl rfl
        · unfold govN; rw [← he]
        · unfold govW govN; rw [← he, rc]; rfl
    · try first | contradiction | omega | (simp only [decide_eq_true_eq, decide_eq_false_iff_not] at h127; omega)
      all_goals
        refine e_bipush (v := nI 14) dX11_goesOver_130 rfl ?_
        refine e_goto (tgt := 137) dX11_goesOver_132 (by decide) ?_
        refine e_iload dX11_goesOver_137 rfl ?_
        refine y_V2 (M' := mX11_counts) dX11_goesOver_139 ml_X11_97 ok_X11_counts (by decide) rfl im_X11_counts se_X11_counts (ct_X11_counts ‹_› (by omega)) (Nat.le_of_ble_eq_true rfl) (by decide) (Nat.le_of_ble_eq_true rfl) ?_
        refine e_iload dX11_goesOver_142 rfl ?_
        refine e_ret (some _) rfl (r_int dX11_goesOver_144 rfl) ?_
        refine xq ?_ rfl rfl ?_ rfl rfl
        · unfold govN; rw [← he]
        · unfold govW govN; rw [← he, rc]; rfl
  have key := ev_up (P := fun j => EV mX11_goesOver 1 0 0 17 [some (.ref (rf 11 80)), some (.int (nI (7694 + 72 * m))), some (.int (nI ch)), some (.int (nI 1)), some (.int (nI (goS w m ch true j).2)), none, some (.int (nI (w (7694 + 72 * m + 5) + j))), none] [] fi fr (mW ai (goS w m ch true j).1) ar N (xQ (some (.int (nI (govN w m ch true)))) fi fr (mW ai (govW w m ch true)) ar N)) (govL w m) (fun j hj ih => by
    unfold govL at hj
    obtain ⟨g1, g2, g3, g4, g5, g6⟩ := goS_in iv (ch := ch) (cl := true) hm j (by omega)
    have e2 := g1 (7694 + 72 * m + 2) (by omega) (by omega)
    have e3 := g1 (7694 + 72 * m + 3) (by omega) (by omega)
    have e4 := g1 (7694 + 72 * m + 4) (by omega) (by omega)
    have hv := g2 (1000 * w (7694 + 72 * m + 3) + (w (7694 + 72 * m + 5) + j)) (by omega)
    rw [← Nat.add_assoc] at hv
    rw [goS_s] at ih
    have fin' := fin j
    refine e_iload dX11_goesOver_17 rfl ?_
    refine e_aload_n dX11_goesOver_19 rfl rfl ?_
    refine e_getR dX11_goesOver_20 fl_X11_7 rfl (by assumption) ?_
    refine e_iload_n dX11_goesOver_23 rfl rfl ?_
    refine e_iconst (v := nI 2) dX11_goesOver_24 rfl ?_
    first | ((with_reducible refine mk_nn ?_); refine n_iadd dX11_goesOver_25 ?_) | refine e_iadd dX11_goesOver_25 ?_
    first | ((with_reducible refine mk_ldw ?_); refine e_ldw dX11_goesOver_26 (by omega) ?_) | refine e_iald _ dX11_goesOver_26 ⟨by decide, by decide⟩ rfl rfl (by simp only [lenK]; omega) ?_
    rw [e2]
    first | ((with_reducible refine mk_nn ?_); refine n_icmp_ge (tgt := 125) dX11_goesOver_27 (by decide) (by omega) (by omega) (fun h27 => ?_) (fun h27 => ?_)) | refine e_icmp_ge (tgt := 125) dX11_goesOver_27 (by decide) (fun h27 => ?_) (fun h27 => ?_)
    · try first | contradiction | omega
      all_goals
        have hst := goS_st (w := w) (m := m) (ch := ch) (cl := true) (j := j) (by omega) (govL w m - j)
        rw [show j + (govL w m - j) = govL w m by unfold govL; omega] at hst
        exact EV_ls (by repeat (first | exact lsub_0 | refine lsub_n ?_ | refine lsub_s ?_)) (fin j 0 hst.symm (by omega))
    · try first | contradiction | omega
      all_goals
        refine e_iload dX11_goesOver_30 rfl ?_
        refine e_iload_n dX11_goesOver_32 rfl rfl ?_
        first | ((with_reducible refine mk_nn ?_); refine n_icmp_ge (tgt := 125) dX11_goesOver_33 (by decide) (by omega) (by omega) (fun h33 => ?_) (fun h33 => ?_)) | refine e_icmp_ge (tgt := 125) dX11_goesOver_33 (by decide) (fun h33 => ?_) (fun h33 => ?_)
        · try first | contradiction | omega
          all_goals
            have hst := goS_st (w := w) (m := m) (ch := ch) (cl := true) (j := j) (by omega) (govL w m - j)
            rw [show j + (govL w m - j) = govL w m by unfold govL; omega] at hst
            exact EV_ls (by repeat (first | exact lsub_0 | refine lsub_n ?_ | refine lsub_s ?_)) (fin j 0 hst.symm (by omega))
        · try first | contradiction | omega
          all_goals
            refine e_aload_n dX11_goesOver_36 rfl rfl ?_
            refine e_getR dX11_goesOver_37 fl_X11_7 rfl (by assumption) ?_
            refine e_iload_n dX11_goesOver_40 rfl rfl ?_
            refine e_iconst (v := nI 3) dX11_goesOver_41 rfl ?_
            first | ((with_reducible refine mk_nn ?_); refine n_iadd dX11_goesOver_42 ?_) | refine e_iadd dX11_goesOver_42 ?_
            first | ((with_reducible refine mk_ldw ?_); refine e_ldw dX11_goesOver_43 (by omega) ?_) | refine e_iald _ dX11_goesOver_43 ⟨by decide, by decide⟩ rfl rfl (by simp only [lenK]; omega) ?_
            rw [e3]
            refine e_iload dX11_goesOver_44 rfl ?_
            refine x_S2 (M' := mX11_storeAt) dX11_goesOver_46 ml_X11_136 ok_X11_storeAt rfl sc_X11_storeAt (ct_X11_storeAt) (Nat.le_of_ble_eq_true rfl) (by decide) (Nat.le_of_ble_eq_true rfl) ?_
            refine e_istore dX11_goesOver_49 (Nat.le_of_ble_eq_true rfl) rfl ?_
            refine e_aload_n dX11_goesOver_51 rfl rfl ?_
            refine e_getR dX11_goesOver_52 fl_X11_7 rfl (by assumption) ?_
            refine e_iload dX11_goesOver_55 rfl ?_
            first | ((with_reducible refine mk_ldw ?_); refine e_ldw dX11_goesOver_57 (by omega) ?_) | refine e_iald _ dX11_goesOver_57 ⟨by decide, by decide⟩ rfl rfl (by simp only [lenK]; omega) ?_
            first | ((with_reducible refine mk_b ?_); refine b_if_ne (tgt := 64) dX11_goesOver_58 (by decide) (fun h58 => ?_) (fun h58 => ?_)) | ((with_reducible refine mk_ll ?_); refine m_if_ne (tgt := 64) dX11_goesOver_58 (by decide) (by omega) (by omega) (fun h58 => ?_) (fun h58 => ?_)) | ((with_reducible refine mk_lc ?_); refine l_if_ne (tgt := 64) dX11_goesOver_58 (by decide) (fun h58 => ?_) (fun h58 => ?_)) | ((with_reducible refine mk_n ?_); refine n_if_ne (tgt := 64) dX11_goesOver_58 (by decide) (by omega) (fun h58 => ?_) (fun h58 => ?_)) | refine e_if_ne (tgt := 64) dX11_goesOver_58 (by decide) (fun h58 => ?_) (fun h58 => ?_)
            · try first | contradiction | omega | (simp only [decide_eq_true_eq, decide_eq_false_iff_not] at h58; omega)
              all_goals
                refine e_iload_n dX11_goesOver_64 rfl rfl ?_
                first | ((with_reducible refine mk_b ?_); refine b_if_eq (tgt := 79) dX11_goesOver_65 (by decide) (fun h65 => ?_) (fun h65 => ?_)) | ((with_reducible refine mk_ll ?_); refine m_if_eq (tgt := 79) dX11_goesOver_65 (by decide) (by omega) (by omega) (fun h65 => ?_) (fun h65 => ?_)) | ((with_reducible refine mk_lc ?_); refine l_if_eq (tgt := 79) dX11_goesOver_65 (by decide) (fun h65 => ?_) (fun h65 => ?_)) | ((with_reducible refine mk_n ?_); refine n_if_eq (tgt := 79) dX11_goesOver_65 (by decide) (by omega) (fun h65 => ?_) (fun h65 => ?_)) | refine e_if_eq (tgt := 79) dX11_goesOver_65 (by decide) (fun h65 => ?_) (fun h65 => ?_)
                · try first | contradiction | omega | (simp only [decide_eq_true_eq, decide_eq_false_iff_not] at h65; omega)
                  all_goals
                    refine e_aload_n dX11_goesOver_79 rfl rfl ?_
                    refine e_getR dX11_goesOver_80 fl_X11_7 rfl (by assumption) ?_
                    refine e_aload_n dX11_goesOver_83 rfl rfl ?_
                    refine e_getR dX11_goesOver_84 fl_X11_7 rfl (by assumption) ?_
                    refine e_iload_n dX11_goesOver_87 rfl rfl ?_
                    refine e_iconst (v := nI 4) dX11_goesOver_88 rfl ?_
                    first | ((with_reducible refine mk_nn ?_); refine n_iadd dX11_goesOver_89 ?_) | refine e_iadd dX11_goesOver_89 ?_
                    first | ((with_reducible refine mk_ldw ?_); refine e_ldw dX11_goesOver_90 (by omega) ?_) | refine e_iald _ dX11_goesOver_90 ⟨by decide, by decide⟩ rfl rfl (by simp only [lenK]; omega) ?_
                    rw [e4]
                    refine e_iload dX11_goesOver_91 rfl ?_
                    refine x_S2 (M' := mX11_storeAt) dX11_goesOver_93 ml_X11_136 ok_X11_storeAt rfl sc_X11_storeAt (ct_X11_storeAt) (Nat.le_of_ble_eq_true rfl) (by decide) (Nat.le_of_ble_eq_true rfl) ?_
                    refine e_aload_n dX11_goesOver_96 rfl rfl ?_
                    refine e_getR dX11_goesOver_97 fl_X11_7 rfl (by assumption) ?_
                    refine e_iload dX11_goesOver_100 rfl ?_
                    first | ((with_reducible refine mk_ldw ?_); refine e_ldw dX11_goesOver_102 (by omega) ?_) | refine e_iald _ dX11_goesOver_102 ⟨by decide, by decide⟩ rfl rfl (by simp only [lenK]; omega) ?_
                    first | ((with_reducible refine mk_stw ?_); refine e_stw dX11_goesOver_103 (by omega) ?_) | refine e_iast _ dX11_goesOver_103 ⟨by decide, by decide⟩ rfl rfl (by simp only [lenK]; omega) ?_
                    refine e_aload_n dX11_goesOver_104 rfl rfl ?_
                    refine e_getR dX11_goesOver_105 fl_X11_7 rfl (by assumption) ?_
                    refine e_iload_n dX11_goesOver_108 rfl rfl ?_
                    refine e_iconst (v := nI 5) dX11_goesOver_109 rfl ?_
                    first | ((with_reducible refine mk_nn ?_); refine n_iadd dX11_goesOver_110 ?_) | refine e_iadd dX11_goesOver_110 ?_
                    refine e_iload dX11_goesOver_111 rfl ?_
                    refine e_iconst (v := nI 1) dX11_goesOver_113 rfl ?_
                    first | ((with_reducible refine mk_nn ?_); refine n_iadd dX11_goesOver_114 ?_) | refine e_iadd dX11_goesOver_114 ?_
                    first | ((with_reducible refine mk_stw ?_); refine e_stw dX11_goesOver_115 (by omega) ?_) | refine e_iast _ dX11_goesOver_115 ⟨by decide, by decide⟩ rfl rfl (by simp only [lenK]; omega) ?_
                    first | refine n_inc dX11_goesOver_116 rfl (Nat.le_of_ble_eq_true rfl) rfl ?_ | refine e_iinc dX11_goesOver_116 rfl rfl (Nat.le_of_ble_eq_true rfl) rfl ?_
                    first | refine n_inc dX11_goesOver_119 rfl (Nat.le_of_ble_eq_true rfl) rfl ?_ | refine e_iinc dX11_goesOver_119 rfl rfl (Nat.le_of_ble_eq_true rfl) rfl ?_
                    refine e_goto (tgt := 17) dX11_goesOver_122 (by decide) ?_
                    first | (rw [go1_f (by rw [e3]; omega)] at ih; refine EV_ls ?_ ih; repeat (first | exact lsub_0 | refine lsub_n ?_ | refine lsub_s ?_)) | (rw [go1_t (by rw [e3]; omega), e3, e4] at ih; refine EV_ls ?_ ih; repeat (first | exact lsub_0 | refine lsub_n ?_ | refine lsub_s ?_))
                · try first | contradiction | omega | (simp only [decide_eq_true_eq, decide_eq_false_iff_not] at h65; omega)
                  all_goals
                    refine e_aload_n dX11_goesOver_68 rfl rfl ?_
                    refine e_getR dX11_goesOver_69 fl_X11_7 rfl (by assumption) ?_
                    refine e_iload dX11_goesOver_72 rfl ?_
                    refine e_iconst (v := nI 0) dX11_goesOver_74 rfl ?_
                    first | ((with_reducible refine mk_stw ?_); refine e_stw dX11_goesOver_75 (by omega) ?_) | refine e_iast _ dX11_goesOver_75 ⟨by decide, by decide⟩ rfl rfl (by simp only [lenK]; omega) ?_
                    refine e_goto (tgt := 104) dX11_goesOver_76 (by decide) ?_
                    refine e_aload_n dX11_goesOver_104 rfl rfl ?_
                    refine e_getR dX11_goesOver_105 fl_X11_7 rfl (by assumption) ?_
                    refine e_iload_n dX11_goesOver_108 rfl rfl ?_
                    refine e_iconst (v := nI 5) dX11_goesOver_109 rfl ?_
                    first | ((with_reducible refine mk_nn ?_); refine n_iadd dX11_goesOver_110 ?_) | refine e_iadd dX11_goesOver_110 ?_
                    refine e_iload dX11_goesOver_111 rfl ?_
                    refine e_iconst (v := nI 1) dX11_goesOver_113 rfl ?_
                    first | ((with_reducible refine mk_nn ?_); refine n_iadd dX11_goesOver_114 ?_) | refine e_iadd dX11_goesOver_114 ?_
                    first | ((with_reducible refine mk_stw ?_); refine e_stw dX11_goesOver_115 (by omega) ?_) | refine e_iast _ dX11_goesOver_115 ⟨by decide, by decide⟩ rfl rfl (by simp only [lenK]; omega) ?_
                    first | refine n_inc dX11_goesOver_116 rfl (Nat.le_of_ble_eq_true rfl) rfl ?_ | refine e_iinc dX11_goesOver_116 rfl rfl (Nat.le_of_ble_eq_true rfl) rfl ?_
                    first | refine n_inc dX11_goesOver_119 rfl (Nat.le_of_ble_eq_true rfl) rfl ?_ | refine e_iinc dX11_goesOver_119 rfl rfl (Nat.le_of_ble_eq_true rfl) rfl ?_
                    refine e_goto (tgt := 17) dX11_goesOver_122 (by decide) ?_
                    first | (rw [go1_f (by rw [e3]; omega)] at ih; refine EV_ls ?_ ih; repeat (first | exact lsub_0 | refine lsub_n ?_ | refine lsub_s ?_)) | (rw [go1_t (by rw [e3]; omega), e3, e4] at ih; refine EV_ls ?_ ih; repeat (first | exact lsub_0 | refine lsub_n ?_ | refine lsub_s ?_))
            · try first | contradiction | omega | (simp only [decide_eq_true_eq, decide_eq_false_iff_not] at h58; omega)
              all_goals
                refine e_goto (tgt := 119) dX11_goesOver_61 (by decide) ?_
                first | refine n_inc dX11_goesOver_119 rfl (Nat.le_of_ble_eq_true rfl) rfl ?_ | refine e_iinc dX11_goesOver_119 rfl rfl (Nat.le_of_ble_eq_true rfl) rfl ?_
                refine e_goto (tgt := 17) dX11_goesOver_122 (by decide) ?_
                first | (rw [go1_f (by rw [e3]; omega)] at ih; refine EV_ls ?_ ih; repeat (first | exact lsub_0 | refine lsub_n ?_ | refine lsub_s ?_)) | (rw [go1_t (by rw [e3]; omega), e3, e4] at ih; refine EV_ls ?_ ih; repeat (first | exact lsub_0 | refine lsub_n ?_ | refine lsub_s ?_))
    ) (by
    obtain ⟨g1, g2, g3, g4, g5, g6⟩ := goS_in iv (ch := ch) (cl := true) hm (govL w m) (by unfold govL; omega)
    have e2 := g1 (7694 + 72 * m + 2) (by omega) (by omega)
    have eL : w (7694 + 72 * m + 5) + govL w m = w (7694 + 72 * m + 2) := by unfold govL; omega
    refine e_iload dX11_goesOver_17 rfl ?_
    refine e_aload_n dX11_goesOver_19 rfl rfl ?_
    refine e_getR dX11_goesOver_20 fl_X11_7 rfl (by assumption) ?_
    refine e_iload_n dX11_goesOver_23 rfl rfl ?_
    refine e_iconst (v := nI 2) dX11_goesOver_24 rfl ?_
    first | ((with_reducible refine mk_nn ?_); refine n_iadd dX11_goesOver_25 ?_) | refine e_iadd dX11_goesOver_25 ?_
    first | ((with_reducible refine mk_ldw ?_); refine e_ldw dX11_goesOver_26 (by omega) ?_) | refine e_iald _ dX11_goesOver_26 ⟨by decide, by decide⟩ rfl rfl (by simp only [lenK]; omega) ?_
    rw [e2]
    first | ((with_reducible refine mk_nn ?_); refine n_icmp_ge (tgt := 125) dX11_goesOver_27 (by decide) (by omega) (by omega) (fun h27 => ?_) (fun h27 => ?_)) | refine e_icmp_ge (tgt := 125) dX11_goesOver_27 (by decide) (fun h27 => ?_) (fun h27 => ?_)
    · try first | contradiction | omega
      all_goals
        exact EV_ls (by repeat (first | exact lsub_0 | refine lsub_n ?_ | refine lsub_s ?_)) (fin _ 0 rfl (by omega))
    · try first | contradiction | omega
      all_goals
        omega
    )
  have kk := key 0 (by omega)
  refine e_iconst (v := nI 0) dX11_goesOver_0 rfl ?_
  refine e_istore dX11_goesOver_1 (Nat.le_of_ble_eq_true rfl) rfl ?_
  refine e_aload_n dX11_goesOver_3 rfl rfl ?_
  refine e_getR dX11_goesOver_4 fl_X11_7 rfl (by assumption) ?_
  refine e_iload_n dX11_goesOver_7 rfl rfl ?_
  refine e_iconst (v := nI 5) dX11_goesOver_8 rfl ?_
  first | ((with_reducible refine mk_nn ?_); refine n_iadd dX11_goesOver_9 ?_) | refine e_iadd dX11_goesOver_9 ?_
  first | ((with_reducible refine mk_ldw ?_); refine e_ldw dX11_goesOver_10 (by omega) ?_) | refine e_iald _ dX11_goesOver_10 ⟨by decide, by decide⟩ rfl rfl (by simp only [lenK]; omega) ?_
  refine e_istore dX11_goesOver_11 (Nat.le_of_ble_eq_true rfl) rfl ?_
  refine e_iload dX11_goesOver_13 rfl ?_
  refine e_istore dX11_goesOver_15 (Nat.le_of_ble_eq_true rfl) rfl ?_
  exact EV_ls (by repeat (first | exact lsub_0 | refine lsub_n ?_ | refine lsub_s ?_)) kk
theorem ct_goesOver0 {fi : FI} {fr : FR} {ai : FI} {ar : FR} {N : Nat} {w : Nat → Nat} (sm : SM fr) (iv : Inv w) {m ch : Nat} (hm : m < w 3) (hch : ch ≤ 16) (hcu : w (7694 + 72 * m + 5) ≤ w (7694 + 72 * m + 2)) : CP mX11_goesOver 1 0 0 [.ref (rf 11 80), .int (nI (7694 + 72 * m)), .int (nI ch), .int (nI 0)] fi fr (mW ai w) ar N (xQ (some (.int (nI (govN w m ch false)))) fi fr (mW ai (govW w m ch false)) ar N) := by
  obtain ⟨sW, sA0, sK, sU, sC, sKC, sT, sCl⟩ := id sm
  have hq := iv_mv iv hm
  have h3 := iv_mm iv
  change EV mX11_goesOver 1 0 0 0 [some (.ref (rf 11 80)), some (.int (nI (7694 + 72 * m))), some (.int (nI ch)), some (.int (nI 0)), none, none, none, none] [] fi fr (mW ai w) ar N (xQ (some (.int (nI (govN w m ch false)))) fi fr (mW ai (govW w m ch false)) ar N)
  have fin : ∀ j k : Nat, (goS w m ch false j) = goS w m ch false (govL w m) → w (7694 + 72 * m + 5) + j ≤ 1000 → EV mX11_goesOver 1 0 0 125 [some (.ref (rf 11 80)), some (.int (nI (7694 + 72 * m))), some (.int (nI ch)), some (.int (nI 0)), some (.int (nI (goS w m ch false j).2)), none, none, none] [] fi fr (mW ai (goS w m ch false j).1) ar N (xQ (some (.int (nI (govN w m ch false)))) fi fr (mW ai (govW w m ch false)) ar N) := by
    intro j k he hj
    obtain ⟨g1, g2, g3, g4, g5, g6⟩ := goS_in iv (ch := ch) (cl := false) hm j hj
    have rc := g1 (8558 + 13) (by omega) (by omega)
    refine e_aload_n dX11_goesOver_125 rfl rfl ?_
    refine e_iload_n dX11_goesOver_126 rfl rfl ?_
    first | ((with_reducible refine mk_b ?_); refine b_if_eq (tgt := 135) dX11_goesOver_127 (by decide) (fun h127 => ?_) (fun h127 => ?_)) | ((with_reducible refine mk_ll ?_); refine m_if_eq (tgt := 135) dX11_goesOver_127 (by decide) (by omega) (by omega) (fun h127 => ?_) (fun h127 => ?_)) | ((with_reducible refine mk_lc ?_); refine l_if_eq (tgt := 135) dX11_goesOver_127 (by decide) (fun h127 => ?_) (fun h127 => ?_)) | ((with_reducible refine mk_n ?_); refine n_if_eq (tgt := 135) dX11_goesOver_127 (by decide) (by omega) (fun h127 => ?_) (fun h127 => ?_)) | refine e_if_eq (tgt := 135) dX11_goesOver_127 (by decide) (fun h127 => ?_) (fun h127 => ?_)
    · try first | contradiction | omega | (simp only [decide_eq_true_eq, decide_eq_false_iff_not] at h127; omega)
      all_goals
        refine e_bipush (v := nI 13) dX11_goesOver_135 rfl ?_
        refine e_iload dX11_goesOver_137 rfl ?_
        refine y_V2 (M' := mX11_counts) dX11_goesOver_139 ml_X11_97 ok_X11_counts (by decide) rfl im_X11_counts se_X11_counts (ct_X11_counts ‹_› (by omega)) (Nat.le_of_ble_eq_true rfl) (by decide) (Nat.le_of_ble_eq_true rfl) ?_
        refine e_iload dX11_goesOver_142 rfl ?_
        refine e_ret (some _) rfl (r_int dX11_goesOver_144 rfl) ?_
        refine xq ?_ rfl rfl ?_ rfl rfl
        · unfold govN; rw [← he]
        · unfold govW govN; rw [← he, rc]; rfl
    · try first | contradiction | omega | (simp only [decide_eq_true_eq, decide_eq_false_iff_not] at h127; omega)
      all_goals
        refine e_bipush (v := nI 14) dX11_goesOver_130 rfl ?_
        refine e_goto (tgt := 137) dX11_goesOver_132 (by decide) ?_
        refine e_iload dX11_goesOver_137 rfl ?_
        refine y_V2 (M' := mX11_counts) dX11_goesOver_139 ml_X11_97 ok_X11_counts (by decide) rfl im_X11_counts se_X11_counts (ct_X11_counts ‹_› (by omega)) (Nat.le_of_ble_eq_true rfl) (by decide) (Nat.le_of_ble_eq_true rfl) ?_
        refine e_iload dX11_goesOver_142 rfl ?_
        refine e_ret (some _) rfl (r_int dX11_goesOver_144 rfl) ?_
        refine xq ?_ rfl rfl ?_ rfl rfl
        · unfold govN; rw [← he]
        · unfold govW govN; rw [← he, rc]; rfl
  have key := ev_up (P := fun j => EV mX11_goesOver 1 0 0 17 [some (.ref (rf 11 80)), some (.int (nI (7694 + 72 * m))), some (.int (nI ch)), some (.int (nI 0)), some (.int (nI (goS w m ch false j).2)), none, some (.int (nI (w (7694 + 72 * m + 5) + j))), none] [] fi fr (mW ai (goS w m ch false j).1) ar N (xQ (some (.int (nI (govN w m ch false)))) fi fr (mW ai (govW w m ch false)) ar N)) (govL w m) (fun j hj ih => by
    unfold govL at hj
    obtain ⟨g1, g2, g3, g4, g5, g6⟩ := goS_in iv (ch := ch) (cl := false) hm j (by omega)
    have e2 := g1 (7694 + 72 * m + 2) (by omega) (by omega)
    have e3 := g1 (7694 + 72 * m + 3) (by omega) (by omega)
    have e4 := g1 (7694 + 72 * m + 4) (by omega) (by omega)
    have hv := g2 (1000 * w (7694 + 72 * m + 3) + (w (7694 + 72 * m + 5) + j)) (by omega)
    rw [← Nat.add_assoc] at hv
    rw [goS_s] at ih
    have fin' := fin j
    refine e_iload dX11_goesOver_17 rfl ?_
    refine e_aload_n dX11_goesOver_19 rfl rfl ?_
    refine e_getR dX11_goesOver_20 fl_X11_7 rfl (by assumption) ?_
    refine e_iload_n dX11_goesOver_23 rfl rfl ?_
    refine e_iconst (v := nI 2) dX11_goesOver_24 rfl ?_
    first | ((with_reducible refine mk_nn ?_); refine n_iadd dX11_goesOver_25 ?_) | refine e_iadd dX11_goesOver_25 ?_
    first | ((with_reducible refine mk_ldw ?_); refine e_ldw dX11_goesOver_26 (by omega) ?_) | refine e_iald _ dX11_goesOver_26 ⟨by decide, by decide⟩ rfl rfl (by simp only [lenK]; omega) ?_
    rw [e2]
    first | ((with_reducible refine mk_nn ?_); refine n_icmp_ge (tgt := 125) dX11_goesOver_27 (by decide) (by omega) (by omega) (fun h27 => ?_) (fun h27 => ?_)) | refine e_icmp_ge (tgt := 125) dX11_goesOver_27 (by decide) (fun h27 => ?_) (fun h27 => ?_)
    · try first | contradiction | omega
      all_goals
        have hst := goS_st (w := w) (m := m) (ch := ch) (cl := false) (j := j) (by omega) (govL w m - j)
        rw [show j + (govL w m - j) = govL w m by unfold govL; omega] at hst
        exact EV_ls (by repeat (first | exact lsub_0 | refine lsub_n ?_ | refine lsub_s ?_)) (fin j 0 hst.symm (by omega))
    · try first | contradiction | omega
      all_goals
        refine e_iload dX11_goesOver_30 rfl ?_
        refine e_iload_n dX11_goesOver_32 rfl rfl ?_
        first | ((with_reducible refine mk_nn ?_); refine n_icmp_ge (tgt := 125) dX11_goesOver_33 (by decide) (by omega) (by omega) (fun h33 => ?_) (fun h33 => ?_)) | refine e_icmp_ge (tgt := 125) dX11_goesOver_33 (by decide) (fun h33 => ?_) (fun h33 => ?_)
        · try first | contradiction | omega
          all_goals
            have hst := goS_st (w := w) (m := m) (ch := ch) (cl := false) (j := j) (by omega) (govL w m - j)
            rw [show j + (govL w m - j) = govL w m by unfold govL; omega] at hst
            exact EV_ls (by repeat (first | exact lsub_0 | refine lsub_n ?_ | refine lsub_s ?_)) (fin j 0 hst.symm (by omega))
        · try first | contradiction | omega
          all_goals
            refine e_aload_n dX11_goesOver_36 rfl rfl ?_
            refine e_getR dX11_goesOver_37 fl_X11_7 rfl (by assumption) ?_
            refine e_iload_n dX11_goesOver_40 rfl rfl ?_
            refine e_iconst (v := nI 3) dX11_goesOver_41 rfl ?_
            first | ((with_reducible refine mk_nn ?_); refine n_iadd dX11_goesOver_42 ?_) | refine e_iadd dX11_goesOver_42 ?_
            first | ((with_reducible refine mk_ldw ?_); refine e_ldw dX11_goesOver_43 (by omega) ?_) | refine e_iald _ dX11_goesOver_43 ⟨by decide, by decide⟩ rfl rfl (by simp only [lenK]; omega) ?_
            rw [e3]
            refine e_iload dX11_goesOver_44 rfl ?_
            refine x_S2 (M' := mX11_storeAt) dX11_goesOver_46 ml_X11_136 ok_X11_storeAt rfl sc_X11_storeAt (ct_X11_storeAt) (Nat.le_of_ble_eq_true rfl) (by decide) (Nat.le_of_ble_eq_true rfl) ?_
            refine e_istore dX11_goesOver_49 (Nat.le_of_ble_eq_true rfl) rfl ?_
            refine e_aload_n dX11_goesOver_51 rfl rfl ?_
            refine e_getR dX11_goesOver_52 fl_X11_7 rfl (by assumption) ?_
            refine e_iload dX11_goesOver_55 rfl ?_
            first | ((with_reducible refine mk_ldw ?_); refine e_ldw dX11_goesOver_57 (by omega) ?_) | refine e_iald _ dX11_goesOver_57 ⟨by decide, by decide⟩ rfl rfl (by simp only [lenK]; omega) ?_
            first | ((with_reducible refine mk_b ?_); refine b_if_ne (tgt := 64) dX11_goesOver_58 (by decide) (fun h58 => ?_) (fun h58 => ?_)) | ((with_reducible refine mk_ll ?_); refine m_if_ne (tgt := 64) dX11_goesOver_58 (by decide) (by omega) (by omega) (fun h58 => ?_) (fun h58 => ?_)) | ((with_reducible refine mk_lc ?_); refine l_if_ne (tgt := 64) dX11_goesOver_58 (by decide) (fun h58 => ?_) (fun h58 => ?_)) | ((with_reducible refine mk_n ?_); refine n_if_ne (tgt := 64) dX11_goesOver_58 (by decide) (by omega) (fun h58 => ?_) (fun h58 => ?_)) | refine e_if_ne (tgt := 64) dX11_goesOver_58 (by decide) (fun h58 => ?_) (fun h58 => ?_)
            · try first | contradiction | omega | (simp only [decide_eq_true_eq, decide_eq_false_iff_not] at h58; omega)
              all_goals
                refine e_iload_n dX11_goesOver_64 rfl rfl ?_
                first | ((with_reducible refine mk_b ?_); refine b_if_eq (tgt := 79) dX11_goesOver_65 (by decide) (fun h65 => ?_) (fun h65 => ?_)) | ((with_reducible refine mk_ll ?_); refine m_if_eq (tgt := 79) dX11_goesOver_65 (by decide) (by omega) (by omega) (fun h65 => ?_) (fun h65 => ?_)) | ((with_reducible refine mk_lc ?_); refine l_if_eq (tgt := 79) dX11_goesOver_65 (by decide) (fun h65 => ?_) (fun h65 => ?_)) | ((with_reducible refine mk_n ?_); refine n_if_eq (tgt := 79) dX11_goesOver_65 (by decide) (by omega) (fun h65 => ?_) (fun h65 => ?_)) | refine e_if_eq (tgt := 79) dX11_goesOver_65 (by decide) (fun h65 => ?_) (fun h65 => ?_)
                · try first | contradiction | omega | (simp only [decide_eq_true_eq, decide_eq_false_iff_not] at h65; omega)
                  all_goals
                    refine e_aload_n dX11_goesOver_79 rfl rfl ?_
                    refine e_getR dX11_goesOver_80 fl_X11_7 rfl (by assumption) ?_
                    refine e_aload_n dX11_goesOver_83 rfl rfl ?_
                    refine e_getR dX11_goesOver_84 fl_X11_7 rfl (by assumption) ?_
                    refine e_iload_n dX11_goesOver_87 rfl rfl ?_
                    refine e_iconst (v := nI 4) dX11_goesOver_88 rfl ?_
                    first | ((with_reducible refine mk_nn ?_); refine n_iadd dX11_goesOver_89 ?_) | refine e_iadd dX11_goesOver_89 ?_
                    first | ((with_reducible refine mk_ldw ?_); refine e_ldw dX11_goesOver_90 (by omega) ?_) | refine e_iald _ dX11_goesOver_90 ⟨by decide, by decide⟩ rfl rfl (by simp only [lenK]; omega) ?_
                    rw [e4]
                    refine e_iload dX11_goesOver_91 rfl ?_
                    refine x_S2 (M' := mX11_storeAt) dX11_goesOver_93 ml_X11_136 ok_X11_storeAt rfl sc_X11_storeAt (ct_X11_storeAt) (Nat.le_of_ble_eq_true rfl) (by decide) (Nat.le_of_ble_eq_true rfl) ?_
                    refine e_aload_n dX11_goesOver_96 rfl rfl ?_
                    refine e_getR dX11_goesOver_97 fl_X11_7 rfl (by assumption) ?_
                    refine e_iload dX11_goesOver_100 rfl ?_
                    first | ((with_reducible refine mk_ldw ?_); refine e_ldw dX11_goesOver_102 (by omega) ?_) | refine e_iald _ dX11_goesOver_102 ⟨by decide, by decide⟩ rfl rfl (by simp only [lenK]; omega) ?_
                    first | ((with_reducible refine mk_stw ?_); refine e_stw dX11_goesOver_103 (by omega) ?_) | refine e_iast _ dX11_goesOver_103 ⟨by decide, by decide⟩ rfl rfl (by simp only [lenK]; omega) ?_
                    refine e_aload_n dX11_goesOver_104 rfl rfl ?_
                    refine e_getR dX11_goesOver_105 fl_X11_7 rfl (by assumption) ?_
                    refine e_iload_n dX11_goesOver_108 rfl rfl ?_
                    refine e_iconst (v := nI 5) dX11_goesOver_109 rfl ?_
                    first | ((with_reducible refine mk_nn ?_); refine n_iadd dX11_goesOver_110 ?_) | refine e_iadd dX11_goesOver_110 ?_
                    refine e_iload dX11_goesOver_111 rfl ?_
                    refine e_iconst (v := nI 1) dX11_goesOver_113 rfl ?_
                    first | ((with_reducible refine mk_nn ?_); refine n_iadd dX11_goesOver_114 ?_) | refine e_iadd dX11_goesOver_114 ?_
                    first | ((with_reducible refine mk_stw ?_); refine e_stw dX11_goesOver_115 (by omega) ?_) | refine e_iast _ dX11_goesOver_115 ⟨by decide, by decide⟩ rfl rfl (by simp only [lenK]; omega) ?_
                    first | refine n_inc dX11_goesOver_116 rfl (Nat.le_of_ble_eq_true rfl) rfl ?_ | refine e_iinc dX11_goesOver_116 rfl rfl (Nat.le_of_ble_eq_true rfl) rfl ?_
                    first | refine n_inc dX11_goesOver_119 rfl (Nat.le_of_ble_eq_true rfl) rfl ?_ | refine e_iinc dX11_goesOver_119 rfl rfl (Nat.le_of_ble_eq_true rfl) rfl ?_
                    refine e_goto (tgt := 17) dX11_goesOver_122 (by decide) ?_
                    first | (rw [go1_f (by rw [e3]; omega)] at ih; refine EV_ls ?_ ih; repeat (first | exact lsub_0 | refine lsub_n ?_ | refine lsub_s ?_)) | (rw [go1_t (by rw [e3]; omega), e3, e4] at ih; refine EV_ls ?_ ih; repeat (first | exact lsub_0 | refine lsub_n ?_ | refine lsub_s ?_))
                · try first | contradiction | omega | (simp only [decide_eq_true_eq, decide_eq_false_iff_not] at h65; omega)
                  all_goals
                    refine e_aload_n dX11_goesOver_68 rfl rfl ?_
                    refine e_getR dX11_goesOver_69 fl_X11_7 rfl (by assumption) ?_
                    refine e_iload dX11_goesOver_72 rfl ?_
                    refine e_iconst (v := nI 0) dX11_goesOver_74 rfl ?_
                    first | ((with_reducible refine mk_stw ?_); refine e_stw dX11_goesOver_75 (by omega) ?_) | refine e_iast _ dX11_goesOver_75 ⟨by decide, by decide⟩ rfl rfl (by simp only [lenK]; omega) ?_
                    refine e_goto (tgt := 104) dX11_goesOver_76 (by decide) ?_
                    refine e_aload_n dX11_goesOver_104 rfl rfl ?_
                    refine e_getR dX11_goesOver_105 fl_X11_7 rfl (by assumption) ?_
                    refine e_iload_n dX11_goesOver_108 rfl rfl ?_
                    refine e_iconst (v := nI 5) dX11_goesOver_109 rfl ?_
                    first | ((with_reducible refine mk_nn ?_); refine n_iadd dX11_goesOver_110 ?_) | refine e_iadd dX11_goesOver_110 ?_
                    refine e_iload dX11_goesOver_111 rfl ?_
                    refine e_iconst (v := nI 1) dX11_goesOver_113 rfl ?_
                    first | ((with_reducible refine mk_nn ?_); refine n_iadd dX11_goesOver_114 ?_) | refine e_iadd dX11_goesOver_114 ?_
                    first | ((with_reducible refine mk_stw ?_); refine e_stw dX11_goesOver_115 (by omega) ?_) | refine e_iast _ dX11_goesOver_115 ⟨by decide, by decide⟩ rfl rfl (by simp only [lenK]; omega) ?_
                    first | refine n_inc dX11_goesOver_116 rfl (Nat.le_of_ble_eq_true rfl) rfl ?_ | refine e_iinc dX11_goesOver_116 rfl rfl (Nat.le_of_ble_eq_true rfl) rfl ?_
                    first | refine n_inc dX11_goesOver_119 rfl (Nat.le_of_ble_eq_true rfl) rfl ?_ | refine e_iinc dX11_goesOver_119 rfl rfl (Nat.le_of_ble_eq_true rfl) rfl ?_
                    refine e_goto (tgt := 17) dX11_goesOver_122 (by decide) ?_
                    first | (rw [go1_f (by rw [e3]; omega)] at ih; refine EV_ls ?_ ih; repeat (first | exact lsub_0 | refine lsub_n ?_ | refine lsub_s ?_)) | (rw [go1_t (by rw [e3]; omega), e3, e4] at ih; refine EV_ls ?_ ih; repeat (first | exact lsub_0 | refine lsub_n ?_ | refine lsub_s ?_))
            · try first | contradiction | omega | (simp only [decide_eq_true_eq, decide_eq_false_iff_not] at h58; omega)
              all_goals
                refine e_goto (tgt := 119) dX11_goesOver_61 (by decide) ?_
                first | refine n_inc dX11_goesOver_119 rfl (Nat.le_of_ble_eq_true rfl) rfl ?_ | refine e_iinc dX11_goesOver_119 rfl rfl (Nat.le_of_ble_eq_true rfl) rfl ?_
                refine e_goto (tgt := 17) dX11_goesOver_122 (by decide) ?_
                first | (rw [go1_f (by rw [e3]; omega)] at ih; refine EV_ls ?_ ih; repeat (first | exact lsub_0 | refine lsub_n ?_ | refine lsub_s ?_)) | (rw [go1_t (by rw [e3]; omega), e3, e4] at ih; refine EV_ls ?_ ih; repeat (first | exact lsub_0 | refine lsub_n ?_ | refine lsub_s ?_))
    ) (by
    obtain ⟨g1, g2, g3, g4, g5, g6⟩ := goS_in iv (ch := ch) (cl := false) hm (govL w m) (by unfold govL; omega)
    have e2 := g1 (7694 + 72 * m + 2) (by omega) (by omega)
    have eL : w (7694 + 72 * m + 5) + govL w m = w (7694 + 72 * m + 2) := by unfold govL; omega
    refine e_iload dX11_goesOver_17 rfl ?_
    refine e_aload_n dX11_goesOver_19 rfl rfl ?_
    refine e_getR dX11_goesOver_20 fl_X11_7 rfl (by assumption) ?_
    refine e_iload_n dX11_goesOver_23 rfl rfl ?_
    refine e_iconst (v := nI 2) dX11_goesOver_24 rfl ?_
    first | ((with_reducible refine mk_nn ?_); refine n_iadd dX11_goesOver_25 ?_) | refine e_iadd dX11_goesOver_25 ?_
    first | ((with_reducible refine mk_ldw ?_); refine e_ldw dX11_goesOver_26 (by omega) ?_) | refine e_iald _ dX11_goesOver_26 ⟨by decide, by decide⟩ rfl rfl (by simp only [lenK]; omega) ?_
    rw [e2]
    first | ((with_reducible refine mk_nn ?_); refine n_icmp_ge (tgt := 125) dX11_goesOver_27 (by decide) (by omega) (by omega) (fun h27 => ?_) (fun h27 => ?_)) | refine e_icmp_ge (tgt := 125) dX11_goesOver_27 (by decide) (fun h27 => ?_) (fun h27 => ?_)
    · try first | contradiction | omega
      all_goals
        exact EV_ls (by repeat (first | exact lsub_0 | refine lsub_n ?_ | refine lsub_s ?_)) (fin _ 0 rfl (by omega))
    · try first | contradiction | omega
      all_goals
        omega
    )
  have kk := key 0 (by omega)
  refine e_iconst (v := nI 0) dX11_goesOver_0 rfl ?_
  refine e_istore dX11_goesOver_1 (Nat.le_of_ble_eq_true rfl) rfl ?_
  refine e_aload_n dX11_goesOver_3 rfl rfl ?_
  refine e_getR dX11_goesOver_4 fl_X11_7 rfl (by assumption) ?_
  refine e_iload_n dX11_goesOver_7 rfl rfl ?_
  refine e_iconst (v := nI 5) dX11_goesOver_8 rfl ?_
  first | ((with_reducible refine mk_nn ?_); refine n_iadd dX11_goesOver_9 ?_) | refine e_iadd dX11_goesOver_9 ?_
  first | ((with_reducible refine mk_ldw ?_); refine e_ldw dX11_goesOver_10 (by omega) ?_) | refine e_iald _ dX11_goesOver_10 ⟨by decide, by decide⟩ rfl rfl (by simp only [lenK]; omega) ?_
  refine e_istore dX11_goesOver_11 (Nat.le_of_ble_eq_true rfl) rfl ?_
  refine e_iload dX11_goesOver_13 rfl ?_
  refine e_istore dX11_goesOver_15 (Nat.le_of_ble_eq_true rfl) rfl ?_
  exact EV_ls (by repeat (first | exact lsub_0 | refine lsub_n ?_ | refine lsub_s ?_)) kk
