def spB (tp : Nat → Nat) (e a0 n a b c d x f g : Nat) : Bool := decide (e = a0 + n) && decide (tp a0 = a) && decide (tp (a0 + 1) = b) && (decide (n ≤ 2) || decide (tp (a0 + 2) = c)) && (decide (n ≤ 3) || decide (tp (a0 + 3) = d)) && (decide (n ≤ 4) || decide (tp (a0 + 4) = x)) && (decide (n < 6) || decide (tp (a0 + 5) = f)) && (decide (n < 7) || decide (tp (a0 + 6) = g))
theorem ct_X11_spells {fi : FI} {fr : FR} {ai : FI} {ar : FR} {N : Nat} (sm : SM fr) {s : PS} {tp : Nat → Nat} {t : Nat} (ht : fi (32 * 11 + 10) (rf 11 80) = nI t) (ht4 : t ≤ 400) (hT : ∀ i, i < t → ai (rf 35 87) i = sB (tp i)) (hb : ∀ i, tp i < 256) (hs : s.1 ≤ t) {n a b c d x f g : Nat} (hn : 2 ≤ n ∧ n ≤ 7) (hch : a < 128 ∧ b < 128 ∧ c < 128 ∧ d < 128 ∧ x < 128 ∧ f < 128 ∧ g < 128) : CP mX11_spells 2 0 0 [.ref (rf 11 80), .int (nI n), .int (nI a), .int (nI b), .int (nI c), .int (nI d), .int (nI x), .int (nI f), .int (nI g)] (psF fi s) fr ai ar N (xQ (some (.int (bI (spB tp (wnd tp t s.1) s.1 n a b c d x f g)))) (psF fi s) fr ai ar N) := by
  obtain ⟨sW, sA0, sK, sU, sC, sKC, sT, sCl⟩ := id sm
  change EV mX11_spells 2 0 0 0 [some (.ref (rf 11 80)), some (.int (nI n)), some (.int (nI a)), some (.int (nI b)), some (.int (nI c)), some (.int (nI d)), some (.int (nI x)), some (.int (nI f)), some (.int (nI g))] [] (psF fi s) fr ai ar N (xQ (some (.int (bI (spB tp (wnd tp t s.1) s.1 n a b c d x f g)))) (psF fi s) fr ai ar N)
  have hwl := wnd_le tp hs
  have q0 : wnd tp t s.1 = s.1 + n → (ai (rf 35 87) s.1 = nI a ↔ tp s.1 = a) := fun h => by rw [hT _ (by omega)]; exact sB_eq (hb _) (by omega)
  have q1 : wnd tp t s.1 = s.1 + n → (ai (rf 35 87) (s.1 + 1) = nI b ↔ tp (s.1 + 1) = b) := fun h => by rw [hT _ (by omega)]; exact sB_eq (hb _) (by omega)
  have q2 : wnd tp t s.1 = s.1 + n → 2 < n → (ai (rf 35 87) (s.1 + 2) = nI c ↔ tp (s.1 + 2) = c) := fun h hj => by rw [hT _ (by omega)]; exact sB_eq (hb _) (by omega)
  have q3 : wnd tp t s.1 = s.1 + n → 3 < n → (ai (rf 35 87) (s.1 + 3) = nI d ↔ tp (s.1 + 3) = d) := fun h hj => by rw [hT _ (by omega)]; exact sB_eq (hb _) (by omega)
  have q4 : wnd tp t s.1 = s.1 + n → 4 < n → (ai (rf 35 87) (s.1 + 4) = nI x ↔ tp (s.1 + 4) = x) := fun h hj => by rw [hT _ (by omega)]; exact sB_eq (hb _) (by omega)
  have q5 : wnd tp t s.1 = s.1 + n → 5 < n → (ai (rf 35 87) (s.1 + 5) = nI f ↔ tp (s.1 + 5) = f) := fun h hj => by rw [hT _ (by omega)]; exact sB_eq (hb _) (by omega)
  have q6 : wnd tp t s.1 = s.1 + n → 6 < n → (ai (rf 35 87) (s.1 + 6) = nI g ↔ tp (s.1 + 6) = g) := fun h hj => by rw [hT _ (by omega)]; exact sB_eq (hb _) (by omega)
  refine e_aload_n dX11_spells_0 rfl rfl ?_
  refine x_V0 (M' := mX11_wordEnd) dX11_spells_1 ml_X11_236 ok_X11_wordEnd (by decide) rfl im_X11_wordEnd se_X11_wordEnd (ct_X11_wordEnd ‹_› ht ht4 hT hb hs) (Nat.le_of_ble_eq_true rfl) (by decide) (Nat.le_of_ble_eq_true rfl) ?_
  refine e_aload_n dX11_spells_4 rfl rfl ?_
  refine e_getI dX11_spells_5 fl_X11_229 rfl ?_
  rw [psF_11]
  refine e_iload_n dX11_spells_8 rfl rfl ?_
  first | ((with_reducible refine mk_nn ?_); refine n_iadd dX11_spells_9 ?_) | refine e_iadd dX11_spells_9 ?_
  first | ((with_reducible refine mk_mo ?_); refine p_icmp_ne (tgt := 62) dX11_spells_10 (by decide) (fun h10 => ?_) (fun h10 => ?_)) | ((with_reducible refine mk_ms ?_); refine s_icmp_ne (tgt := 62) dX11_spells_10 (by decide) (by omega) (fun h10 => ?_) (fun h10 => ?_)) | ((with_reducible refine mk_mn ?_); refine q_icmp_ne (tgt := 62) dX11_spells_10 (by decide) (by omega) (fun h10 => ?_) (fun h10 => ?_)) | ((with_reducible refine mk_nn ?_); refine n_icmp_ne (tgt := 62) dX11_spells_10 (by decide) (by omega) (by omega) (fun h10 => ?_) (fun h10 => ?_)) | refine e_icmp_ne (tgt := 62) dX11_spells_10 (by decide) (fun h10 => ?_) (fun h10 => ?_)
  · try first | contradiction | omega
    all_goals
      refine e_iconst (v := nI 0) dX11_spells_62 rfl ?_
      first | ((with_reducible refine mk_b ?_); refine e_ret (some _) rfl (r_bool dX11_spells_63 rfl) ?_) | ((with_reducible refine mk_n1 ?_); refine e_ret (some _) rfl (r_b1 dX11_spells_63 rfl) ?_) | ((with_reducible refine mk_n0 ?_); refine e_ret (some _) rfl (r_b0 dX11_spells_63 rfl) ?_)
      first | (refine xq (bl1 ?_) rfl rfl rfl rfl rfl; unfold spB; grind) | (refine xq (bl0 ?_) rfl rfl rfl rfl rfl; unfold spB; grind)
  · try first | contradiction | omega
    all_goals
      refine e_aload_n dX11_spells_13 rfl rfl ?_
      refine e_getR dX11_spells_14 fl_X11_29 rfl (by assumption) ?_
      refine e_aload_n dX11_spells_17 rfl rfl ?_
      refine e_getI dX11_spells_18 fl_X11_229 rfl ?_
      rw [psF_11]
      first | refine e_bald _ dX11_spells_21 ⟨by decide, by decide⟩ rfl rfl (by simp only [lenK]; omega) ?_ | refine e_zald _ dX11_spells_21 ⟨by decide, by decide⟩ rfl rfl (by simp only [lenK]; omega) ?_
      refine e_iload_n dX11_spells_22 rfl rfl ?_
      first | ((with_reducible refine mk_mo ?_); refine p_icmp_ne (tgt := 62) dX11_spells_23 (by decide) (fun h23 => ?_) (fun h23 => ?_)) | ((with_reducible refine mk_ms ?_); refine s_icmp_ne (tgt := 62) dX11_spells_23 (by decide) (by omega) (fun h23 => ?_) (fun h23 => ?_)) | ((with_reducible refine mk_mn ?_); refine q_icmp_ne (tgt := 62) dX11_spells_23 (by decide) (by omega) (fun h23 => ?_) (fun h23 => ?_)) | ((with_reducible refine mk_nn ?_); refine n_icmp_ne (tgt := 62) dX11_spells_23 (by decide) (by omega) (by omega) (fun h23 => ?_) (fun h23 => ?_)) | refine e_icmp_ne (tgt := 62) dX11_spells_23 (by decide) (fun h23 => ?_) (fun h23 => ?_)
      · try first | contradiction | omega
        all_goals
          refine e_iconst (v := nI 0) dX11_spells_62 rfl ?_
          first | ((with_reducible refine mk_b ?_); refine e_ret (some _) rfl (r_bool dX11_spells_63 rfl) ?_) | ((with_reducible refine mk_n1 ?_); refine e_ret (some _) rfl (r_b1 dX11_spells_63 rfl) ?_) | ((with_reducible refine mk_n0 ?_); refine e_ret (some _) rfl (r_b0 dX11_spells_63 rfl) ?_)
          first | (refine xq (bl1 ?_) rfl rfl rfl rfl rfl; unfold spB; grind) | (refine xq (bl0 ?_) rfl rfl rfl rfl rfl; unfold spB; grind)
      · try first | contradiction | omega
        all_goals
          refine e_aload_n dX11_spells_26 rfl rfl ?_
          refine e_getR dX11_spells_27 fl_X11_29 rfl (by assumption) ?_
          refine e_aload_n dX11_spells_30 rfl rfl ?_
          refine e_getI dX11_spells_31 fl_X11_229 rfl ?_
          rw [psF_11]
          refine e_iconst (v := nI 1) dX11_spells_34 rfl ?_
          first | ((with_reducible refine mk_nn ?_); refine n_iadd dX11_spells_35 ?_) | refine e_iadd dX11_spells_35 ?_
          first | refine e_bald _ dX11_spells_36 ⟨by decide, by decide⟩ rfl rfl (by simp only [lenK]; omega) ?_ | refine e_zald _ dX11_spells_36 ⟨by decide, by decide⟩ rfl rfl (by simp only [lenK]; omega) ?_
          refine e_iload_n dX11_spells_37 rfl rfl ?_
          first | ((with_reducible refine mk_mo ?_); refine p_icmp_ne (tgt := 62) dX11_spells_38 (by decide) (fun h38 => ?_) (fun h38 => ?_)) | ((with_reducible refine mk_ms ?_); refine s_icmp_ne (tgt := 62) dX11_spells_38 (by decide) (by omega) (fun h38 => ?_) (fun h38 => ?_)) | ((with_reducible refine mk_mn ?_); refine q_icmp_ne (tgt := 62) dX11_spells_38 (by decide) (by omega) (fun h38 => ?_) (fun h38 => ?_)) | ((with_reducible refine mk_nn ?_); refine n_icmp_ne (tgt := 62) dX11_spells_38 (by decide) (by omega) (by omega) (fun h38 => ?_) (fun h38 => ?_)) | refine e_icmp_ne (tgt := 62) dX11_spells_38 (by decide) (fun h38 => ?_) (fun h38 => ?_)
          · try first | contradiction | omega
            all_goals
              refine e_iconst (v := nI 0) dX11_spells_62 rfl ?_
              first | ((with_reducible refine mk_b ?_); refine e_ret (some _) rfl (r_bool dX11_spells_63 rfl) ?_) | ((with_reducible refine mk_n1 ?_); refine e_ret (some _) rfl (r_b1 dX11_spells_63 rfl) ?_) | ((with_reducible refine mk_n0 ?_); refine e_ret (some _) rfl (r_b0 dX11_spells_63 rfl) ?_)
              first | (refine xq (bl1 ?_) rfl rfl rfl rfl rfl; unfold spB; grind) | (refine xq (bl0 ?_) rfl rfl rfl rfl rfl; unfold spB; grind)
          · try first | contradiction | omega
            all_goals
              refine e_iload_n dX11_spells_41 rfl rfl ?_
              refine e_iconst (v := nI 2) dX11_spells_42 rfl ?_
              first | ((with_reducible refine mk_nn ?_); refine n_icmp_le (tgt := 64) dX11_spells_43 (by decide) (by omega) (by omega) (fun h43 => ?_) (fun h43 => ?_)) | refine e_icmp_le (tgt := 64) dX11_spells_43 (by decide) (fun h43 => ?_) (fun h43 => ?_)
              · try first | contradiction | omega
                all_goals
                  refine e_iload_n dX11_spells_64 rfl rfl ?_
                  refine e_iconst (v := nI 3) dX11_spells_65 rfl ?_
                  first | ((with_reducible refine mk_nn ?_); refine n_icmp_le (tgt := 85) dX11_spells_66 (by decide) (by omega) (by omega) (fun h66 => ?_) (fun h66 => ?_)) | refine e_icmp_le (tgt := 85) dX11_spells_66 (by decide) (fun h66 => ?_) (fun h66 => ?_)
                  · try first | contradiction | omega
                    all_goals
                      refine e_iload_n dX11_spells_85 rfl rfl ?_
                      refine e_iconst (v := nI 4) dX11_spells_86 rfl ?_
                      first | ((with_reducible refine mk_nn ?_); refine n_icmp_le (tgt := 108) dX11_spells_87 (by decide) (by omega) (by omega) (fun h87 => ?_) (fun h87 => ?_)) | refine e_icmp_le (tgt := 108) dX11_spells_87 (by decide) (fun h87 => ?_) (fun h87 => ?_)
                      · try first | contradiction | omega
                        all_goals
                          refine e_iload_n dX11_spells_108 rfl rfl ?_
                          refine e_bipush (v := nI 6) dX11_spells_109 rfl ?_
                          first | ((with_reducible refine mk_nn ?_); refine n_icmp_lt (tgt := 130) dX11_spells_111 (by decide) (by omega) (by omega) (fun h111 => ?_) (fun h111 => ?_)) | refine e_icmp_lt (tgt := 130) dX11_spells_111 (by decide) (fun h111 => ?_) (fun h111 => ?_)
                          · try first | contradiction | omega
                            all_goals
                              refine e_iload_n dX11_spells_130 rfl rfl ?_
                              refine e_bipush (v := nI 7) dX11_spells_131 rfl ?_
                              first | ((with_reducible refine mk_nn ?_); refine n_icmp_lt (tgt := 153) dX11_spells_133 (by decide) (by omega) (by omega) (fun h133 => ?_) (fun h133 => ?_)) | refine e_icmp_lt (tgt := 153) dX11_spells_133 (by decide) (fun h133 => ?_) (fun h133 => ?_)
                              · try first | contradiction | omega
                                all_goals
                                  refine e_iconst (v := nI 1) dX11_spells_153 rfl ?_
                                  refine e_goto (tgt := 158) dX11_spells_154 (by decide) ?_
                                  first | ((with_reducible refine mk_b ?_); refine e_ret (some _) rfl (r_bool dX11_spells_158 rfl) ?_) | ((with_reducible refine mk_n1 ?_); refine e_ret (some _) rfl (r_b1 dX11_spells_158 rfl) ?_) | ((with_reducible refine mk_n0 ?_); refine e_ret (some _) rfl (r_b0 dX11_spells_158 rfl) ?_)
                                  first | (refine xq (bl1 ?_) rfl rfl rfl rfl rfl; unfold spB; grind) | (refine xq (bl0 ?_) rfl rfl rfl rfl rfl; unfold spB; grind)
                              · try first | contradiction | omega
                                all_goals
                                  refine e_aload_n dX11_spells_136 rfl rfl ?_
                                  refine e_getR dX11_spells_137 fl_X11_29 rfl (by assumption) ?_
                                  refine e_aload_n dX11_spells_140 rfl rfl ?_
                                  refine e_getI dX11_spells_141 fl_X11_229 rfl ?_
                                  rw [psF_11]
                                  refine e_bipush (v := nI 6) dX11_spells_144 rfl ?_
                                  first | ((with_reducible refine mk_nn ?_); refine n_iadd dX11_spells_146 ?_) | refine e_iadd dX11_spells_146 ?_
                                  first | refine e_bald _ dX11_spells_147 ⟨by decide, by decide⟩ rfl rfl (by simp only [lenK]; omega) ?_ | refine e_zald _ dX11_spells_147 ⟨by decide, by decide⟩ rfl rfl (by simp only [lenK]; omega) ?_
                                  refine e_iload dX11_spells_148 rfl ?_
                                  first | ((with_reducible refine mk_mo ?_); refine p_icmp_ne (tgt := 157) dX11_spells_150 (by decide) (fun h150 => ?_) (fun h150 => ?_)) | ((with_reducible refine mk_ms ?_); refine s_icmp_ne (tgt := 157) dX11_spells_150 (by decide) (by omega) (fun h150 => ?_) (fun h150 => ?_)) | ((with_reducible refine mk_mn ?_); refine q_icmp_ne (tgt := 157) dX11_spells_150 (by decide) (by omega) (fun h150 => ?_) (fun h150 => ?_)) | ((with_reducible refine mk_nn ?_); refine n_icmp_ne (tgt := 157) dX11_spells_150 (by decide) (by omega) (by omega) (fun h150 => ?_) (fun h150 => ?_)) | refine e_icmp_ne (tgt := 157) dX11_spells_150 (by decide) (fun h150 => ?_) (fun h150 => ?_)
                                  · try first | contradiction | omega
                                    all_goals
                                      refine e_iconst (v := nI 0) dX11_spells_157 rfl ?_
                                      first | ((with_reducible refine mk_b ?_); refine e_ret (some _) rfl (r_bool dX11_spells_158 rfl) ?_) | ((with_reducible refine mk_n1 ?_); refine e_ret (some _) rfl (r_b1 dX11_spells_158 rfl) ?_) | ((with_reducible refine mk_n0 ?_); refine e_ret (some _) rfl (r_b0 dX11_spells_158 rfl) ?_)
                                      first | (refine xq (bl1 ?_) rfl rfl rfl rfl rfl; unfold spB; grind) | (refine xq (bl0 ?_) rfl rfl rfl rfl rfl; unfold spB; grind)
                                  · try first | contradiction | omega
                                    all_goals
                                      refine e_iconst (v := nI 1) dX11_spells_153 rfl ?_
                                      refine e_goto (tgt := 158) dX11_spells_154 (by decide) ?_
                                      first | ((with_reducible refine mk_b ?_); refine e_ret (some _) rfl (r_bool dX11_spells_158 rfl) ?_) | ((with_reducible refine mk_n1 ?_); refine e_ret (some _) rfl (r_b1 dX11_spells_158 rfl) ?_) | ((with_reducible refine mk_n0 ?_); refine e_ret (some _) rfl (r_b0 dX11_spells_158 rfl) ?_)
                                      first | (refine xq (bl1 ?_) rfl rfl rfl rfl rfl; unfold spB; grind) | (refine xq (bl0 ?_) rfl rfl rfl rfl rfl; unfold spB; grind)
                          · try first | contradiction | omega
                            all_goals
                              refine e_aload_n dX11_spells_114 rfl rfl ?_
                              refine e_getR dX11_spells_115 fl_X11_29 rfl (by assumption) ?_
                              refine e_aload_n dX11_spells_118 rfl rfl ?_
                              refine e_getI dX11_spells_119 fl_X11_229 rfl ?_
                              rw [psF_11]
                              refine e_iconst (v := nI 5) dX11_spells_122 rfl ?_
                              first | ((with_reducible refine mk_nn ?_); refine n_iadd dX11_spells_123 ?_) | refine e_iadd dX11_spells_123 ?_
                              first | refine e_bald _ dX11_spells_124 ⟨by decide, by decide⟩ rfl rfl (by simp only [lenK]; omega) ?_ | refine e_zald _ dX11_spells_124 ⟨by decide, by decide⟩ rfl rfl (by simp only [lenK]; omega) ?_
                              refine e_iload dX11_spells_125 rfl ?_
                              first | ((with_reducible refine mk_mo ?_); refine p_icmp_ne (tgt := 157) dX11_spells_127 (by decide) (fun h127 => ?_) (fun h127 => ?_)) | ((with_reducible refine mk_ms ?_); refine s_icmp_ne (tgt := 157) dX11_spells_127 (by decide) (by omega) (fun h127 => ?_) (fun h127 => ?_)) | ((with_reducible refine mk_mn ?_); refine q_icmp_ne (tgt := 157) dX11_spells_127 (by decide) (by omega) (fun h127 => ?_) (fun h127 => ?_)) | ((with_reducible refine mk_nn ?_); refine n_icmp_ne (tgt := 157) dX11_spells_127 (by decide) (by omega) (by omega) (fun h127 => ?_) (fun h127 => ?_)) | refine e_icmp_ne (tgt := 157) dX11_spells_127 (by decide) (fun h127 => ?_) (fun h127 => ?_)
                              · try first | contradiction | omega
                                all_goals
                                  refine e_iconst (v := nI 0) dX11_spells_157 rfl ?_
                                  first | ((with_reducible refine mk_b ?_); refine e_ret (some _) rfl (r_bool dX11_spells_158 rfl) ?_) | ((with_reducible refine mk_n1 ?_); refine e_ret (some _) rfl (r_b1 dX11_spells_158 rfl) ?_) | ((with_reducible refine mk_n0 ?_); refine e_ret (some _) rfl (r_b0 dX11_spells_158 rfl) ?_)
                                  first | (refine xq (bl1 ?_) rfl rfl rfl rfl rfl; unfold spB; grind) | (refine xq (bl0 ?_) rfl rfl rfl rfl rfl; unfold spB; grind)
                              · try first | contradiction | omega
                                all_goals
                                  refine e_iload_n dX11_spells_130 rfl rfl ?_
                                  refine e_bipush (v := nI 7) dX11_spells_131 rfl ?_
                                  first | ((with_reducible refine mk_nn ?_); refine n_icmp_lt (tgt := 153) dX11_spells_133 (by decide) (by omega) (by omega) (fun h133 => ?_) (fun h133 => ?_)) | refine e_icmp_lt (tgt := 153) dX11_spells_133 (by decide) (fun h133 => ?_) (fun h133 => ?_)
                                  · try first | contradiction | omega
                                    all_goals
                                      refine e_iconst (v := nI 1) dX11_spells_153 rfl ?_
                                      refine e_goto (tgt := 158) dX11_spells_154 (by decide) ?_
                                      first | ((with_reducible refine mk_b ?_); refine e_ret (some _) rfl (r_bool dX11_spells_158 rfl) ?_) | ((with_reducible refine mk_n1 ?_); refine e_ret (some _) rfl (r_b1 dX11_spells_158 rfl) ?_) | ((with_reducible refine mk_n0 ?_); refine e_ret (some _) rfl (r_b0 dX11_spells_158 rfl) ?_)
                                      first | (refine xq (bl1 ?_) rfl rfl rfl rfl rfl; unfold spB; grind) | (refine xq (bl0 ?_) rfl rfl rfl rfl rfl; unfold spB; grind)
                                  · try first | contradiction | omega
                                    all_goals
                                      refine e_aload_n dX11_spells_136 rfl rfl ?_
                                      refine e_getR dX11_spells_137 fl_X11_29 rfl (by assumption) ?_
                                      refine e_aload_n dX11_spells_140 rfl rfl ?_
                                      refine e_getI dX11_spells_141 fl_X11_229 rfl ?_
                                      rw [psF_11]
                                      refine e_bipush (v := nI 6) dX11_spells_144 rfl ?_
                                      first | ((with_reducible refine mk_nn ?_); refine n_iadd dX11_spells_146 ?_) | refine e_iadd dX11_spells_146 ?_
                                      first | refine e_bald _ dX11_spells_147 ⟨by decide, by decide⟩ rfl rfl (by simp only [lenK]; omega) ?_ | refine e_zald _ dX11_spells_147 ⟨by decide, by decide⟩ rfl rfl (by simp only [lenK]; omega) ?_
                                      refine e_iload dX11_spells_148 rfl ?_
                                      first | ((with_reducible refine mk_mo ?_); refine p_icmp_ne (tgt := 157) dX11_spells_150 (by decide) (fun h150 => ?_) (fun h150 => ?_)) | ((with_reducible refine mk_ms ?_); refine s_icmp_ne (tgt := 157) dX11_spells_150 (by decide) (by omega) (fun h150 => ?_) (fun h150 => ?_)) | ((with_reducible refine mk_mn ?_); refine q_icmp_ne (tgt := 157) dX11_spells_150 (by decide) (by omega) (fun h150 => ?_) (fun h150 => ?_)) | ((with_reducible refine mk_nn ?_); refine n_icmp_ne (tgt := 157) dX11_spells_150 (by decide) (by omega) (by omega) (fun h150 => ?_) (fun h150 => ?_)) | refine e_icmp_ne (tgt := 157) dX11_spells_150 (by decide) (fun h150 => ?_) (fun h150 => ?_)
                                      · try first | contradiction | omega
                                        all_goals
                                          refine e_iconst (v := nI 0) dX11_spells_157 rfl ?_
                                          first | ((with_reducible refine mk_b ?_); refine e_ret (some _) rfl (r_bool dX11_spells_158 rfl) ?_) | ((with_reducible refine mk_n1 ?_); refine e_ret (some _) rfl (r_b1 dX11_spells_158 rfl) ?_) | ((with_reducible refine mk_n0 ?_); refine e_ret (some _) rfl (r_b0 dX11_spells_158 rfl) ?_)
                                          first | (refine xq (bl1 ?_) rfl rfl rfl rfl rfl; unfold spB; grind) | (refine xq (bl0 ?_) rfl rfl rfl rfl rfl; unfold spB; grind)
                                      · try first | contradiction | omega
                                        all_goals
                                          refine e_iconst (v := nI 1) dX11_spells_153 rfl ?_
                                          refine e_goto (tgt := 158) dX11_spells_154 (by decide) ?_
                                          first | ((with_reducible refine mk_b ?_); refine e_ret (some _) rfl (r_bool dX11_spells_158 rfl) ?_) | ((with_reducible refine mk_n1 ?_); refine e_ret (some _) rfl (r_b1 dX11_spells_158 rfl) ?_) | ((with_reducible refine mk_n0 ?_); refine e_ret (some _) rfl (r_b0 dX11_spells_158 rfl) ?_)
                                          first | (refine xq (bl1 ?_) rfl rfl rfl rfl rfl; unfold spB; grind) | (refine xq (bl0 ?_) rfl rfl rfl rfl rfl; unfold spB; grind)
                      · try first | contradiction | omega
                        all_goals
                          refine e_aload_n dX11_spells_90 rfl rfl ?_
                          refine e_getR dX11_spells_91 fl_X11_29 rfl (by assumption) ?_
                          refine e_aload_n dX11_spells_94 rfl rfl ?_
                          refine e_getI dX11_spells_95 fl_X11_229 rfl ?_
                          rw [psF_11]
                          refine e_iconst (v := nI 4) dX11_spells_98 rfl ?_
                          first | ((with_reducible refine mk_nn ?_); refine n_iadd dX11_spells_99 ?_) | refine e_iadd dX11_spells_99 ?_
                          first | refine e_bald _ dX11_spells_100 ⟨by decide, by decide⟩ rfl rfl (by simp only [lenK]; omega) ?_ | refine e_zald _ dX11_spells_100 ⟨by decide, by decide⟩ rfl rfl (by simp only [lenK]; omega) ?_
                          refine e_iload dX11_spells_101 rfl ?_
                          first | ((with_reducible refine mk_mo ?_); refine p_icmp_eq (tgt := 108) dX11_spells_103 (by decide) (fun h103 => ?_) (fun h103 => ?_)) | ((with_reducible refine mk_ms ?_); refine s_icmp_eq (tgt := 108) dX11_spells_103 (by decide) (by omega) (fun h103 => ?_) (fun h103 => ?_)) | ((with_reducible refine mk_mn ?_); refine q_icmp_eq (tgt := 108) dX11_spells_103 (by decide) (by omega) (fun h103 => ?_) (fun h103 => ?_)) | ((with_reducible refine mk_nn ?_); refine n_icmp_eq (tgt := 108) dX11_spells_103 (by decide) (by omega) (by omega) (fun h103 => ?_) (fun h103 => ?_)) | refine e_icmp_eq (tgt := 108) dX11_spells_103 (by decide) (fun h103 => ?_) (fun h103 => ?_)
                          · try first | contradiction | omega
                            all_goals
                              refine e_iload_n dX11_spells_108 rfl rfl ?_
                              refine e_bipush (v := nI 6) dX11_spells_109 rfl ?_
                              first | ((with_reducible refine mk_nn ?_); refine n_icmp_lt (tgt := 130) dX11_spells_111 (by decide) (by omega) (by omega) (fun h111 => ?_) (fun h111 => ?_)) | refine e_icmp_lt (tgt := 130) dX11_spells_111 (by decide) (fun h111 => ?_) (fun h111 => ?_)
                              · try first | contradiction | omega
                                all_goals
                                  refine e_iload_n dX11_spells_130 rfl rfl ?_
                                  refine e_bipush (v := nI 7) dX11_spells_131 rfl ?_
                                  first | ((with_reducible refine mk_nn ?_); refine n_icmp_lt (tgt := 153) dX11_spells_133 (by decide) (by omega) (by omega) (fun h133 => ?_) (fun h133 => ?_)) | refine e_icmp_lt (tgt := 153) dX11_spells_133 (by decide) (fun h133 => ?_) (fun h133 => ?_)
                                  · try first | contradiction | omega
                                    all_goals
                                      refine e_iconst (v := nI 1) dX11_spells_153 rfl ?_
                                      refine e_goto (tgt := 158) dX11_spells_154 (by decide) ?_
                                      first | ((with_reducible refine mk_b ?_); refine e_ret (some _) rfl (r_bool dX11_spells_158 rfl) ?_) | ((with_reducible refine mk_n1 ?_); refine e_ret (some _) rfl (r_b1 dX11_spells_158 rfl) ?_) | ((with_reducible refine mk_n0 ?_); refine e_ret (some _) rfl (r_b0 dX11_spells_158 rfl) ?_)
                                      first | (refine xq (bl1 ?_) rfl rfl rfl rfl rfl; unfold spB; grind) | (refine xq (bl0 ?_) rfl rfl rfl rfl rfl; unfold spB; grind)
                                  · try first | contradiction | omega
                                    all_goals
                                      refine e_aload_n dX11_spells_136 rfl rfl ?_
                                      refine e_getR dX11_spells_137 fl_X11_29 rfl (by assumption) ?_
                                      refine e_aload_n dX11_spells_140 rfl rfl ?_
                                      refine e_getI dX11_spells_141 fl_X11_229 rfl ?_
                                      rw [psF_11]
                                      refine e_bipush (v := nI 6) dX11_spells_144 rfl ?_
                                      first | ((with_reducible refine mk_nn ?_); refine n_iadd dX11_spells_146 ?_) | refine e_iadd dX11_spells_146 ?_
                                      first | refine e_bald _ dX11_spells_147 ⟨by decide, by decide⟩ rfl rfl (by simp only [lenK]; omega) ?_ | refine e_zald _ dX11_spells_147 ⟨by decide, by decide⟩ rfl rfl (by simp only [lenK]; omega) ?_
                                      refine e_iload dX11_spells_148 rfl ?_
                                      first | ((with_reducible refine mk_mo ?_); refine p_icmp_ne (tgt := 157) dX11_spells_150 (by decide) (fun h150 => ?_) (fun h150 => ?_)) | ((with_reducible refine mk_ms ?_); refine s_icmp_ne (tgt := 157) dX11_spells_150 (by decide) (by omega) (fun h150 => ?_) (fun h150 => ?_)) | ((with_reducible refine mk_mn ?_); refine q_icmp_ne (tgt := 157) dX11_spells_150 (by decide) (by omega) (fun h150 => ?_) (fun h150 => ?_)) | ((with_reducible refine mk_nn ?_); refine n_icmp_ne (tgt := 157) dX11_spells_150 (by decide) (by omega) (by omega) (fun h150 => ?_) (fun h150 => ?_)) | refine e_icmp_ne (tgt := 157) dX11_spells_150 (by decide) (fun h150 => ?_) (fun h150 => ?_)
                                      · try first | contradiction | omega
                                        all_goals
                                          refine e_iconst (v := nI 0) dX11_spells_157 rfl ?_
                                          first | ((with_reducible refine mk_b ?_); refine e_ret (some _) rfl (r_bool dX11_spells_158 rfl) ?_) | ((with_reducible refine mk_n1 ?_); refine e_ret (some _) rfl (r_b1 dX11_spells_158 rfl) ?_) | ((with_reducible refine mk_n0 ?_); refine e_ret (some _) rfl (r_b0 dX11_spells_158 rfl) ?_)
                                          first | (refine xq (bl1 ?_) rfl rfl rfl rfl rfl; unfold spB; grind) | (refine xq (bl0 ?_) rfl rfl rfl rfl rfl; unfold spB; grind)
                                      · try first | contradiction | omega
                                        all_goals
                                          refine e_iconst (v := nI 1) dX11_spells_153 rfl ?_
                                          refine e_goto (tgt := 158) dX11_spells_154 (by decide) ?_
                                          first | ((with_reducible refine mk_b ?_); refine e_ret (some _) rfl (r_bool dX11_spells_158 rfl) ?_) | ((with_reducible refine mk_n1 ?_); refine e_ret (some _) rfl (r_b1 dX11_spells_158 rfl) ?_) | ((with_reducible refine mk_n0 ?_); refine e_ret (some _) rfl (r_b0 dX11_spells_158 rfl) ?_)
                                          first | (refine xq (bl1 ?_) rfl rfl rfl rfl rfl; unfold spB; grind) | (refine xq (bl0 ?_) rfl rfl rfl rfl rfl; unfold spB; grind)
                              · try first | contradiction | omega
                                all_goals
                                  refine e_aload_n dX11_spells_114 rfl rfl ?_
                                  refine e_getR dX11_spells_115 fl_X11_29 rfl (by assumption) ?_
                                  refine e_aload_n dX11_spells_118 rfl rfl ?_
                                  refine e_getI dX11_spells_119 fl_X11_229 rfl ?_
                                  rw [psF_11]
                                  refine e_iconst (v := nI 5) dX11_spells_122 rfl ?_
                                  first | ((with_reducible refine mk_nn ?_); refine n_iadd dX11_spells_123 ?_) | refine e_iadd dX11_spells_123 ?_
                                  first | refine e_bald _ dX11_spells_124 ⟨by decide, by decide⟩ rfl rfl (by simp only [lenK]; omega) ?_ | refine e_zald _ dX11_spells_124 ⟨by decide, by decide⟩ rfl rfl (by simp only [lenK]; omega) ?_
                                  refine e_iload dX11_spells_125 rfl ?_
                                  first | ((with_reducible refine mk_mo ?_); refine p_icmp_ne (tgt := 157) dX11_spells_127 (by decide) (fun h127 => ?_) (fun h127 => ?_)) | ((with_reducible refine mk_ms ?_); refine s_icmp_ne (tgt := 157) dX11_spells_127 (by decide) (by omega) (fun h127 => ?_) (fun h127 => ?_)) | ((with_reducible refine mk_mn ?_); refine q_icmp_ne (tgt := 157) dX11_spells_127 (by decide) (by omega) (fun h127 => ?_) (fun h127 => ?_)) | ((with_reducible refine mk_nn ?_); refine n_icmp_ne (tgt := 157) dX11_spells_127 (by decide) (by omega) (by omega) (fun h127 => ?_) (fun h127 => ?_)) | refine e_icmp_ne (tgt := 157) dX11_spells_127 (by decide) (fun h127 => ?_) (fun h127 => ?_)
                                  · try first | contradiction | omega
                                    all_goals
                                      refine e_iconst (v := nI 0) dX11_spells_157 rfl ?_
                                      first | ((with_reducible refine mk_b ?_); refine e_ret (some _) rfl (r_bool dX11_spells_158 rfl) ?_) | ((with_reducible refine mk_n1 ?_); refine e_ret (some _) rfl (r_b1 dX11_spells_158 rfl) ?_) | ((with_reducible refine mk_n0 ?_); refine e_ret (some _) rfl (r_b0 dX11_spells_158 rfl) ?_)
                                      first | (refine xq (bl1 ?_) rfl rfl rfl rfl rfl; unfold spB; grind) | (refine xq (bl0 ?_) rfl rfl rfl rfl rfl; unfold spB; grind)
                                  · try first | contradiction | omega
                                    all_goals
                                      refine e_iload_n dX11_spells_130 rfl rfl ?_
                                      refine e_bipush (v := nI 7) dX11_spells_131 rfl ?_
                                      first | ((with_reducible refine mk_nn ?_); refine n_icmp_lt (tgt := 153) dX11_spells_133 (by decide) (by omega) (by omega) (fun h133 => ?_) (fun h133 => ?_)) | refine e_icmp_lt (tgt := 153) dX11_spells_133 (by decide) (fun h133 => ?_) (fun h133 => ?_)
                                      · try first | contradiction | omega
                                        all_goals
                                          refine e_iconst (v := nI 1) dX11_spells_153 rfl ?_
                                          refine e_goto (tgt := 158) dX11_spells_154 (by decide) ?_
                                          first | ((with_reducible refine mk_b ?_); refine e_ret (some _) rfl (r_bool dX11_spells_158 rfl) ?_) | ((with_reducible refine mk_n1 ?_); refine e_ret (some _) rfl (r_b1 dX11_spells_158 rfl) ?_) | ((with_reducible refine mk_n0 ?_); refine e_ret (some _) rfl (r_b0 dX11_spells_158 rfl) ?_)
                                          first | (refine xq (bl1 ?_) rfl rfl rfl rfl rfl; unfold spB; grind) | (refine xq (bl0 ?_) rfl rfl rfl rfl rfl; unfold spB; grind)
                                      · try first | contradiction | omega
                                        all_goals
                                          refine e_aload_n dX11_spells_136 rfl rfl ?_
                                          refine e_getR dX11_spells_137 fl_X11_29 rfl (by assumption) ?_
                                          refine e_aload_n dX11_spells_140 rfl rfl ?_
                                          refine e_getI dX11_spells_141 fl_X11_229 rfl ?_
                                          rw [psF_11]
                                          refine e_bipush (v := nI 6) dX11_spells_144 rfl ?_
                                          first | ((with_reducible refine mk_nn ?_); refine n_iadd dX11_spells_146 ?_) | refine e_iadd dX11_spells_146 ?_
                                          first | refine e_bald _ dX11_spells_147 ⟨by decide, by decide⟩ rfl rfl (by simp only [lenK]; omega) ?_ | refine e_zald _ dX11_spells_147 ⟨by decide, by decide⟩ rfl rfl (by simp only [lenK]; omega) ?_
                                          refine e_iload dX11_spells_148 rfl ?_
                                          first | ((with_reducible refine mk_mo ?_); refine p_icmp_ne (tgt := 157) dX11_spells_150 (by decide) (fun h150 => ?_) (fun h150 => ?_)) | ((with_reducible refine mk_ms ?_); refine s_icmp_ne (tgt := 157) dX11_spells_150 (by decide) (by omega) (fun h150 => ?_) (fun h150 => ?_)) | ((with_reducible refine mk_mn ?_); refine q_icmp_ne (tgt := 157) dX11_spells_150 (by decide) (by omega) (fun h150 => ?_) (fun h150 => ?_)) | ((with_reducible refine mk_nn ?_); refine n_icmp_ne (tgt := 157) dX11_spells_150 (by decide) (by omega) (by omega) (fun h150 => ?_) (fun h150 => ?_)) | refine e_icmp_ne (tgt := 157) dX11_spells_150 (by decide) (fun h150 => ?_) (fun h150 => ?_)
                                          · try first | contradiction | omega
                                            all_goals
                                              refine e_iconst (v := nI 0) dX11_spells_157 rfl ?_
                                              first | ((with_reducible refine mk_b ?_); refine e_ret (some _) rfl (r_bool dX11_spells_158 rfl) ?_) | ((with_reducible refine mk_n1 ?_); refine e_ret (some _) rfl (r_b1 dX11_spells_158 rfl) ?_) | ((with_reducible refine mk_n0 ?_); refine e_ret (some _) rfl (r_b0 dX11_spells_158 rfl) ?_)
                                              first | (refine xq (bl1 ?_) rfl rfl rfl rfl rfl; unfold spB; grind) | (refine xq (bl0 ?_) rfl rfl rfl rfl rfl; unfold spB; grind)
                                          · try first | contradiction | omega
                                            all_goals
                                              refine e_iconst (v := nI 1) dX11_spells_153 rfl ?_
                                              refine e_goto (tgt := 158) dX11_spells_154 (by decide) ?_
                                              first | ((with_reducible refine mk_b ?_); refine e_ret (some _) rfl (r_bool dX11_spells_158 rfl) ?_) | ((with_reducible refine mk_n1 ?_); refine e_ret (some _) rfl (r_b1 dX11_spells_158 rfl) ?_) | ((with_reducible refine mk_n0 ?_); refine e_ret (some _) rfl (r_b0 dX11_spells_158 rfl) ?_)
                                              first | (refine xq (bl1 ?_) rfl rfl rfl rfl rfl; unfold spB; grind) | (refine xq (bl0 ?_) rfl rfl rfl rfl rfl; unfold spB; grind)
                          · try first | contradiction | omega
                            all_goals
                              refine e_iconst (v := nI 0) dX11_spells_106 rfl ?_
                              first | ((with_reducible refine mk_b ?_); refine e_ret (some _) rfl (r_bool dX11_spells_107 rfl) ?_) | ((with_reducible refine mk_n1 ?_); refine e_ret (some _) rfl (r_b1 dX11_spells_107 rfl) ?_) | ((with_reducible refine mk_n0 ?_); refine e_ret (some _) rfl (r_b0 dX11_spells_107 rfl) ?_)
                              first | (refine xq (bl1 ?_) rfl rfl rfl rfl rfl; unfold spB; grind) | (refine xq (bl0 ?_) rfl rfl rfl rfl rfl; unfold spB; grind)
                  · try first | contradiction | omega
                    all_goals
                      refine e_aload_n dX11_spells_69 rfl rfl ?_
                      refine e_getR dX11_spells_70 fl_X11_29 rfl (by assumption) ?_
                      refine e_aload_n dX11_spells_73 rfl rfl ?_
                      refine e_getI dX11_spells_74 fl_X11_229 rfl ?_
                      rw [psF_11]
                      refine e_iconst (v := nI 3) dX11_spells_77 rfl ?_
                      first | ((with_reducible refine mk_nn ?_); refine n_iadd dX11_spells_78 ?_) | refine e_iadd dX11_spells_78 ?_
                      first | refine e_bald _ dX11_spells_79 ⟨by decide, by decide⟩ rfl rfl (by simp only [lenK]; omega) ?_ | refine e_zald _ dX11_spells_79 ⟨by decide, by decide⟩ rfl rfl (by simp only [lenK]; omega) ?_
                      refine e_iload dX11_spells_80 rfl ?_
                      first | ((with_reducible refine mk_mo ?_); refine p_icmp_ne (tgt := 106) dX11_spells_82 (by decide) (fun h82 => ?_) (fun h82 => ?_)) | ((with_reducible refine mk_ms ?_); refine s_icmp_ne (tgt := 106) dX11_spells_82 (by decide) (by omega) (fun h82 => ?_) (fun h82 => ?_)) | ((with_reducible refine mk_mn ?_); refine q_icmp_ne (tgt := 106) dX11_spells_82 (by decide) (by omega) (fun h82 => ?_) (fun h82 => ?_)) | ((with_reducible refine mk_nn ?_); refine n_icmp_ne (tgt := 106) dX11_spells_82 (by decide) (by omega) (by omega) (fun h82 => ?_) (fun h82 => ?_)) | refine e_icmp_ne (tgt := 106) dX11_spells_82 (by decide) (fun h82 => ?_) (fun h82 => ?_)
                      · try first | contradiction | omega
                        all_goals
                          refine e_iconst (v := nI 0) dX11_spells_106 rfl ?_
                          first | ((with_reducible refine mk_b ?_); refine e_ret (some _) rfl (r_bool dX11_spells_107 rfl) ?_) | ((with_reducible refine mk_n1 ?_); refine e_ret (some _) rfl (r_b1 dX11_spells_107 rfl) ?_) | ((with_reducible refine mk_n0 ?_); refine e_ret (some _) rfl (r_b0 dX11_spells_107 rfl) ?_)
                          first | (refine xq (bl1 ?_) rfl rfl rfl rfl rfl; unfold spB; grind) | (refine xq (bl0 ?_) rfl rfl rfl rfl rfl; unfold spB; grind)
                      · try first | contradiction | omega
                        all_goals
                          refine e_iload_n dX11_spells_85 rfl rfl ?_
                          refine e_iconst (v := nI 4) dX11_spells_86 rfl ?_
                          first | ((with_reducible refine mk_nn ?_); refine n_icmp_le (tgt := 108) dX11_spells_87 (by decide) (by omega) (by omega) (fun h87 => ?_) (fun h87 => ?_)) | refine e_icmp_le (tgt := 108) dX11_spells_87 (by decide) (fun h87 => ?_) (fun h87 => ?_)
                          · try first | contradiction | omega
                            all_goals
                              refine e_iload_n dX11_spells_108 rfl rfl ?_
                              refine e_bipush (v := nI 6) dX11_spells_109 rfl ?_
                              first | ((with_reducible refine mk_nn ?_); refine n_icmp_lt (tgt := 130) dX11_spells_111 (by decide) (by omega) (by omega) (fun h111 => ?_) (fun h111 => ?_)) | refine e_icmp_lt (tgt := 130) dX11_spells_111 (by decide) (fun h111 => ?_) (fun h111 => ?_)
                              · try first | contradiction | omega
                                all_goals
                                  refine e_iload_n dX11_spells_130 rfl rfl ?_
                                  refine e_bipush (v := nI 7) dX11_spells_131 rfl ?_
                                  first | ((with_reducible refine mk_nn ?_); refine n_icmp_lt (tgt := 153) dX11_spells_133 (by decide) (by omega) (by omega) (fun h133 => ?_) (fun h133 => ?_)) | refine e_icmp_lt (tgt := 153) dX11_spells_133 (by decide) (fun h133 => ?_) (fun h133 => ?_)
                                  · try first | contradiction | omega
                                    all_goals
                                      refine e_iconst (v := nI 1) dX11_spells_153 rfl ?_
                                      refine e_goto (tgt := 158) dX11_spells_154 (by decide) ?_
                                      first | ((with_reducible refine mk_b ?_); refine e_ret (some _) rfl (r_bool dX11_spells_158 rfl) ?_) | ((with_reducible refine mk_n1 ?_); refine e_ret (some _) rfl (r_b1 dX11_spells_158 rfl) ?_) | ((with_reducible refine mk_n0 ?_); refine e_ret (some _) rfl (r_b0 dX11_spells_158 rfl) ?_)
                                      first | (refine xq (bl1 ?_) rfl rfl rfl rfl rfl; unfold spB; grind) | (refine xq (bl0 ?_) rfl rfl rfl rfl rfl; unfold spB; grind)
                                  · try first | contradiction | omega
                                    all_goals
                                      refine e_aload_n dX11_spells_136 rfl rfl ?_
                                      refine e_getR dX11_spells_137 fl_X11_29 rfl (by assumption) ?_
                                      refine e_aload_n dX11_spells_140 rfl rfl ?_
                                      refine e_getI dX11_spells_141 fl_X11_229 rfl ?_
                                      rw [psF_11]
                                      refine e_bipush (v := nI 6) dX11_spells_144 rfl ?_
                                      first | ((with_reducible refine mk_nn ?_); refine n_iadd dX11_spells_146 ?_) | refine e_iadd dX11_spells_146 ?_
                                      first | refine e_bald _ dX11_spells_147 ⟨by decide, by decide⟩ rfl rfl (by simp only [lenK]; omega) ?_ | refine e_zald _ dX11_spells_147 ⟨by decide, by decide⟩ rfl rfl (by simp only [lenK]; omega) ?_
                                      refine e_iload dX11_spells_148 rfl ?_
                                      first | ((with_reducible refine mk_mo ?_); refine p_icmp_ne (tgt := 157) dX11_spells_150 (by decide) (fun h150 => ?_) (fun h150 => ?_)) | ((with_reducible refine mk_ms ?_); refine s_icmp_ne (tgt := 157) dX11_spells_150 (by decide) (by omega) (fun h150 => ?_) (fun h150 => ?_)) | ((with_reducible refine mk_mn ?_); refine q_icmp_ne (tgt := 157) dX11_spells_150 (by decide) (by omega) (fun h150 => ?_) (fun h150 => ?_)) | ((with_reducible refine mk_nn ?_); refine n_icmp_ne (tgt := 157) dX11_spells_150 (by decide) (by omega) (by omega) (fun h150 => ?_) (fun h150 => ?_)) | refine e_icmp_ne (tgt := 157) dX11_spells_150 (by decide) (fun h150 => ?_) (fun h150 => ?_)
                                      · try first | contradiction | omega
                                        all_goals
                                          refine e_iconst (v := nI 0) dX11_spells_157 rfl ?_
                                          first | ((with_reducible refine mk_b ?_); refine e_ret (some _) rfl (r_bool dX11_spells_158 rfl) ?_) | ((with_reducible refine mk_n1 ?_); refine e_ret (some _) rfl (r_b1 dX11_spells_158 rfl) ?_) | ((with_reducible refine mk_n0 ?_); refine e_ret (some _) rfl (r_b0 dX11_spells_158 rfl) ?_)
                                          first | (refine xq (bl1 ?_) rfl rfl rfl rfl rfl; unfold spB; grind) | (refine xq (bl0 ?_) rfl rfl rfl rfl rfl; unfold spB; grind)
                                      · try first | contradiction | omega
                                        all_goals
                                          refine e_iconst (v := nI 1) dX11_spells_153 rfl ?_
                                          refine e_goto (tgt := 158) dX11_spells_154 (by decide) ?_
                                          first | ((with_reducible refine mk_b ?_); refine e_ret (some _) rfl (r_bool dX11_spells_158 rfl) ?_) | ((with_reducible refine mk_n1 ?_); refine e_ret (some _) rfl (r_b1 dX11_spells_158 rfl) ?_) | ((with_reducible refine mk_n0 ?_); refine e_ret (some _) rfl (r_b0 dX11_spells_158 rfl) ?_)
                                          first | (refine xq (bl1 ?_) rfl rfl rfl rfl rfl; unfold spB; grind) | (refine xq (bl0 ?_) rfl rfl rfl rfl rfl; unfold spB; grind)
                              · try first | contradiction | omega
                                all_goals
                                  refine e_aload_n dX11_spells_114 rfl rfl ?_
                                  refine e_getR dX11_spells_115 fl_X11_29 rfl (by assumption) ?_
                                  refine e_aload_n dX11_spells_118 rfl rfl ?_
                                  refine e_getI dX11_spells_119 fl_X11_229 rfl ?_
                                  rw [psF_11]
                                  refine e_iconst (v := nI 5) dX11_spells_122 rfl ?_
                                  first | ((with_reducible refine mk_nn ?_); refine n_iadd dX11_spells_123 ?_) | refine e_iadd dX11_spells_123 ?_
                                  first | refine e_bald _ dX11_spells_124 ⟨by decide, by decide⟩ rfl rfl (by simp only [lenK]; omega) ?_ | refine e_zald _ dX11_spells_124 ⟨by decide, by decide⟩ rfl rfl (by simp only [lenK]; omega) ?_
                                  refine e_iload dX11_spells_125 rfl ?_
                                  first | ((with_reducible refine mk_mo ?_); refine p_icmp_ne (tgt := 157) dX11_spells_127 (by decide) (fun h127 => ?_) (fun h127 => ?_)) | ((with_reducible refine mk_ms ?_); refine s_icmp_ne (tgt := 157) dX11_spells_127 (by decide) (by omega) (fun h127 => ?_) (fun h127 => ?_)) | ((with_reducible refine mk_mn ?_); refine q_icmp_ne (tgt := 157) dX11_spells_127 (by decide) (by omega) (fun h127 => ?_) (fun h127 => ?_)) | ((with_reducible refine mk_nn ?_); refine n_icmp_ne (tgt := 157) dX11_spells_127 (by decide) (by omega) (by omega) (fun h127 => ?_) (fun h127 => ?_)) | refine e_icmp_ne (tgt := 157) dX11_spells_127 (by decide) (fun h127 => ?_) (fun h127 => ?_)
                                  · try first | contradiction | omega
                                    all_goals
                                      refine e_iconst (v := nI 0) dX11_spells_157 rfl ?_
                                      first | ((with_reducible refine mk_b ?_); refine e_ret (some _) rfl (r_bool dX11_spells_158 rfl) ?_) | ((with_reducible refine mk_n1 ?_); refine e_ret (some _) rfl (r_b1 dX11_spells_158 rfl) ?_) | ((with_reducible refine mk_n0 ?_); refine e_ret (some _) rfl (r_b0 dX11_spells_158 rfl) ?_)
                                      first | (refine xq (bl1 ?_) rfl rfl rfl rfl rfl; unfold spB; grind) | (refine xq (bl0 ?_) rfl rfl rfl rfl rfl; unfold spB; grind)
                                  · try first | contradiction | omega
                                    all_goals
                                      refine e_iload_n dX11_spells_130 rfl rfl ?_
                                      refine e_bipush (v := nI 7) dX11_spells_131 rfl ?_
                                      first | ((with_reducible refine mk_nn ?_); refine n_icmp_lt (tgt := 153) dX11_spells_133 (by decide) (by omega) (by omega) (fun h133 => ?_) (fun h133 => ?_)) | refine e_icmp_lt (tgt := 153) dX11_spells_133 (by decide) (fun h133 => ?_) (fun h133 => ?_)
                                      · try first | contradiction | omega
                                        all_goals
                                          refine e_iconst (v := nI 1) dX11_spells_153 rfl ?_
                                          refine e_goto (tgt := 158) dX11_spells_154 (by decide) ?_
                                          first | ((with_reducible refine mk_b ?_); refine e_ret (some _) rfl (r_bool dX11_spells_158 rfl) ?_) | ((with_reducible refine mk_n1 ?_); refine e_ret (some _) rfl (r_b1 dX11_spells_158 rfl) ?_) | ((with_reducible refine mk_n0 ?_); refine e_ret (some _) rfl (r_b0 dX11_spells_158 rfl) ?_)
                                          first | (refine xq (bl1 ?_) rfl rfl rfl rfl rfl; unfold spB; grind) | (refine xq (bl0 ?_) rfl rfl rfl rfl rfl; unfold spB; grind)
                                      · try first | contradiction | omega
                                        all_goals
                                          refine e_aload_n dX11_spells_136 rfl rfl ?_
                                          refine e_getR dX11_spells_137 fl_X11_29 rfl (by assumption) ?_
                                          refine e_aload_n dX11_spells_140 rfl rfl ?_
                                          refine e_getI dX11_spells_141 fl_X11_229 rfl ?_
                                          rw [psF_11]
                                          refine e_bipush (v := nI 6) dX11_spells_144 rfl ?_
                                          first | ((with_reducible refine mk_nn ?_); refine n_iadd dX11_spells_146 ?_) | refine e_iadd dX11_spells_146 ?_
                                          first | refine e_bald _ dX11_spells_147 ⟨by decide, by decide⟩ rfl rfl (by simp only [lenK]; omega) ?_ | refine e_zald _ dX11_spells_147 ⟨by decide, by decide⟩ rfl rfl (by simp only [lenK]; omega) ?_
                                          refine e_iload dX11_spells_148 rfl ?_
                                          first | ((with_reducible refine mk_mo ?_); refine p_icmp_ne (tgt := 157) dX11_spells_150 (by decide) (fun h150 => ?_) (fun h150 => ?_)) | ((with_reducible refine mk_ms ?_); refine s_icmp_ne (tgt := 157) dX11_spells_150 (by decide) (by omega) (fun h150 => ?_) (fun h150 => ?_)) | ((with_reducible refine mk_mn ?_); refine q_icmp_ne (tgt := 157) dX11_spells_150 (by decide) (by omega) (fun h150 => ?_) (fun h150 => ?_)) | ((with_reducible refine mk_nn ?_); refine n_icmp_ne (tgt := 157) dX11_spells_150 (by decide) (by omega) (by omega) (fun h150 => ?_) (fun h150 => ?_)) | refine e_icmp_ne (tgt := 157) dX11_spells_150 (by decide) (fun h150 => ?_) (fun h150 => ?_)
                                          · try first | contradiction | omega
                                            all_goals
                                              refine e_iconst (v := nI 0) dX11_spells_157 rfl ?_
                                              first | ((with_reducible refine mk_b ?_); refine e_ret (some _) rfl (r_bool dX11_spells_158 rfl) ?_) | ((with_reducible refine mk_n1 ?_); refine e_ret (some _) rfl (r_b1 dX11_spells_158 rfl) ?_) | ((with_reducible refine mk_n0 ?_); refine e_ret (some _) rfl (r_b0 dX11_spells_158 rfl) ?_)
                                              first | (refine xq (bl1 ?_) rfl rfl rfl rfl rfl; unfold spB; grind) | (refine xq (bl0 ?_) rfl rfl rfl rfl rfl; unfold spB; grind)
                                          · try first | contradiction | omega
                                            all_goals
                                              refine e_iconst (v := nI 1) dX11_spells_153 rfl ?_
                                              refine e_goto (tgt := 158) dX11_spells_154 (by decide) ?_
                                              first | ((with_reducible refine mk_b ?_); refine e_ret (some _) rfl (r_bool dX11_spells_158 rfl) ?_) | ((with_reducible refine mk_n1 ?_); refine e_ret (some _) rfl (r_b1 dX11_spells_158 rfl) ?_) | ((with_reducible refine mk_n0 ?_); refine e_ret (some _) rfl (r_b0 dX11_spells_158 rfl) ?_)
                                              first | (refine xq (bl1 ?_) rfl rfl rfl rfl rfl; unfold spB; grind) | (refine xq (bl0 ?_) rfl rfl rfl rfl rfl; unfold spB; grind)
                          · try first | contradiction | omega
                            all_goals
                              refine e_aload_n dX11_spells_90 rfl rfl ?_
                              refine e_getR dX11_spells_91 fl_X11_29 rfl (by assumption) ?_
                              refine e_aload_n dX11_spells_94 rfl rfl ?_
                              refine e_getI dX11_spells_95 fl_X11_229 rfl ?_
                              rw [psF_11]
                              refine e_iconst (v := nI 4) dX11_spells_98 rfl ?_
                              first | ((with_reducible refine mk_nn ?_); refine n_iadd dX11_spells_99 ?_) | refine e_iadd dX11_spells_99 ?_
                              first | refine e_bald _ dX11_spells_100 ⟨by decide, by decide⟩ rfl rfl (by simp only [lenK]; omega) ?_ | refine e_zald _ dX11_spells_100 ⟨by decide, by decide⟩ rfl rfl (by simp only [lenK]; omega) ?_
                              refine e_iload dX11_spells_101 rfl ?_
                              first | ((with_reducible refine mk_mo ?_); refine p_icmp_eq (tgt := 108) dX11_spells_103 (by decide) (fun h103 => ?_) (fun h103 => ?_)) | ((with_reducible refine mk_ms ?_); refine s_icmp_eq (tgt := 108) dX11_spells_103 (by decide) (by omega) (fun h103 => ?_) (fun h103 => ?_)) | ((with_reducible refine mk_mn ?_); refine q_icmp_eq (tgt := 108) dX11_spells_103 (by decide) (by omega) (fun h103 => ?_) (fun h103 => ?_)) | ((with_reducible refine mk_nn ?_); refine n_icmp_eq (tgt := 108) dX11_spells_103 (by decide) (by omega) (by omega) (fun h103 => ?_) (fun h103 => ?_)) | refine e_icmp_eq (tgt := 108) dX11_spells_103 (by decide) (fun h103 => ?_) (fun h103 => ?_)
                              · try first | contradiction | omega
                                all_goals
                                  refine e_iload_n dX11_spells_108 rfl rfl ?_
                                  refine e_bipush (v := nI 6) dX11_spells_109 rfl ?_
                                  first | ((with_reducible refine mk_nn ?_); refine n_icmp_lt (tgt := 130) dX11_spells_111 (by decide) (by omega) (by omega) (fun h111 => ?_) (fun h111 => ?_)) | refine e_icmp_lt (tgt := 130) dX11_spells_111 (by decide) (fun h111 => ?_) (fun h111 => ?_)
                                  · try first | contradiction | omega
                                    all_goals
                                      refine e_iload_n dX11_spells_130 rfl rfl ?_
                                      refine e_bipush (v := nI 7) dX11_spells_131 rfl ?_
                                      first | ((with_reducible refine mk_nn ?_); refine n_icmp_lt (tgt := 153) dX11_spells_133 (by decide) (by omega) (by omega) (fun h133 => ?_) (fun h133 => ?_)) | refine e_icmp_lt (tgt := 153) dX11_spells_133 (by decide) (fun h133 => ?_) (fun h133 => ?_)
                                      · try first | contradiction | omega
                                        all_goals
                                          refine e_iconst (v := nI 1) dX11_spells_153 rfl ?_
                                          refine e_goto (tgt := 158) dX11_spells_154 (by decide) ?_
                                          first | ((with_reducible refine mk_b ?_); refine e_ret (some _) rfl (r_bool dX11_spells_158 rfl) ?_) | ((with_reducible refine mk_n1 ?_); refine e_ret (some _) rfl (r_b1 dX11_spells_158 rfl) ?_) | ((with_reducible refine mk_n0 ?_); refine e_ret (some _) rfl (r_b0 dX11_spells_158 rfl) ?_)
                                          first | (refine xq (bl1 ?_) rfl rfl rfl rfl rfl; unfold spB; grind) | (refine xq (bl0 ?_) rfl rfl rfl rfl rfl; unfold spB; grind)
                                      · try first | contradiction | omega
                                        all_goals
                                          refine e_aload_n dX11_spells_136 rfl rfl ?_
                                          refine e_getR dX11_spells_137 fl_X11_29 rfl (by assumption) ?_
                                          refine e_aload_n dX11_spells_140 rfl rfl ?_
                                          refine e_getI dX11_spells_141 fl_X11_229 rfl ?_
                                          rw [psF_11]
                                          refine e_bipush (v := nI 6) dX11_spells_144 rfl ?_
                                          first | ((with_reducible refine mk_nn ?_); refine n_iadd dX11_spells_146 ?_) | refine e_iadd dX11_spells_146 ?_
                                          first | refine e_bald _ dX11_spells_147 ⟨by decide, by decide⟩ rfl rfl (by simp only [lenK]; omega) ?_ | refine e_zald _ dX11_spells_147 ⟨by decide, by decide⟩ rfl rfl (by simp only [lenK]; omega) ?_
                                          refine e_iload dX11_spells_148 rfl ?_
                                          first | ((with_reducible refine mk_mo ?_); refine p_icmp_ne (tgt := 157) dX11_spells_150 (by decide) (fun h150 => ?_) (fun h150 => ?_)) | ((with_reducible refine mk_ms ?_); refine s_icmp_ne (tgt := 157) dX11_spells_150 (by decide) (by omega) (fun h150 => ?_) (fun h150 => ?_)) | ((with_reducible refine mk_mn ?_); refine q_icmp_ne (tgt := 157) dX11_spells_150 (by decide) (by omega) (fun h150 => ?_) (fun h150 => ?_)) | ((with_reducible refine mk_nn ?_); refine n_icmp_ne (tgt := 157) dX11_spells_150 (by decide) (by omega) (by omega) (fun h150 => ?_) (fun h150 => ?_)) | refine e_icmp_ne (tgt := 157) dX11_spells_150 (by decide) (fun h150 => ?_) (fun h150 => ?_)
                                          · try first | contradiction | omega
                                            all_goals
                                              refine e_iconst (v := nI 0) dX11_spells_157 rfl ?_
                                              first | ((with_reducible refine mk_b ?_); refine e_ret (some _) rfl (r_bool dX11_spells_158 rfl) ?_) | ((with_reducible refine mk_n1 ?_); refine e_ret (some _) rfl (r_b1 dX11_spells_158 rfl) ?_) | ((with_reducible refine mk_n0 ?_); refine e_ret (some _) rfl (r_b0 dX11_spells_158 rfl) ?_)
                                              first | (refine xq (bl1 ?_) rfl rfl rfl rfl rfl; unfold spB; grind) | (refine xq (bl0 ?_) rfl rfl rfl rfl rfl; unfold spB; grind)
                                          · try first | contradiction | omega
                                            all_goals
                                              refine e_iconst (v := nI 1) dX11_spells_153 rfl ?_
                                              refine e_goto (tgt := 158) dX11_spells_154 (by decide) ?_
                                              first | ((with_reducible refine mk_b ?_); refine e_ret (some _) rfl (r_bool dX11_spells_158 rfl) ?_) | ((with_reducible refine mk_n1 ?_); refine e_ret (some _) rfl (r_b1 dX11_spells_158 rfl) ?_) | ((with_reducible refine mk_n0 ?_); refine e_ret (some _) rfl (r_b0 dX11_spells_158 rfl) ?_)
                                              first | (refine xq (bl1 ?_) rfl rfl rfl rfl rfl; unfold spB; grind) | (refine xq (bl0 ?_) rfl rfl rfl rfl rfl; unfold spB; grind)
                                  · try first | contradiction | omega
                                    all_goals
                                      refine e_aload_n dX11_spells_114 rfl rfl ?_
                                      refine e_getR dX11_spells_115 fl_X11_29 rfl (by assumption) ?_
                                      refine e_aload_n dX11_spells_118 rfl rfl ?_
                                      refine e_getI dX11_spells_119 fl_X11_229 rfl ?_
                                      rw [psF_11]
                                      refine e_iconst (v := nI 5) dX11_spells_122 rfl ?_
                                      first | ((with_reducible refine mk_nn ?_); refine n_iadd dX11_spells_123 ?_) | refine e_iadd dX11_spells_123 ?_
                                      first | refine e_bald _ dX11_spells_124 ⟨by decide, by decide⟩ rfl rfl (by simp only [lenK]; omega) ?_ | refine e_zald _ dX11_spells_124 ⟨by decide, by decide⟩ rfl rfl (by simp only [lenK]; omega) ?_
                                      refine e_iload dX11_spells_125 rfl ?_
                                      first | ((with_reducible refine mk_mo ?_); refine p_icmp_ne (tgt := 157) dX11_spells_127 (by decide) (fun h127 => ?_) (fun h127 => ?_)) | ((with_reducible refine mk_ms ?_); refine s_icmp_ne (tgt := 157) dX11_spells_127 (by decide) (by omega) (fun h127 => ?_) (fun h127 => ?_)) | ((with_reducible refine mk_mn ?_); refine q_icmp_ne (tgt := 157) dX11_spells_127 (by decide) (by omega) (fun h127 => ?_) (fun h127 => ?_)) | ((with_reducible refine mk_nn ?_); refine n_icmp_ne (tgt := 157) dX11_spells_127 (by decide) (by omega) (by omega) (fun h127 => ?_) (fun h127 => ?_)) | refine e_icmp_ne (tgt := 157) dX11_spells_127 (by decide) (fun h127 => ?_) (fun h127 => ?_)
                                      · try first | contradiction | omega
                                        all_goals
                                          refine e_iconst (v := nI 0) dX11_spells_157 rfl ?_
                                          first | ((with_reducible refine mk_b ?_); refine e_ret (some _) rfl (r_bool dX11_spells_158 rfl) ?_) | ((with_reducible refine mk_n1 ?_); refine e_ret (some _) rfl (r_b1 dX11_spells_158 rfl) ?_) | ((with_reducible refine mk_n0 ?_); refine e_ret (some _) rfl (r_b0 dX11_spells_158 rfl) ?_)
                                          first | (refine xq (bl1 ?_) rfl rfl rfl rfl rfl; unfold spB; grind) | (refine xq (bl0 ?_) rfl rfl rfl rfl rfl; unfold spB; grind)
                                      · try first | contradiction | omega
                                        all_goals
                                          refine e_iload_n dX11_spells_130 rfl rfl ?_
                                          refine e_bipush (v := nI 7) dX11_spells_131 rfl ?_
                                          first | ((with_reducible refine mk_nn ?_); refine n_icmp_lt (tgt := 153) dX11_spells_133 (by decide) (by omega) (by omega) (fun h133 => ?_) (fun h133 => ?_)) | refine e_icmp_lt (tgt := 153) dX11_spells_133 (by decide) (fun h133 => ?_) (fun h133 => ?_)
                                          · try first | contradiction | omega
                                            all_goals
                                              refine e_iconst (v := nI 1) dX11_spells_153 rfl ?_
                                              refine e_goto (tgt := 158) dX11_spells_154 (by decide) ?_
                                              first | ((with_reducible refine mk_b ?_); refine e_ret (some _) rfl (r_bool dX11_spells_158 rfl) ?_) | ((with_reducible refine mk_n1 ?_); refine e_ret (some _) rfl (r_b1 dX11_spells_158 rfl) ?_) | ((with_reducible refine mk_n0 ?_); refine e_ret (some _) rfl (r_b0 dX11_spells_158 rfl) ?_)
                                              first | (refine xq (bl1 ?_) rfl rfl rfl rfl rfl; unfold spB; grind) | (refine xq (bl0 ?_) rfl rfl rfl rfl rfl; unfold spB; grind)
                                          · try first | contradiction | omega
                                            all_goals
                                              refine e_aload_n dX11_spells_136 rfl rfl ?_
                                              refine e_getR dX11_spells_137 fl_X11_29 rfl (by assumption) ?_
                                              refine e_aload_n dX11_spells_140 rfl rfl ?_
                                              refine e_getI dX11_spells_141 fl_X11_229 rfl ?_
                                              rw [psF_11]
                                              refine e_bipush (v := nI 6) dX11_spells_144 rfl ?_
                                              first | ((with_reducible refine mk_nn ?_); refine n_iadd dX11_spells_146 ?_) | refine e_iadd dX11_spells_146 ?_
                                              first | refine e_bald _ dX11_spells_147 ⟨by decide, by decide⟩ rfl rfl (by simp only [lenK]; omega) ?_ | refine e_zald _ dX11_spells_147 ⟨by decide, by decide⟩ rfl rfl (by simp only [lenK]; omega) ?_
                                              refine e_iload dX11_spells_148 rfl ?_
                                              first | ((with_reducible refine mk_mo ?_); refine p_icmp_ne (tgt := 157) dX11_spells_150 (by decide) (fun h150 => ?_) (fun h150 => ?_)) | ((with_reducible refine mk_ms ?_); refine s_icmp_ne (tgt := 157) dX11_spells_150 (by decide) (by omega) (fun h150 => ?_) (fun h150 => ?_)) | ((with_reducible refine mk_mn ?_); refine q_icmp_ne (tgt := 157) dX11_spells_150 (by decide) (by omega) (fun h150 => ?_) (fun h150 => ?_)) | ((with_reducible refine mk_nn ?_); refine n_icmp_ne (tgt := 157) dX11_spells_150 (by decide) (by omega) (by omega) (fun h150 => ?_) (fun h150 => ?_)) | refine e_icmp_ne (tgt := 157) dX11_spells_150 (by decide) (fun h150 => ?_) (fun h150 => ?_)
                                              · try first | contradiction | omega
                                                all_goals
                                                  refine e_iconst (v := nI 0) dX11_spells_157 rfl ?_
                                                  first | ((with_reducible refine mk_b ?_); refine e_ret (some _) rfl (r_bool dX11_spells_158 rfl) ?_) | ((with_reducible refine mk_n1 ?_); refine e_ret (some _) rfl (r_b1 dX11_spells_158 rfl) ?_) | ((with_reducible refine mk_n0 ?_); refine e_ret (some _) rfl (r_b0 dX11_spells_158 rfl) ?_)
                                                  first | (refine xq (bl1 ?_) rfl rfl rfl rfl rfl; unfold spB; grind) | (refine xq (bl0 ?_) rfl rfl rfl rfl rfl; unfold spB; grind)
                                              · try first | contradiction | omega
                                                all_goals
                                                  refine e_iconst (v := nI 1) dX11_spells_153 rfl ?_
                                                  refine e_goto (tgt := 158) dX11_spells_154 (by decide) ?_
                                                  first | ((with_reducible refine mk_b ?_); refine e_ret (some _) rfl (r_bool dX11_spells_158 rfl) ?_) | ((with_reducible refine mk_n1 ?_); refine e_ret (some _) rfl (r_b1 dX11_spells_158 rfl) ?_) | ((with_reducible refine mk_n0 ?_); refine e_ret (some _) rfl (r_b0 dX11_spells_158 rfl) ?_)
                                                  first | (refine xq (bl1 ?_) rfl rfl rfl rfl rfl; unfold spB; grind) | (refine xq (bl0 ?_) rfl rfl rfl rfl rfl; unfold spB; grind)
                              · try first | contradiction | omega
                                all_goals
                                  refine e_iconst (v := nI 0) dX11_spells_106 rfl ?_
                                  first | ((with_reducible refine mk_b ?_); refine e_ret (some _) rfl (r_bool dX11_spells_107 rfl) ?_) | ((with_reducible refine mk_n1 ?_); refine e_ret (some _) rfl (r_b1 dX11_spells_107 rfl) ?_) | ((with_reducible refine mk_n0 ?_); refine e_ret (some _) rfl (r_b0 dX11_spells_107 rfl) ?_)
                                  first | (refine xq (bl1 ?_) rfl rfl rfl rfl rfl; unfold spB; grind) | (refine xq (bl0 ?_) rfl rfl rfl rfl rfl; unfold spB; grind)
              · try first | contradiction | omega
                all_goals
                  refine e_aload_n dX11_spells_46 rfl rfl ?_
                  refine e_getR dX11_spells_47 fl_X11_29 rfl (by assumption) ?_
                  refine e_aload_n dX11_spells_50 rfl rfl ?_
                  refine e_getI dX11_spells_51 fl_X11_229 rfl ?_
                  rw [psF_11]
                  refine e_iconst (v := nI 2) dX11_spells_54 rfl ?_
                  first | ((with_reducible refine mk_nn ?_); refine n_iadd dX11_spells_55 ?_) | refine e_iadd dX11_spells_55 ?_
                  first | refine e_bald _ dX11_spells_56 ⟨by decide, by decide⟩ rfl rfl (by simp only [lenK]; omega) ?_ | refine e_zald _ dX11_spells_56 ⟨by decide, by decide⟩ rfl rfl (by simp only [lenK]; omega) ?_
                  refine e_iload dX11_spells_57 rfl ?_
                  first | ((with_reducible refine mk_mo ?_); refine p_icmp_eq (tgt := 64) dX11_spells_59 (by decide) (fun h59 => ?_) (fun h59 => ?_)) | ((with_reducible refine mk_ms ?_); refine s_icmp_eq (tgt := 64) dX11_spells_59 (by decide) (by omega) (fun h59 => ?_) (fun h59 => ?_)) | ((with_reducible refine mk_mn ?_); refine q_icmp_eq (tgt := 64) dX11_spells_59 (by decide) (by omega) (fun h59 => ?_) (fun h59 => ?_)) | ((with_reducible refine mk_nn ?_); refine n_icmp_eq (tgt := 64) dX11_spells_59 (by decide) (by omega) (by omega) (fun h59 => ?_) (fun h59 => ?_)) | refine e_icmp_eq (tgt := 64) dX11_spells_59 (by decide) (fun h59 => ?_) (fun h59 => ?_)
                  · try first | contradiction | omega
                    all_goals
                      refine e_iload_n dX11_spells_64 rfl rfl ?_
                      refine e_iconst (v := nI 3) dX11_spells_65 rfl ?_
                      first | ((with_reducible refine mk_nn ?_); refine n_icmp_le (tgt := 85) dX11_spells_66 (by decide) (by omega) (by omega) (fun h66 => ?_) (fun h66 => ?_)) | refine e_icmp_le (tgt := 85) dX11_spells_66 (by decide) (fun h66 => ?_) (fun h66 => ?_)
                      · try first | contradiction | omega
                        all_goals
                          refine e_iload_n dX11_spells_85 rfl rfl ?_
                          refine e_iconst (v := nI 4) dX11_spells_86 rfl ?_
                          first | ((with_reducible refine mk_nn ?_); refine n_icmp_le (tgt := 108) dX11_spells_87 (by decide) (by omega) (by omega) (fun h87 => ?_) (fun h87 => ?_)) | refine e_icmp_le (tgt := 108) dX11_spells_87 (by decide) (fun h87 => ?_) (fun h87 => ?_)
                          · try first | contradiction | omega
                            all_goals
                              refine e_iload_n dX11_spells_108 rfl rfl ?_
                              refine e_bipush (v := nI 6) dX11_spells_109 rfl ?_
                              first | ((with_reducible refine mk_nn ?_); refine n_icmp_lt (tgt := 130) dX11_spells_111 (by decide) (by omega) (by omega) (fun h111 => ?_) (fun h111 => ?_)) | refine e_icmp_lt (tgt := 130) dX11_spells_111 (by decide) (fun h111 => ?_) (fun h111 => ?_)
                              · try first | contradiction | omega
                                all_goals
                                  refine e_iload_n dX11_spells_130 rfl rfl ?_
                                  refine e_bipush (v := nI 7) dX11_spells_131 rfl ?_
                                  first | ((with_reducible refine mk_nn ?_); refine n_icmp_lt (tgt := 153) dX11_spells_133 (by decide) (by omega) (by omega) (fun h133 => ?_) (fun h133 => ?_)) | refine e_icmp_lt (tgt := 153) dX11_spells_133 (by decide) (fun h133 => ?_) (fun h133 => ?_)
                                  · try first | contradiction | omega
                                    all_goals
                                      refine e_iconst (v := nI 1) dX11_spells_153 rfl ?_
                                      refine e_goto (tgt := 158) dX11_spells_154 (by decide) ?_
                                      first | ((with_reducible refine mk_b ?_); refine e_ret (some _) rfl (r_bool dX11_spells_158 rfl) ?_) | ((with_reducible refine mk_n1 ?_); refine e_ret (some _) rfl (r_b1 dX11_spells_158 rfl) ?_) | ((with_reducible refine mk_n0 ?_); refine e_ret (some _) rfl (r_b0 dX11_spells_158 rfl) ?_)
                                      first | (refine xq (bl1 ?_) rfl rfl rfl rfl rfl; unfold spB; grind) | (refine xq (bl0 ?_) rfl rfl rfl rfl rfl; unfold spB; grind)
                                  · try first | contradiction | omega
                                    all_goals
                                      refine e_aload_n dX11_spells_136 rfl rfl ?_
                                      refine e_getR dX11_spells_137 fl_X11_29 rfl (by assumption) ?_
                                      refine e_aload_n dX11_spells_140 rfl rfl ?_
                                      refine e_getI dX11_spells_141 fl_X11_229 rfl ?_
                                      rw [psF_11]
                                      refine e_bipush (v := nI 6) dX11_spells_144 rfl ?_
                                      first | ((with_reducible refine mk_nn ?_); refine n_iadd dX11_spells_146 ?_) | refine e_iadd dX11_spells_146 ?_
                                      first | refine e_bald _ dX11_spells_147 ⟨by decide, by decide⟩ rfl rfl (by simp only [lenK]; omega) ?_ | refine e_zald _ dX11_spells_147 ⟨by decide, by decide⟩ rfl rfl (by simp only [lenK]; omega) ?_
                                      refine e_iload dX11_spells_148 rfl ?_
                                      first | ((with_reducible refine mk_mo ?_); refine p_icmp_ne (tgt := 157) dX11_spells_150 (by decide) (fun h150 => ?_) (fun h150 => ?_)) | ((with_reducible refine mk_ms ?_); refine s_icmp_ne (tgt := 157) dX11_spells_150 (by decide) (by omega) (fun h150 => ?_) (fun h150 => ?_)) | ((with_reducible refine mk_mn ?_); refine q_icmp_ne (tgt := 157) dX11_spells_150 (by decide) (by omega) (fun h150 => ?_) (fun h150 => ?_)) | ((with_reducible refine mk_nn ?_); refine n_icmp_ne (tgt := 157) dX11_spells_150 (by decide) (by omega) (by omega) (fun h150 => ?_) (fun h150 => ?_)) | refine e_icmp_ne (tgt := 157) dX11_spells_150 (by decide) (fun h150 => ?_) (fun h150 => ?_)
                                      · try first | contradiction | omega
                                        all_goals
                                          refine e_iconst (v := nI 0) dX11_spells_157 rfl ?_
                                          first | ((with_reducible refine mk_b ?_); refine e_ret (some _) rfl (r_bool dX11_spells_158 rfl) ?_) | ((with_reducible refine mk_n1 ?_); refine e_ret (some _) rfl (r_b1 dX11_spells_158 rfl) ?_) | ((with_reducible refine mk_n0 ?_); refine e_ret (some _) rfl (r_b0 dX11_spells_158 rfl) ?_)
                                          first | (refine xq (bl1 ?_) rfl rfl rfl rfl rfl; unfold spB; grind) | (refine xq (bl0 ?_) rfl rfl rfl rfl rfl; unfold spB; grind)
                                      · try first | contradiction | omega
                                        all_goals
                                          refine e_iconst (v := nI 1) dX11_spells_153 rfl ?_
                                          refine e_goto (tgt := 158) dX11_spells_154 (by decide) ?_
                                          first | ((with_reducible refine mk_b ?_); refine e_ret (some _) rfl (r_bool dX11_spells_158 rfl) ?_) | ((with_reducible refine mk_n1 ?_); refine e_ret (some _) rfl (r_b1 dX11_spells_158 rfl) ?_) | ((with_reducible refine mk_n0 ?_); refine e_ret (some _) rfl (r_b0 dX11_spells_158 rfl) ?_)
                                          first | (refine xq (bl1 ?_) rfl rfl rfl rfl rfl; unfold spB; grind) | (refine xq (bl0 ?_) rfl rfl rfl rfl rfl; unfold spB; grind)
                              · try first | contradiction | omega
                                all_goals
                                  refine e_aload_n dX11_spells_114 rfl rfl ?_
                                  refine e_getR dX11_spells_115 fl_X11_29 rfl (by assumption) ?_
                                  refine e_aload_n dX11_spells_118 rfl rfl ?_
                                  refine e_getI dX11_spells_119 fl_X11_229 rfl ?_
                                  rw [psF_11]
                                  refine e_iconst (v := nI 5) dX11_spells_122 rfl ?_
                                  first | ((with_reducible refine mk_nn ?_); refine n_iadd dX11_spells_123 ?_) | refine e_iadd dX11_spells_123 ?_
                                  first | refine e_bald _ dX11_spells_124 ⟨by decide, by decide⟩ rfl rfl (by simp only [lenK]; omega) ?_ | refine e_zald _ dX11_spells_124 ⟨by decide, by decide⟩ rfl rfl (by simp only [lenK]; omega) ?_
                                  refine e_iload dX11_spells_125 rfl ?_
                                  first | ((with_reducible refine mk_mo ?_); refine p_icmp_ne (tgt := 157) dX11_spells_127 (by decide) (fun h127 => ?_) (fun h127 => ?_)) | ((with_reducible refine mk_ms ?_); refine s_icmp_ne (tgt := 157) dX11_spells_127 (by decide) (by omega) (fun h127 => ?_) (fun h127 => ?_)) | ((with_reducible refine mk_mn ?_); refine q_icmp_ne (tgt := 157) dX11_spells_127 (by decide) (by omega) (fun h127 => ?_) (fun h127 => ?_)) | ((with_reducible refine mk_nn ?_); refine n_icmp_ne (tgt := 157) dX11_spells_127 (by decide) (by omega) (by omega) (fun h127 => ?_) (fun h127 => ?_)) | refine e_icmp_ne (tgt := 157) dX11_spells_127 (by decide) (fun h127 => ?_) (fun h127 => ?_)
                                  · try first | contradiction | omega
                                    all_goals
                                      refine e_iconst (v := nI 0) dX11_spells_157 rfl ?_
                                      first | ((with_reducible refine mk_b ?_); refine e_ret (some _) rfl (r_bool dX11_spells_158 rfl) ?_) | ((with_reducible refine mk_n1 ?_); refine e_ret (some _) rfl (r_b1 dX11_spells_158 rfl) ?_) | ((with_reducible refine mk_n0 ?_); refine e_ret (some _) rfl (r_b0 dX11_spells_158 rfl) ?_)
                                      first | (refine xq (bl1 ?_) rfl rfl rfl rfl rfl; unfold spB; grind) | (refine xq (bl0 ?_) rfl rfl rfl rfl rfl; unfold spB; grind)
                                  · try first | contradiction | omega
                                    all_goals
                                      refine e_iload_n dX11_spells_130 rfl rfl ?_
                                      refine e_bipush (v := nI 7) dX11_spells_131 rfl ?_
                                      first | ((with_reducible refine mk_nn ?_); refine n_icmp_lt (tgt := 153) dX11_spells_133 (by decide) (by omega) (by omega) (fun h133 => ?_) (fun h133 => ?_)) | refine e_icmp_lt (tgt := 153) dX11_spells_133 (by decide) (fun h133 => ?_) (fun h133 => ?_)
                                      · try first | contradiction | omega
                                        all_goals
                                          refine e_iconst (v := nI 1) dX11_spells_153 rfl ?_
                                          refine e_goto (tgt := 158) dX11_spells_154 (by decide) ?_
                                          first | ((with_reducible refine mk_b ?_); refine e_ret (some _) rfl (r_bool dX11_spells_158 rfl) ?_) | ((with_reducible refine mk_n1 ?_); refine e_ret (some _) rfl (r_b1 dX11_spells_158 rfl) ?_) | ((with_reducible refine mk_n0 ?_); refine e_ret (some _) rfl (r_b0 dX11_spells_158 rfl) ?_)
                                          first | (refine xq (bl1 ?_) rfl rfl rfl rfl rfl; unfold spB; grind) | (refine xq (bl0 ?_) rfl rfl rfl rfl rfl; unfold spB; grind)
                                      · try first | contradiction | omega
                                        all_goals
                                          refine e_aload_n dX11_spells_136 rfl rfl ?_
                                          refine e_getR dX11_spells_137 fl_X11_29 rfl (by assumption) ?_
                                          refine e_aload_n dX11_spells_140 rfl rfl ?_
                                          refine e_getI dX11_spells_141 fl_X11_229 rfl ?_
                                          rw [psF_11]
                                          refine e_bipush (v := nI 6) dX11_spells_144 rfl ?_
                                          first | ((with_reducible refine mk_nn ?_); refine n_iadd dX11_spells_146 ?_) | refine e_iadd dX11_spells_146 ?_
                                          first | refine e_bald _ dX11_spells_147 ⟨by decide, by decide⟩ rfl rfl (by simp only [lenK]; omega) ?_ | refine e_zald _ dX11_spells_147 ⟨by decide, by decide⟩ rfl rfl (by simp only [lenK]; omega) ?_
                                          refine e_iload dX11_spells_148 rfl ?_
                                          first | ((with_reducible refine mk_mo ?_); refine p_icmp_ne (tgt := 157) dX11_spells_150 (by decide) (fun h150 => ?_) (fun h150 => ?_)) | ((with_reducible refine mk_ms ?_); refine s_icmp_ne (tgt := 157) dX11_spells_150 (by decide) (by omega) (fun h150 => ?_) (fun h150 => ?_)) | ((with_reducible refine mk_mn ?_); refine q_icmp_ne (tgt := 157) dX11_spells_150 (by decide) (by omega) (fun h150 => ?_) (fun h150 => ?_)) | ((with_reducible refine mk_nn ?_); refine n_icmp_ne (tgt := 157) dX11_spells_150 (by decide) (by omega) (by omega) (fun h150 => ?_) (fun h150 => ?_)) | refine e_icmp_ne (tgt := 157) dX11_spells_150 (by decide) (fun h150 => ?_) (fun h150 => ?_)
                                          · try first | contradiction | omega
                                            all_goals
                                              refine e_iconst (v := nI 0) dX11_spells_157 rfl ?_
                                              first | ((with_reducible refine mk_b ?_); refine e_ret (some _) rfl (r_bool dX11_spells_158 rfl) ?_) | ((with_reducible refine mk_n1 ?_); refine e_ret (some _) rfl (r_b1 dX11_spells_158 rfl) ?_) | ((with_reducible refine mk_n0 ?_); refine e_ret (some _) rfl (r_b0 dX11_spells_158 rfl) ?_)
                                              first | (refine xq (bl1 ?_) rfl rfl rfl rfl rfl; unfold spB; grind) | (refine xq (bl0 ?_) rfl rfl rfl rfl rfl; unfold spB; grind)
                                          · try first | contradiction | omega
                                            all_goals
                                              refine e_iconst (v := nI 1) dX11_spells_153 rfl ?_
                                              refine e_goto (tgt := 158) dX11_spells_154 (by decide) ?_
                                              first | ((with_reducible refine mk_b ?_); refine e_ret (some _) rfl (r_bool dX11_spells_158 rfl) ?_) | ((with_reducible refine mk_n1 ?_); refine e_ret (some _) rfl (r_b1 dX11_spells_158 rfl) ?_) | ((with_reducible refine mk_n0 ?_); refine e_ret (some _) rfl (r_b0 dX11_spells_158 rfl) ?_)
                                              first | (refine xq (bl1 ?_) rfl rfl rfl rfl rfl; unfold spB; grind) | (refine xq (bl0 ?_) rfl rfl rfl rfl rfl; unfold spB; grind)
                          · try first | contradiction | omega
                            all_goals
                              refine e_aload_n dX11_spells_90 rfl rfl ?_
                              refine e_getR dX11_spells_91 fl_X11_29 rfl (by assumption) ?_
                              refine e_aload_n dX11_spells_94 rfl rfl ?_
                              refine e_getI dX11_spells_95 fl_X11_229 rfl ?_
                              rw [psF_11]
                              refine e_iconst (v := nI 4) dX11_spells_98 rfl ?_
                              first | ((with_reducible refine mk_nn ?_); refine n_iadd dX11_spells_99 ?_) | refine e_iadd dX11_spells_99 ?_
                              first | refine e_bald _ dX11_spells_100 ⟨by decide, by decide⟩ rfl rfl (by simp only [lenK]; omega) ?_ | refine e_zald _ dX11_spells_100 ⟨by decide, by decide⟩ rfl rfl (by simp only [lenK]; omega) ?_
                              refine e_iload dX11_spells_101 rfl ?_
                              first | ((with_reducible refine mk_mo ?_); refine p_icmp_eq (tgt := 108) dX11_spells_103 (by decide) (fun h103 => ?_) (fun h103 => ?_)) | ((with_reducible refine mk_ms ?_); refine s_icmp_eq (tgt := 108) dX11_spells_103 (by decide) (by omega) (fun h103 => ?_) (fun h103 => ?_)) | ((with_reducible refine mk_mn ?_); refine q_icmp_eq (tgt := 108) dX11_spells_103 (by decide) (by omega) (fun h103 => ?_) (fun h103 => ?_)) | ((with_reducible refine mk_nn ?_); refine n_icmp_eq (tgt := 108) dX11_spells_103 (by decide) (by omega) (by omega) (fun h103 => ?_) (fun h103 => ?_)) | refine e_icmp_eq (tgt := 108) dX11_spells_103 (by decide) (fun h103 => ?_) (fun h103 => ?_)
                              · try first | contradiction | omega
                                all_goals
                                  refine e_iload_n dX11_spells_108 rfl rfl ?_
                                  refine e_bipush (v := nI 6) dX11_spells_109 rfl ?_
                                  first | ((with_reducible refine mk_nn ?_); refine n_icmp_lt (tgt := 130) dX11_spells_111 (by decide) (by omega) (by omega) (fun h111 => ?_) (fun h111 => ?_)) | refine e_icmp_lt (tgt := 130) dX11_spells_111 (by decide) (fun h111 => ?_) (fun h111 => ?_)
                                  · try first | contradiction | omega
                                    all_goals
                                      refine e_iload_n dX11_spells_130 rfl rfl ?_
                                      refine e_bipush (v := nI 7) dX11_spells_131 rfl ?_
                                      first | ((with_reducible refine mk_nn ?_); refine n_icmp_lt (tgt := 153) dX11_spells_133 (by decide) (by omega) (by omega) (fun h133 => ?_) (fun h133 => ?_)) | refine e_icmp_lt (tgt := 153) dX11_spells_133 (by decide) (fun h133 => ?_) (fun h133 => ?_)
                                      · try first | contradiction | omega
                                        all_goals
                                          refine e_iconst (v := nI 1) dX11_spells_153 rfl ?_
                                          refine e_goto (tgt := 158) dX11_spells_154 (by decide) ?_
                                          first | ((with_reducible refine mk_b ?_); refine e_ret (some _) rfl (r_bool dX11_spells_158 rfl) ?_) | ((with_reducible refine mk_n1 ?_); refine e_ret (some _) rfl (r_b1 dX11_spells_158 rfl) ?_) | ((with_reducible refine mk_n0 ?_); refine e_ret (some _) rfl (r_b0 dX11_spells_158 rfl) ?_)
                                          first | (refine xq (bl1 ?_) rfl rfl rfl rfl rfl; unfold spB; grind) | (refine xq (bl0 ?_) rfl rfl rfl rfl rfl; unfold spB; grind)
                                      · try first | contradiction | omega
                                        all_goals
                                          refine e_aload_n dX11_spells_136 rfl rfl ?_
                                          refine e_getR dX11_spells_137 fl_X11_29 rfl (by assumption) ?_
                                          refine e_aload_n dX11_spells_140 rfl rfl ?_
                                          refine e_getI dX11_spells_141 fl_X11_229 rfl ?_
                                          rw [psF_11]
                                          refine e_bipush (v := nI 6) dX11_spells_144 rfl ?_
                                          first | ((with_reducible refine mk_nn ?_); refine n_iadd dX11_spells_146 ?_) | refine e_iadd dX11_spells_146 ?_
                                          first | refine e_bald _ dX11_spells_147 ⟨by decide, by decide⟩ rfl rfl (by simp only [lenK]; omega) ?_ | refine e_zald _ dX11_spells_147 ⟨by decide, by decide⟩ rfl rfl (by simp only [lenK]; omega) ?_
                                          refine e_iload dX11_spells_148 rfl ?_
                                          first | ((with_reducible refine mk_mo ?_); refine p_icmp_ne (tgt := 157) dX11_spells_150 (by decide) (fun h150 => ?_) (fun h150 => ?_)) | ((with_reducible refine mk_ms ?_); refine s_icmp_ne (tgt := 157) dX11_spells_150 (by decide) (by omega) (fun h150 => ?_) (fun h150 => ?_)) | ((with_reducible refine mk_mn ?_); refine q_icmp_ne (tgt := 157) dX11_spells_150 (by decide) (by omega) (fun h150 => ?_) (fun h150 => ?_)) | ((with_reducible refine mk_nn ?_); refine n_icmp_ne (tgt := 157) dX11_spells_150 (by decide) (by omega) (by omega) (fun h150 => ?_) (fun h150 => ?_)) | refine e_icmp_ne (tgt := 157) dX11_spells_150 (by decide) (fun h150 => ?_) (fun h150 => ?_)
                                          · try first | contradiction | omega
                                            all_goals
                                              refine e_iconst (v := nI 0) dX11_spells_157 rfl ?_
                                              first | ((with_reducible refine mk_b ?_); refine e_ret (some _) rfl (r_bool dX11_spells_158 rfl) ?_) | ((with_reducible refine mk_n1 ?_); refine e_ret (some _) rfl (r_b1 dX11_spells_158 rfl) ?_) | ((with_reducible refine mk_n0 ?_); refine e_ret (some _) rfl (r_b0 dX11_spells_158 rfl) ?_)
                                              first | (refine xq (bl1 ?_) rfl rfl rfl rfl rfl; unfold spB; grind) | (refine xq (bl0 ?_) rfl rfl rfl rfl rfl; unfold spB; grind)
                                          · try first | contradiction | omega
                                            all_goals
                                              refine e_iconst (v := nI 1) dX11_spells_153 rfl ?_
                                              refine e_goto (tgt := 158) dX11_spells_154 (by decide) ?_
                                              first | ((with_reducible refine mk_b ?_); refine e_ret (some _) rfl (r_bool dX11_spells_158 rfl) ?_) | ((with_reducible refine mk_n1 ?_); refine e_ret (some _) rfl (r_b1 dX11_spells_158 rfl) ?_) | ((with_reducible refine mk_n0 ?_); refine e_ret (some _) rfl (r_b0 dX11_spells_158 rfl) ?_)
                                              first | (refine xq (bl1 ?_) rfl rfl rfl rfl rfl; unfold spB; grind) | (refine xq (bl0 ?_) rfl rfl rfl rfl rfl; unfold spB; grind)
                                  · try first | contradiction | omega
                                    all_goals
                                      refine e_aload_n dX11_spells_114 rfl rfl ?_
                                      refine e_getR dX11_spells_115 fl_X11_29 rfl (by assumption) ?_
                                      refine e_aload_n dX11_spells_118 rfl rfl ?_
                                      refine e_getI dX11_spells_119 fl_X11_229 rfl ?_
                                      rw [psF_11]
                                      refine e_iconst (v := nI 5) dX11_spells_122 rfl ?_
                                      first | ((with_reducible refine mk_nn ?_); refine n_iadd dX11_spells_123 ?_) | refine e_iadd dX11_spells_123 ?_
                                      first | refine e_bald _ dX11_spells_124 ⟨by decide, by decide⟩ rfl rfl (by simp only [lenK]; omega) ?_ | refine e_zald _ dX11_spells_124 ⟨by decide, by decide⟩ rfl rfl (by simp only [lenK]; omega) ?_
                                      refine e_iload dX11_spells_125 rfl ?_
                                      first | ((with_reducible refine mk_mo ?_); refine p_icmp_ne (tgt := 157) dX11_spells_127 (by decide) (fun h127 => ?_) (fun h127 => ?_)) | ((with_reducible refine mk_ms ?_); refine s_icmp_ne (tgt := 157) dX11_spells_127 (by decide) (by omega) (fun h127 => ?_) (fun h127 => ?_)) | ((with_reducible refine mk_mn ?_); refine q_icmp_ne (tgt := 157) dX11_spells_127 (by decide) (by omega) (fun h127 => ?_) (fun h127 => ?_)) | ((with_reducible refine mk_nn ?_); refine n_icmp_ne (tgt := 157) dX11_spells_127 (by decide) (by omega) (by omega) (fun h127 => ?_) (fun h127 => ?_)) | refine e_icmp_ne (tgt := 157) dX11_spells_127 (by decide) (fun h127 => ?_) (fun h127 => ?_)
                                      · try first | contradiction | omega
                                        all_goals
                                          refine e_iconst (v := nI 0) dX11_spells_157 rfl ?_
                                          first | ((with_reducible refine mk_b ?_); refine e_ret (some _) rfl (r_bool dX11_spells_158 rfl) ?_) | ((with_reducible refine mk_n1 ?_); refine e_ret (some _) rfl (r_b1 dX11_spells_158 rfl) ?_) | ((with_reducible refine mk_n0 ?_); refine e_ret (some _) rfl (r_b0 dX11_spells_158 rfl) ?_)
                                          first | (refine xq (bl1 ?_) rfl rfl rfl rfl rfl; unfold spB; grind) | (refine xq (bl0 ?_) rfl rfl rfl rfl rfl; unfold spB; grind)
                                      · try first | contradiction | omega
                                        all_goals
                                          refine e_iload_n dX11_spells_130 rfl rfl ?_
                                          refine e_bipush (v := nI 7) dX11_spells_131 rfl ?_
                                          first | ((with_reducible refine mk_nn ?_); refine n_icmp_lt (tgt := 153) dX11_spells_133 (by decide) (by omega) (by omega) (fun h133 => ?_) (fun h133 => ?_)) | refine e_icmp_lt (tgt := 153) dX11_spells_133 (by decide) (fun h133 => ?_) (fun h133 => ?_)
                                          · try first | contradiction | omega
                                            all_goals
                                              refine e_iconst (v := nI 1) dX11_spells_153 rfl ?_
                                              refine e_goto (tgt := 158) dX11_spells_154 (by decide) ?_
                                              first | ((with_reducible refine mk_b ?_); refine e_ret (some _) rfl (r_bool dX11_spells_158 rfl) ?_) | ((with_reducible refine mk_n1 ?_); refine e_ret (some _) rfl (r_b1 dX11_spells_158 rfl) ?_) | ((with_reducible refine mk_n0 ?_); refine e_ret (some _) rfl (r_b0 dX11_spells_158 rfl) ?_)
                                              first | (refine xq (bl1 ?_) rfl rfl rfl rfl rfl; unfold spB; grind) | (refine xq (bl0 ?_) rfl rfl rfl rfl rfl; unfold spB; grind)
                                          · try first | contradiction | omega
                                            all_goals
                                              refine e_aload_n dX11_spells_136 rfl rfl ?_
                                              refine e_getR dX11_spells_137 fl_X11_29 rfl (by assumption) ?_
                                              refine e_aload_n dX11_spells_140 rfl rfl ?_
                                              refine e_getI dX11_spells_141 fl_X11_229 rfl ?_
                                              rw [psF_11]
                                              refine e_bipush (v := nI 6) dX11_spells_144 rfl ?_
                                              first | ((with_reducible refine mk_nn ?_); refine n_iadd dX11_spells_146 ?_) | refine e_iadd dX11_spells_146 ?_
                                              first | refine e_bald _ dX11_spells_147 ⟨by decide, by decide⟩ rfl rfl (by simp only [lenK]; omega) ?_ | refine e_zald _ dX11_spells_147 ⟨by decide, by decide⟩ rfl rfl (by simp only [lenK]; omega) ?_
                                              refine e_iload dX11_spells_148 rfl ?_
                                              first | ((with_reducible refine mk_mo ?_); refine p_icmp_ne (tgt := 157) dX11_spells_150 (by decide) (fun h150 => ?_) (fun h150 => ?_)) | ((with_reducible refine mk_ms ?_); refine s_icmp_ne (tgt := 157) dX11_spells_150 (by decide) (by omega) (fun h150 => ?_) (fun h150 => ?_)) | ((with_reducible refine mk_mn ?_); refine q_icmp_ne (tgt := 157) dX11_spells_150 (by decide) (by omega) (fun h150 => ?_) (fun h150 => ?_)) | ((with_reducible refine mk_nn ?_); refine n_icmp_ne (tgt := 157) dX11_spells_150 (by decide) (by omega) (by omega) (fun h150 => ?_) (fun h150 => ?_)) | refine e_icmp_ne (tgt := 157) dX11_spells_150 (by decide) (fun h150 => ?_) (fun h150 => ?_)
                                              · try first | contradiction | omega
                                                all_goals
                                                  refine e_iconst (v := nI 0) dX11_spells_157 rfl ?_
                                                  first | ((with_reducible refine mk_b ?_); refine e_ret (some _) rfl (r_bool dX11_spells_158 rfl) ?_) | ((with_reducible refine mk_n1 ?_); refine e_ret (some _) rfl (r_b1 dX11_spells_158 rfl) ?_) | ((with_reducible refine mk_n0 ?_); refine e_ret (some _) rfl (r_b0 dX11_spells_158 rfl) ?_)
                                                  first | (refine xq (bl1 ?_) rfl rfl rfl rfl rfl; unfold spB; grind) | (refine xq (bl0 ?_) rfl rfl rfl rfl rfl; unfold spB; grind)
                                              · try first | contradiction | omega
                                                all_goals
                                                  refine e_iconst (v := nI 1) dX11_spells_153 rfl ?_
                                                  refine e_goto (tgt := 158) dX11_spells_154 (by decide) ?_
                                                  first | ((with_reducible refine mk_b ?_); refine e_ret (some _) rfl (r_bool dX11_spells_158 rfl) ?_) | ((with_reducible refine mk_n1 ?_); refine e_ret (some _) rfl (r_b1 dX11_spells_158 rfl) ?_) | ((with_reducible refine mk_n0 ?_); refine e_ret (some _) rfl (r_b0 dX11_spells_158 rfl) ?_)
                                                  first | (refine xq (bl1 ?_) rfl rfl rfl rfl rfl; unfold spB; grind) | (refine xq (bl0 ?_) rfl rfl rfl rfl rfl; unfold spB; grind)
                              · try first | contradiction | omega
                                all_goals
                                  refine e_iconst (v := nI 0) dX11_spells_106 rfl ?_
                                  first | ((with_reducible refine mk_b ?_); refine e_ret (some _) rfl (r_bool dX11_spells_107 rfl) ?_) | ((with_reducible refine mk_n1 ?_); refine e_ret (some _) rfl (r_b1 dX11_spells_107 rfl) ?_) | ((with_reducible refine mk_n0 ?_); refine e_ret (some _) rfl (r_b0 dX11_spells_107 rfl) ?_)
                                  first | (refine xq (bl1 ?_) rfl rfl rfl rfl rfl; unfold spB; grind) | (refine xq (bl0 ?_) rfl rfl rfl rfl rfl; unfold spB; grind)
                      · try first | contradiction | omega
                        all_goals
                          refine e_aload_n dX11_spells_69 rfl rfl ?_
                          refine e_getR dX11_spells_70 fl_X11_29 rfl (by assumption) ?_
                          refine e_aload_n dX11_spells_73 rfl rfl ?_
                          refine e_getI dX11_spells_74 fl_X11_229 rfl ?_
                          rw [psF_11]
                          refine e_iconst (v := nI 3) dX11_spells_77 rfl ?_
                          first | ((with_reducible refine mk_nn ?_); refine n_iadd dX11_spells_78 ?_) | refine e_iadd dX11_spells_78 ?_
                          first | refine e_bald _ dX11_spells_79 ⟨by decide, by decide⟩ rfl rfl (by simp only [lenK]; omega) ?_ | refine e_zald _ dX11_spells_79 ⟨by decide, by decide⟩ rfl rfl (by simp only [lenK]; omega) ?_
                          refine e_iload dX11_spells_80 rfl ?_
                          first | ((with_reducible refine mk_mo ?_); refine p_icmp_ne (tgt := 106) dX11_spells_82 (by decide) (fun h82 => ?_) (fun h82 => ?_)) | ((with_reducible refine mk_ms ?_); refine s_icmp_ne (tgt := 106) dX11_spells_82 (by decide) (by omega) (fun h82 => ?_) (fun h82 => ?_)) | ((with_reducible refine mk_mn ?_); refine q_icmp_ne (tgt := 106) dX11_spells_82 (by decide) (by omega) (fun h82 => ?_) (fun h82 => ?_)) | ((with_reducible refine mk_nn ?_); refine n_icmp_ne (tgt := 106) dX11_spells_82 (by decide) (by omega) (by omega) (fun h82 => ?_) (fun h82 => ?_)) | refine e_icmp_ne (tgt := 106) dX11_spells_82 (by decide) (fun h82 => ?_) (fun h82 => ?_)
                          · try first | contradiction | omega
                            all_goals
                              refine e_iconst (v := nI 0) dX11_spells_106 rfl ?_
                              first | ((with_reducible refine mk_b ?_); refine e_ret (some _) rfl (r_bool dX11_spells_107 rfl) ?_) | ((with_reducible refine mk_n1 ?_); refine e_ret (some _) rfl (r_b1 dX11_spells_107 rfl) ?_) | ((with_reducible refine mk_n0 ?_); refine e_ret (some _) rfl (r_b0 dX11_spells_107 rfl) ?_)
                              first | (refine xq (bl1 ?_) rfl rfl rfl rfl rfl; unfold spB; grind) | (refine xq (bl0 ?_) rfl rfl rfl rfl rfl; unfold spB; grind)
                          · try first | contradiction | omega
                            all_goals
                              refine e_iload_n dX11_spells_85 rfl rfl ?_
                              refine e_iconst (v := nI 4) dX11_spells_86 rfl ?_
                              first | ((with_reducible refine mk_nn ?_); refine n_icmp_le (tgt := 108) dX11_spells_87 (by decide) (by omega) (by omega) (fun h87 => ?_) (fun h87 => ?_)) | refine e_icmp_le (tgt := 108) dX11_spells_87 (by decide) (fun h87 => ?_) (fun h87 => ?_)
                              · try first | contradiction | omega
                                all_goals
                                  refine e_iload_n dX11_spells_108 rfl rfl ?_
                                  refine e_bipush (v := nI 6) dX11_spells_109 rfl ?_
                                  first | ((with_reducible refine mk_nn ?_); refine n_icmp_lt (tgt := 130) dX11_spells_111 (by decide) (by omega) (by omega) (fun h111 => ?_) (fun h111 => ?_)) | refine e_icmp_lt (tgt := 130) dX11_spells_111 (by decide) (fun h111 => ?_) (fun h111 => ?_)
                                  · try first | contradiction | omega
                                    all_goals
                                      refine e_iload_n dX11_spells_130 rfl rfl ?_
                                      refine e_bipush (v := nI 7) dX11_spells_131 rfl ?_
                                      first | ((with_reducible refine mk_nn ?_); refine n_icmp_lt (tgt := 153) dX11_spells_133 (by decide) (by omega) (by omega) (fun h133 => ?_) (fun h133 => ?_)) | refine e_icmp_lt (tgt := 153) dX11_spells_133 (by decide) (fun h133 => ?_) (fun h133 => ?_)
                                      · try first | contradiction | omega
                                        all_goals
                                          refine e_iconst (v := nI 1) dX11_spells_153 rfl ?_
                                          refine e_goto (tgt := 158) dX11_spells_154 (by decide) ?_
                                          first | ((with_reducible refine mk_b ?_); refine e_ret (some _) rfl (r_bool dX11_spells_158 rfl) ?_) | ((with_reducible refine mk_n1 ?_); refine e_ret (some _) rfl (r_b1 dX11_spells_158 rfl) ?_) | ((with_reducible refine mk_n0 ?_); refine e_ret (some _) rfl (r_b0 dX11_spells_158 rfl) ?_)
                                          first | (refine xq (bl1 ?_) rfl rfl rfl rfl rfl; unfold spB; grind) | (refine xq (bl0 ?_) rfl rfl rfl rfl rfl; unfold spB; grind)
                                      · try first | contradiction | omega
                                        all_goals
                                          refine e_aload_n dX11_spells_136 rfl rfl ?_
                                          refine e_getR dX11_spells_137 fl_X11_29 rfl (by assumption) ?_
                                          refine e_aload_n dX11_spells_140 rfl rfl ?_
                                          refine e_getI dX11_spells_141 fl_X11_229 rfl ?_
                                          rw [psF_11]
                                          refine e_bipush (v := nI 6) dX11_spells_144 rfl ?_
                                          first | ((with_reducible refine mk_nn ?_); refine n_iadd dX11_spells_146 ?_) | refine e_iadd dX11_spells_146 ?_
                                          first | refine e_bald _ dX11_spells_147 ⟨by decide, by decide⟩ rfl rfl (by simp only [lenK]; omega) ?_ | refine e_zald _ dX11_spells_147 ⟨by decide, by decide⟩ rfl rfl (by simp only [lenK]; omega) ?_
                                          refine e_iload dX11_spells_148 rfl ?_
                                          first | ((with_reducible refine mk_mo ?_); refine p_icmp_ne (tgt := 157) dX11_spells_150 (by decide) (fun h150 => ?_) (fun h150 => ?_)) | ((with_reducible refine mk_ms ?_); refine s_icmp_ne (tgt := 157) dX11_spells_150 (by decide) (by omega) (fun h150 => ?_) (fun h150 => ?_)) | ((with_reducible refine mk_mn ?_); refine q_icmp_ne (tgt := 157) dX11_spells_150 (by decide) (by omega) (fun h150 => ?_) (fun h150 => ?_)) | ((with_reducible refine mk_nn ?_); refine n_icmp_ne (tgt := 157) dX11_spells_150 (by decide) (by omega) (by omega) (fun h150 => ?_) (fun h150 => ?_)) | refine e_icmp_ne (tgt := 157) dX11_spells_150 (by decide) (fun h150 => ?_) (fun h150 => ?_)
                                          · try first | contradiction | omega
                                            all_goals
                                              refine e_iconst (v := nI 0) dX11_spells_157 rfl ?_
                                              first | ((with_reducible refine mk_b ?_); refine e_ret (some _) rfl (r_bool dX11_spells_158 rfl) ?_) | ((with_reducible refine mk_n1 ?_); refine e_ret (some _) rfl (r_b1 dX11_spells_158 rfl) ?_) | ((with_reducible refine mk_n0 ?_); refine e_ret (some _) rfl (r_b0 dX11_spells_158 rfl) ?_)
                                              first | (refine xq (bl1 ?_) rfl rfl rfl rfl rfl; unfold spB; grind) | (refine xq (bl0 ?_) rfl rfl rfl rfl rfl; unfold spB; grind)
                                          · try first | contradiction | omega
                                            all_goals
                                              refine e_iconst (v := nI 1) dX11_spells_153 rfl ?_
                                              refine e_goto (tgt := 158) dX11_spells_154 (by decide) ?_
                                              first | ((with_reducible refine mk_b ?_); refine e_ret (some _) rfl (r_bool dX11_spells_158 rfl) ?_) | ((with_reducible refine mk_n1 ?_); refine e_ret (some _) rfl (r_b1 dX11_spells_158 rfl) ?_) | ((with_reducible refine mk_n0 ?_); refine e_ret (some _) rfl (r_b0 dX11_spells_158 rfl) ?_)
                                              first | (refine xq (bl1 ?_) rfl rfl rfl rfl rfl; unfold spB; grind) | (refine xq (bl0 ?_) rfl rfl rfl rfl rfl; unfold spB; grind)
                                  · try first | contradiction | omega
                                    all_goals
                                      refine e_aload_n dX11_spells_114 rfl rfl ?_
                                      refine e_getR dX11_spells_115 fl_X11_29 rfl (by assumption) ?_
                                      refine e_aload_n dX11_spells_118 rfl rfl ?_
                                      refine e_getI dX11_spells_119 fl_X11_229 rfl ?_
                                      rw [psF_11]
                                      refine e_iconst (v := nI 5) dX11_spells_122 rfl ?_
                                      first | ((with_reducible refine mk_nn ?_); refine n_iadd dX11_spells_123 ?_) | refine e_iadd dX11_spells_123 ?_
                                      first | refine e_bald _ dX11_spells_124 ⟨by decide, by decide⟩ rfl rfl (by simp only [lenK]; omega) ?_ | refine e_zald _ dX11_spells_124 ⟨by decide, by decide⟩ rfl rfl (by simp only [lenK]; omega) ?_
                                      refine e_iload dX11_spells_125 rfl ?_
                                      first | ((with_reducible refine mk_mo ?_); refine p_icmp_ne (tgt := 157) dX11_spells_127 (by decide) (fun h127 => ?_) (fun h127 => ?_)) | ((with_reducible refine mk_ms ?_); refine s_icmp_ne (tgt := 157) dX11_spells_127 (by decide) (by omega) (fun h127 => ?_) (fun h127 => ?_)) | ((with_reducible refine mk_mn ?_); refine q_icmp_ne (tgt := 157) dX11_spells_127 (by decide) (by omega) (fun h127 => ?_) (fun h127 => ?_)) | ((with_reducible refine mk_nn ?_); refine n_icmp_ne (tgt := 157) dX11_spells_127 (by decide) (by omega) (by omega) (fun h127 => ?_) (fun h127 => ?_)) | refine e_icmp_ne (tgt := 157) dX11_spells_127 (by decide) (fun h127 => ?_) (fun h127 => ?_)
                                      · try first | contradiction | omega
                                        all_goals
                                          refine e_iconst (v := nI 0) dX11_spells_157 rfl ?_
                                          first | ((with_reducible refine mk_b ?_); refine e_ret (some _) rfl (r_bool dX11_spells_158 rfl) ?_) | ((with_reducible refine mk_n1 ?_); refine e_ret (some _) rfl (r_b1 dX11_spells_158 rfl) ?_) | ((with_reducible refine mk_n0 ?_); refine e_ret (some _) rfl (r_b0 dX11_spells_158 rfl) ?_)
                                          first | (refine xq (bl1 ?_) rfl rfl rfl rfl rfl; unfold spB; grind) | (refine xq (bl0 ?_) rfl rfl rfl rfl rfl; unfold spB; grind)
                                      · try first | contradiction | omega
                                        all_goals
                                          refine e_iload_n dX11_spells_130 rfl rfl ?_
                                          refine e_bipush (v := nI 7) dX11_spells_131 rfl ?_
                                          first | ((with_reducible refine mk_nn ?_); refine n_icmp_lt (tgt := 153) dX11_spells_133 (by decide) (by omega) (by omega) (fun h133 => ?_) (fun h133 => ?_)) | refine e_icmp_lt (tgt := 153) dX11_spells_133 (by decide) (fun h133 => ?_) (fun h133 => ?_)
                                          · try first | contradiction | omega
                                            all_goals
                                              refine e_iconst (v := nI 1) dX11_spells_153 rfl ?_
                                              refine e_goto (tgt := 158) dX11_spells_154 (by decide) ?_
                                              first | ((with_reducible refine mk_b ?_); refine e_ret (some _) rfl (r_bool dX11_spells_158 rfl) ?_) | ((with_reducible refine mk_n1 ?_); refine e_ret (some _) rfl (r_b1 dX11_spells_158 rfl) ?_) | ((with_reducible refine mk_n0 ?_); refine e_ret (some _) rfl (r_b0 dX11_spells_158 rfl) ?_)
                                              first | (refine xq (bl1 ?_) rfl rfl rfl rfl rfl; unfold spB; grind) | (refine xq (bl0 ?_) rfl rfl rfl rfl rfl; unfold spB; grind)
                                          · try first | contradiction | omega
                                            all_goals
                                              refine e_aload_n dX11_spells_136 rfl rfl ?_
                                              refine e_getR dX11_spells_137 fl_X11_29 rfl (by assumption) ?_
                                              refine e_aload_n dX11_spells_140 rfl rfl ?_
                                              refine e_getI dX11_spells_141 fl_X11_229 rfl ?_
                                              rw [psF_11]
                                              refine e_bipush (v := nI 6) dX11_spells_144 rfl ?_
                                              first | ((with_reducible refine mk_nn ?_); refine n_iadd dX11_spells_146 ?_) | refine e_iadd dX11_spells_146 ?_
                                              first | refine e_bald _ dX11_spells_147 ⟨by decide, by decide⟩ rfl rfl (by simp only [lenK]; omega) ?_ | refine e_zald _ dX11_spells_147 ⟨by decide, by decide⟩ rfl rfl (by simp only [lenK]; omega) ?_
                                              refine e_iload dX11_spells_148 rfl ?_
                                              first | ((with_reducible refine mk_mo ?_); refine p_icmp_ne (tgt := 157) dX11_spells_150 (by decide) (fun h150 => ?_) (fun h150 => ?_)) | ((with_reducible refine mk_ms ?_); refine s_icmp_ne (tgt := 157) dX11_spells_150 (by decide) (by omega) (fun h150 => ?_) (fun h150 => ?_)) | ((with_reducible refine mk_mn ?_); refine q_icmp_ne (tgt := 157) dX11_spells_150 (by decide) (by omega) (fun h150 => ?_) (fun h150 => ?_)) | ((with_reducible refine mk_nn ?_); refine n_icmp_ne (tgt := 157) dX11_spells_150 (by decide) (by omega) (by omega) (fun h150 => ?_) (fun h150 => ?_)) | refine e_icmp_ne (tgt := 157) dX11_spells_150 (by decide) (fun h150 => ?_) (fun h150 => ?_)
                                              · try first | contradiction | omega
                                                all_goals
                                                  refine e_iconst (v := nI 0) dX11_spells_157 rfl ?_
                                                  first | ((with_reducible refine mk_b ?_); refine e_ret (some _) rfl (r_bool dX11_spells_158 rfl) ?_) | ((with_reducible refine mk_n1 ?_); refine e_ret (some _) rfl (r_b1 dX11_spells_158 rfl) ?_) | ((with_reducible refine mk_n0 ?_); refine e_ret (some _) rfl (r_b0 dX11_spells_158 rfl) ?_)
                                                  first | (refine xq (bl1 ?_) rfl rfl rfl rfl rfl; unfold spB; grind) | (refine xq (bl0 ?_) rfl rfl rfl rfl rfl; unfold spB; grind)
                                              · try first | contradiction | omega
                                                all_goals
                                                  refine e_iconst (v := nI 1) dX11_spells_153 rfl ?_
                                                  refine e_goto (tgt := 158) dX11_spells_154 (by decide) ?_
                                                  first | ((with_reducible refine mk_b ?_); refine e_ret (some _) rfl (r_bool dX11_spells_158 rfl) ?_) | ((with_reducible refine mk_n1 ?_); refine e_ret (some _) rfl (r_b1 dX11_spells_158 rfl) ?_) | ((with_reducible refine mk_n0 ?_); refine e_ret (some _) rfl (r_b0 dX11_spells_158 rfl) ?_)
                                                  first | (refine xq (bl1 ?_) rfl rfl rfl rfl rfl; unfold spB; grind) | (refine xq (bl0 ?_) rfl rfl rfl rfl rfl; unfold spB; grind)
                              · try first | contradiction | omega
                                all_goals
                                  refine e_aload_n dX11_spells_90 rfl rfl ?_
                                  refine e_getR dX11_spells_91 fl_X11_29 rfl (by assumption) ?_
                                  refine e_aload_n dX11_spells_94 rfl rfl ?_
                                  refine e_getI dX11_spells_95 fl_X11_229 rfl ?_
                                  rw [psF_11]
                                  refine e_iconst (v := nI 4) dX11_spells_98 rfl ?_
                                  first | ((with_reducible refine mk_nn ?_); refine n_iadd dX11_spells_99 ?_) | refine e_iadd dX11_spells_99 ?_
                                  first | refine e_bald _ dX11_spells_100 ⟨by decide, by decide⟩ rfl rfl (by simp only [lenK]; omega) ?_ | refine e_zald _ dX11_spells_100 ⟨by decide, by decide⟩ rfl rfl (by simp only [lenK]; omega) ?_
                                  refine e_iload dX11_spells_101 rfl ?_
                                  first | ((with_reducible refine mk_mo ?_); refine p_icmp_eq (tgt := 108) dX11_spells_103 (by decide) (fun h103 => ?_) (fun h103 => ?_)) | ((with_reducible refine mk_ms ?_); refine s_icmp_eq (tgt := 108) dX11_spells_103 (by decide) (by omega) (fun h103 => ?_) (fun h103 => ?_)) | ((with_reducible refine mk_mn ?_); refine q_icmp_eq (tgt := 108) dX11_spells_103 (by decide) (by omega) (fun h103 => ?_) (fun h103 => ?_)) | ((with_reducible refine mk_nn ?_); refine n_icmp_eq (tgt := 108) dX11_spells_103 (by decide) (by omega) (by omega) (fun h103 => ?_) (fun h103 => ?_)) | refine e_icmp_eq (tgt := 108) dX11_spells_103 (by decide) (fun h103 => ?_) (fun h103 => ?_)
                                  · try first | contradiction | omega
                                    all_goals
                                      refine e_iload_n dX11_spells_108 rfl rfl ?_
                                      refine e_bipush (v := nI 6) dX11_spells_109 rfl ?_
                                      first | ((with_reducible refine mk_nn ?_); refine n_icmp_lt (tgt := 130) dX11_spells_111 (by decide) (by omega) (by omega) (fun h111 => ?_) (fun h111 => ?_)) | refine e_icmp_lt (tgt := 130) dX11_spells_111 (by decide) (fun h111 => ?_) (fun h111 => ?_)
                                      · try first | contradiction | omega
                                        all_goals
                                          refine e_iload_n dX11_spells_130 rfl rfl ?_
                                          refine e_bipush (v := nI 7) dX11_spells_131 rfl ?_
                                          first | ((with_reducible refine mk_nn ?_); refine n_icmp_lt (tgt := 153) dX11_spells_133 (by decide) (by omega) (by omega) (fun h133 => ?_) (fun h133 => ?_)) | refine e_icmp_lt (tgt := 153) dX11_spells_133 (by decide) (fun h133 => ?_) (fun h133 => ?_)
                                          · try first | contradiction | omega
                                            all_goals
                                              refine e_iconst (v := nI 1) dX11_spells_153 rfl ?_
                                              refine e_goto (tgt := 158) dX11_spells_154 (by decide) ?_
                                              first | ((with_reducible refine mk_b ?_); refine e_ret (some _) rfl (r_bool dX11_spells_158 rfl) ?_) | ((with_reducible refine mk_n1 ?_); refine e_ret (some _) rfl (r_b1 dX11_spells_158 rfl) ?_) | ((with_reducible refine mk_n0 ?_); refine e_ret (some _) rfl (r_b0 dX11_spells_158 rfl) ?_)
                                              first | (refine xq (bl1 ?_) rfl rfl rfl rfl rfl; unfold spB; grind) | (refine xq (bl0 ?_) rfl rfl rfl rfl rfl; unfold spB; grind)
                                          · try first | contradiction | omega
                                            all_goals
                                              refine e_aload_n dX11_spells_136 rfl rfl ?_
                                              refine e_getR dX11_spells_137 fl_X11_29 rfl (by assumption) ?_
                                              refine e_aload_n dX11_spells_140 rfl rfl ?_
                                              refine e_getI dX11_spells_141 fl_X11_229 rfl ?_
                                              rw [psF_11]
                                              refine e_bipush (v := nI 6) dX11_spells_144 rfl ?_
                                              first | ((with_reducible refine mk_nn ?_); refine n_iadd dX11_spells_146 ?_) | refine e_iadd dX11_spells_146 ?_
                                              first | refine e_bald _ dX11_spells_147 ⟨by decide, by decide⟩ rfl rfl (by simp only [lenK]; omega) ?_ | refine e_zald _ dX11_spells_147 ⟨by decide, by decide⟩ rfl rfl (by simp only [lenK]; omega) ?_
                                              refine e_iload dX11_spells_148 rfl ?_
                                              first | ((with_reducible refine mk_mo ?_); refine p_icmp_ne (tgt := 157) dX11_spells_150 (by decide) (fun h150 => ?_) (fun h150 => ?_)) | ((with_reducible refine mk_ms ?_); refine s_icmp_ne (tgt := 157) dX11_spells_150 (by decide) (by omega) (fun h150 => ?_) (fun h150 => ?_)) | ((with_reducible refine mk_mn ?_); refine q_icmp_ne (tgt := 157) dX11_spells_150 (by decide) (by omega) (fun h150 => ?_) (fun h150 => ?_)) | ((with_reducible refine mk_nn ?_); refine n_icmp_ne (tgt := 157) dX11_spells_150 (by decide) (by omega) (by omega) (fun h150 => ?_) (fun h150 => ?_)) | refine e_icmp_ne (tgt := 157) dX11_spells_150 (by decide) (fun h150 => ?_) (fun h150 => ?_)
                                              · try first | contradiction | omega
                                                all_goals
                                                  refine e_iconst (v := nI 0) dX11_spells_157 rfl ?_
                                                  first | ((with_reducible refine mk_b ?_); refine e_ret (some _) rfl (r_bool dX11_spells_158 rfl) ?_) | ((with_reducible refine mk_n1 ?_); refine e_ret (some _) rfl (r_b1 dX11_spells_158 rfl) ?_) | ((with_reducible refine mk_n0 ?_); refine e_ret (some _) rfl (r_b0 dX11_spells_158 rfl) ?_)
                                                  first | (refine xq (bl1 ?_) rfl rfl rfl rfl rfl; unfold spB; grind) | (refine xq (bl0 ?_) rfl rfl rfl rfl rfl; unfold spB; grind)
                                              · try first | contradiction | omega
                                                all_goals
                                                  refine e_iconst (v := nI 1) dX11_spells_153 rfl ?_
                                                  refine e_goto (tgt := 158) dX11_spells_154 (by decide) ?_
                                                  first | ((with_reducible refine mk_b ?_); refine e_ret (some _) rfl (r_bool dX11_spells_158 rfl) ?_) | ((with_reducible refine mk_n1 ?_); refine e_ret (some _) rfl (r_b1 dX11_spells_158 rfl) ?_) | ((with_reducible refine mk_n0 ?_); refine e_ret (some _) rfl (r_b0 dX11_spells_158 rfl) ?_)
                                                  first | (refine xq (bl1 ?_) rfl rfl rfl rfl rfl; unfold spB; grind) | (refine xq (bl0 ?_) rfl rfl rfl rfl rfl; unfold spB; grind)
                                      · try first | contradiction | omega
                                        all_goals
                                          refine e_aload_n dX11_spells_114 rfl rfl ?_
                                          refine e_getR dX11_spells_115 fl_X11_29 rfl (by assumption) ?_
                                          refine e_aload_n dX11_spells_118 rfl rfl ?_
                                          refine e_getI dX11_spells_119 fl_X11_229 rfl ?_
                                          rw [psF_11]
                                          refine e_iconst (v := nI 5) dX11_spells_122 rfl ?_
                                          first | ((with_reducible refine mk_nn ?_); refine n_iadd dX11_spells_123 ?_) | refine e_iadd dX11_spells_123 ?_
                                          first | refine e_bald _ dX11_spells_124 ⟨by decide, by decide⟩ rfl rfl (by simp only [lenK]; omega) ?_ | refine e_zald _ dX11_spells_124 ⟨by decide, by decide⟩ rfl rfl (by simp only [lenK]; omega) ?_
                                          refine e_iload dX11_spells_125 rfl ?_
                                          first | ((with_reducible refine mk_mo ?_); refine p_icmp_ne (tgt := 157) dX11_spells_127 (by decide) (fun h127 => ?_) (fun h127 => ?_)) | ((with_reducible refine mk_ms ?_); refine s_icmp_ne (tgt := 157) dX11_spells_127 (by decide) (by omega) (fun h127 => ?_) (fun h127 => ?_)) | ((with_reducible refine mk_mn ?_); refine q_icmp_ne (tgt := 157) dX11_spells_127 (by decide) (by omega) (fun h127 => ?_) (fun h127 => ?_)) | ((with_reducible refine mk_nn ?_); refine n_icmp_ne (tgt := 157) dX11_spells_127 (by decide) (by omega) (by omega) (fun h127 => ?_) (fun h127 => ?_)) | refine e_icmp_ne (tgt := 157) dX11_spells_127 (by decide) (fun h127 => ?_) (fun h127 => ?_)
                                          · try first | contradiction | omega
                                            all_goals
                                              refine e_iconst (v := nI 0) dX11_spells_157 rfl ?_
                                              first | ((with_reducible refine mk_b ?_); refine e_ret (some _) rfl (r_bool dX11_spells_158 rfl) ?_) | ((with_reducible refine mk_n1 ?_); refine e_ret (some _) rfl (r_b1 dX11_spells_158 rfl) ?_) | ((with_reducible refine mk_n0 ?_); refine e_ret (some _) rfl (r_b0 dX11_spells_158 rfl) ?_)
                                              first | (refine xq (bl1 ?_) rfl rfl rfl rfl rfl; unfold spB; grind) | (refine xq (bl0 ?_) rfl rfl rfl rfl rfl; unfold spB; grind)
                                          · try first | contradiction | omega
                                            all_goals
                                              refine e_iload_n dX11_spells_130 rfl rfl ?_
                                              refine e_bipush (v := nI 7) dX11_spells_131 rfl ?_
                                              first | ((with_reducible refine mk_nn ?_); refine n_icmp_lt (tgt := 153) dX11_spells_133 (by decide) (by omega) (by omega) (fun h133 => ?_) (fun h133 => ?_)) | refine e_icmp_lt (tgt := 153) dX11_spells_133 (by decide) (fun h133 => ?_) (fun h133 => ?_)
                                              · try first | contradiction | omega
                                                all_goals
                                                  refine e_iconst (v := nI 1) dX11_spells_153 rfl ?_
                                                  refine e_goto (tgt := 158) dX11_spells_154 (by decide) ?_
                                                  first | ((with_reducible refine mk_b ?_); refine e_ret (some _) rfl (r_bool dX11_spells_158 rfl) ?_) | ((with_reducible refine mk_n1 ?_); refine e_ret (some _) rfl (r_b1 dX11_spells_158 rfl) ?_) | ((with_reducible refine mk_n0 ?_); refine e_ret (some _) rfl (r_b0 dX11_spells_158 rfl) ?_)
                                                  first | (refine xq (bl1 ?_) rfl rfl rfl rfl rfl; unfold spB; grind) | (refine xq (bl0 ?_) rfl rfl rfl rfl rfl; unfold spB; grind)
                                              · try first | contradiction | omega
                                                all_goals
                                                  refine e_aload_n dX11_spells_136 rfl rfl ?_
                                                  refine e_getR dX11_spells_137 fl_X11_29 rfl (by assumption) ?_
                                                  refine e_aload_n dX11_spells_140 rfl rfl ?_
                                                  refine e_getI dX11_spells_141 fl_X11_229 rfl ?_
                                                  rw [psF_11]
                                                  refine e_bipush (v := nI 6) dX11_spells_144 rfl ?_
                                                  first | ((with_reducible refine mk_nn ?_); refine n_iadd dX11_spells_146 ?_) | refine e_iadd dX11_spells_146 ?_
                                                  first | refine e_bald _ dX11_spells_147 ⟨by decide, by decide⟩ rfl rfl (by simp only [lenK]; omega) ?_ | refine e_zald _ dX11_spells_147 ⟨by decide, by decide⟩ rfl rfl (by simp only [lenK]; omega) ?_
                                                  refine e_iload dX11_spells_148 rfl ?_
                                                  first | ((with_reducible refine mk_mo ?_); refine p_icmp_ne (tgt := 157) dX11_spells_150 (by decide) (fun h150 => ?_) (fun h150 => ?_)) | ((with_reducible refine mk_ms ?_); refine s_icmp_ne (tgt := 157) dX11_spells_150 (by decide) (by omega) (fun h150 => ?_) (fun h150 => ?_)) | ((with_reducible refine mk_mn ?_); refine q_icmp_ne (tgt := 157) dX11_spells_150 (by decide) (by omega) (fun h150 => ?_) (fun h150 => ?_)) | ((with_reducible refine mk_nn ?_); refine n_icmp_ne (tgt := 157) dX11_spells_150 (by decide) (by omega) (by omega) (fun h150 => ?_) (fun h150 => ?_)) | refine e_icmp_ne (tgt := 157) dX11_spells_150 (by decide) (fun h150 => ?_) (fun h150 => ?_)
                                                  · try first | contradiction | omega
                                                    all_goals
                                                      refine e_iconst (v := nI 0) dX11_spells_157 rfl ?_
                                                      first | ((with_reducible refine mk_b ?_); refine e_ret (some _) rfl (r_bool dX11_spells_158 rfl) ?_) | ((with_reducible refine mk_n1 ?_); refine e_ret (some _) rfl (r_b1 dX11_spells_158 rfl) ?_) | ((with_reducible refine mk_n0 ?_); refine e_ret (some _) rfl (r_b0 dX11_spells_158 rfl) ?_)
                                                      first | (refine xq (bl1 ?_) rfl rfl rfl rfl rfl; unfold spB; grind) | (refine xq (bl0 ?_) rfl rfl rfl rfl rfl; unfold spB; grind)
                                                  · try first | contradiction | omega
                                                    all_goals
                                                      refine e_iconst (v := nI 1) dX11_spells_153 rfl ?_
                                                      refine e_goto (tgt := 158) dX11_spells_154 (by decide) ?_
                                                      first | ((with_reducible refine mk_b ?_); refine e_ret (some _) rfl (r_bool dX11_spells_158 rfl) ?_) | ((with_reducible refine mk_n1 ?_); refine e_ret (some _) rfl (r_b1 dX11_spells_158 rfl) ?_) | ((with_reducible refine mk_n0 ?_); refine e_ret (some _) rfl (r_b0 dX11_spells_158 rfl) ?_)
                                                      first | (refine xq (bl1 ?_) rfl rfl rfl rfl rfl; unfold spB; grind) | (refine xq (bl0 ?_) rfl rfl rfl rfl rfl; unfold spB; grind)
                                  · try first | contradiction | omega
                                    all_goals
                                      refine e_iconst (v := nI 0) dX11_spells_106 rfl ?_
                                      first | ((with_reducible refine mk_b ?_); refine e_ret (some _) rfl (r_bool dX11_spells_107 rfl) ?_) | ((with_reducible refine mk_n1 ?_); refine e_ret (some _) rfl (r_b1 dX11_spells_107 rfl) ?_) | ((with_reducible refine mk_n0 ?_); refine e_ret (some _) rfl (r_b0 dX11_spells_107 rfl) ?_)
                                      first | (refine xq (bl1 ?_) rfl rfl rfl rfl rfl; unfold spB; grind) | (refine xq (bl0 ?_) rfl rfl rfl rfl rfl; unfold spB; grind)
                  · try first | contradiction | omega
                    all_goals
                      refine e_iconst (v := nI 0) dX11_spells_62 rfl ?_
                      first | ((with_reducible refine mk_b ?_); refine e_ret (some _) rfl (r_bool dX11_spells_63 rfl) ?_) | ((with_reducible refine mk_n1 ?_); refine e_ret (some _) rfl (r_b1 dX11_spells_63 rfl) ?_) | ((with_reducible refine mk_n0 ?_); refine e_ret (some _) rfl (r_b0 dX11_spells_63 rfl) ?_)
                      first | (refine xq (bl1 ?_) rfl rfl rfl rfl rfl; unfold spB; grind) | (refine xq (bl0 ?_) rfl rfl rfl rfl rfl; unfold spB; grind)
def vbO (tp : Nat → Nat) (e a : Nat) : Option Nat := if spB tp e a 5 102 101 116 99 104 0 0 then some 0 else if spB tp e a 4 114 101 97 100 0 0 0 then some 1 else if spB tp e a 5 119 114 105 116 101 0 0 then some 2 else if spB tp e a 5 115 112 108 105 116 0 0 then some 3 else if spB tp e a 6 109 105 100 100 108 101 0 then some 4 else if spB tp e a 4 106 111 105 110 0 0 0 then some 5 else if spB tp e a 4 109 111 118 101 0 0 0 then some 6 else if spB tp e a 4 115 116 101 112 0 0 0 then some 7 else if spB tp e a 4 102 97 105 108 0 0 0 then some 8 else if spB tp e a 4 100 111 119 110 0 0 0 then some 9 else if spB tp e a 2 117 112 0 0 0 0 0 then some 10 else if spB tp e a 7 114 101 99 111 118 101 114 then some 11 else if spB tp e a 4 103 105 118 101 0 0 0 then some 12 else if spB tp e a 3 97 103 101 0 0 0 0 then some 13 else if spB tp e a 5 99 104 117 110 107 0 0 then some 14 else none
theorem vbO_lt {tp : Nat → Nat} {e a v : Nat} (h : vbO tp e a = some v) : v < 15 ∧ a + 2 ≤ e := by
  have hq : ∀ n a1 b c d x f g, 2 ≤ n → spB tp e a n a1 b c d x f g = true → a + 2 ≤ e := fun n a1 b c d x f g hn h => by
    unfold spB at h
    simp only [Bool.and_eq_true, decide_eq_true_eq] at h
    omega
  unfold vbO at h
  by_cases h0 : spB tp e a 5 102 101 116 99 104 0 0 = true
  · rw [if_pos h0] at h
    obtain rfl := Option.some.inj h
    exact ⟨by omega, hq _ _ _ _ _ _ _ _ (by omega) h0⟩
  rw [if_neg h0] at h
  by_cases h1 : spB tp e a 4 114 101 97 100 0 0 0 = true
  · rw [if_pos h1] at h
    obtain rfl := Option.some.inj h
    exact ⟨by omega, hq _ _ _ _ _ _ _ _ (by omega) h1⟩
  rw [if_neg h1] at h
  by_cases h2 : spB tp e a 5 119 114 105 116 101 0 0 = true
  · rw [if_pos h2] at h
    obtain rfl := Option.some.inj h
    exact ⟨by omega, hq _ _ _ _ _ _ _ _ (by omega) h2⟩
  rw [if_neg h2] at h
  by_cases h3 : spB tp e a 5 115 112 108 105 116 0 0 = true
  · rw [if_pos h3] at h
    obtain rfl := Option.some.inj h
    exact ⟨by omega, hq _ _ _ _ _ _ _ _ (by omega) h3⟩
  rw [if_neg h3] at h
  by_cases h4 : spB tp e a 6 109 105 100 100 108 101 0 = true
  · rw [if_pos h4] at h
    obtain rfl := Option.some.inj h
    exact ⟨by omega, hq _ _ _ _ _ _ _ _ (by omega) h4⟩
  rw [if_neg h4] at h
  by_cases h5 : spB tp e a 4 106 111 105 110 0 0 0 = true
  · rw [if_pos h5] at h
    obtain rfl := Option.some.inj h
    exact ⟨by omega, hq _ _ _ _ _ _ _ _ (by omega) h5⟩
  rw [if_neg h5] at h
  by_cases h6 : spB tp e a 4 109 111 118 101 0 0 0 = true
  · rw [if_pos h6] at h
    obtain rfl := Option.some.inj h
    exact ⟨by omega, hq _ _ _ _ _ _ _ _ (by omega) h6⟩
  rw [if_neg h6] at h
  by_cases h7 : spB tp e a 4 115 116 101 112 0 0 0 = true
  · rw [if_pos h7] at h
    obtain rfl := Option.some.inj h
    exact ⟨by omega, hq _ _ _ _ _ _ _ _ (by omega) h7⟩
  rw [if_neg h7] at h
  by_cases h8 : spB tp e a 4 102 97 105 108 0 0 0 = true
  · rw [if_pos h8] at h
    obtain rfl := Option.some.inj h
    exact ⟨by omega, hq _ _ _ _ _ _ _ _ (by omega) h8⟩
  rw [if_neg h8] at h
  by_cases h9 : spB tp e a 4 100 111 119 110 0 0 0 = true
  · rw [if_pos h9] at h
    obtain rfl := Option.some.inj h
    exact ⟨by omega, hq _ _ _ _ _ _ _ _ (by omega) h9⟩
  rw [if_neg h9] at h
  by_cases h10 : spB tp e a 2 117 112 0 0 0 0 0 = true
  · rw [if_pos h10] at h
    obtain rfl := Option.some.inj h
    exact ⟨by omega, hq _ _ _ _ _ _ _ _ (by omega) h10⟩
  rw [if_neg h10] at h
  by_cases h11 : spB tp e a 7 114 101 99 111 118 101 114 = true
  · rw [if_pos h11] at h
    obtain rfl := Option.some.inj h
    exact ⟨by omega, hq _ _ _ _ _ _ _ _ (by omega) h11⟩
  rw [if_neg h11] at h
  by_cases h12 : spB tp e a 4 103 105 118 101 0 0 0 = true
  · rw [if_pos h12] at h
    obtain rfl := Option.some.inj h
    exact ⟨by omega, hq _ _ _ _ _ _ _ _ (by omega) h12⟩
  rw [if_neg h12] at h
  by_cases h13 : spB tp e a 3 97 103 101 0 0 0 0 = true
  · rw [if_pos h13] at h
    obtain rfl := Option.some.inj h
    exact ⟨by omega, hq _ _ _ _ _ _ _ _ (by omega) h13⟩
  rw [if_neg h13] at h
  by_cases h14 : spB tp e a 5 99 104 117 110 107 0 0 = true
  · rw [if_pos h14] at h
    obtain rfl := Option.some.inj h
    exact ⟨by omega, hq _ _ _ _ _ _ _ _ (by omega) h14⟩
  rw [if_neg h14] at h
  cases h
theorem ct_X11_word {fi : FI} {fr : FR} {ai : FI} {ar : FR} {N : Nat} (sm : SM fr) {s : PS} {tp : Nat → Nat} {t : Nat} (ht : fi (32 * 11 + 10) (rf 11 80) = nI t) (ht4 : t ≤ 400) (hT : ∀ i, i < t → ai (rf 35 87) i = sB (tp i)) (hb : ∀ i, tp i < 256) (hs : s.1 ≤ t) : CP mX11_word 3 0 0 [.ref (rf 11 80)] (psF fi s) fr ai ar N (xQ (some (.int (oI (vbO tp (wnd tp t s.1) s.1)))) (psF fi s) fr ai ar N) := by
  obtain ⟨sW, sA0, sK, sU, sC, sKC, sT, sCl⟩ := id sm
  change EV mX11_word 3 0 0 0 [some (.ref (rf 11 80))] [] (psF fi s) fr ai ar N (xQ (some (.int (oI (vbO tp (wnd tp t s.1) s.1)))) (psF fi s) fr ai ar N)
  refine e_aload_n dX11_word_0 rfl rfl ?_
  refine e_iconst (v := nI 5) dX11_word_1 rfl ?_
  refine e_bipush (v := nI 102) dX11_word_2 rfl ?_
  refine e_bipush (v := nI 101) dX11_word_4 rfl ?_
  refine e_bipush (v := nI 116) dX11_word_6 rfl ?_
  refine e_bipush (v := nI 99) dX11_word_8 rfl ?_
  refine e_bipush (v := nI 104) dX11_word_10 rfl ?_
  refine e_iconst (v := nI 0) dX11_word_12 rfl ?_
  refine e_iconst (v := nI 0) dX11_word_13 rfl ?_
  refine x_V8 (M' := mX11_spells) dX11_word_14 ml_X11_239 ok_X11_spells (by decide) rfl im_X11_spells se_X11_spells (ct_X11_spells ‹_› ht ht4 hT hb hs (by omega) (by decide)) (Nat.le_of_ble_eq_true rfl) (by decide) (Nat.le_of_ble_eq_true rfl) ?_
  first | ((with_reducible refine mk_b ?_); refine b_if_eq (tgt := 22) dX11_word_17 (by decide) (fun h17 => ?_) (fun h17 => ?_)) | ((with_reducible refine mk_ll ?_); refine m_if_eq (tgt := 22) dX11_word_17 (by decide) (by omega) (by omega) (fun h17 => ?_) (fun h17 => ?_)) | ((with_reducible refine mk_lc ?_); refine l_if_eq (tgt := 22) dX11_word_17 (by decide) (fun h17 => ?_) (fun h17 => ?_)) | ((with_reducible refine mk_n ?_); refine n_if_eq (tgt := 22) dX11_word_17 (by decide) (by omega) (fun h17 => ?_) (fun h17 => ?_)) | refine e_if_eq (tgt := 22) dX11_word_17 (by decide) (fun h17 => ?_) (fun h17 => ?_)
  · try first | contradiction | omega | (simp only [decide_eq_true_eq, decide_eq_false_iff_not] at h17; omega)
    all_goals
      refine e_aload_n dX11_word_22 rfl rfl ?_
      refine e_iconst (v := nI 4) dX11_word_23 rfl ?_
      refine e_bipush (v := nI 114) dX11_word_24 rfl ?_
      refine e_bipush (v := nI 101) dX11_word_26 rfl ?_
      refine e_bipush (v := nI 97) dX11_word_28 rfl ?_
      refine e_bipush (v := nI 100) dX11_word_30 rfl ?_
      refine e_iconst (v := nI 0) dX11_word_32 rfl ?_
      refine e_iconst (v := nI 0) dX11_word_33 rfl ?_
      refine e_iconst (v := nI 0) dX11_word_34 rfl ?_
      refine x_V8 (M' := mX11_spells) dX11_word_35 ml_X11_239 ok_X11_spells (by decide) rfl im_X11_spells se_X11_spells (ct_X11_spells ‹_› ht ht4 hT hb hs (by omega) (by decide)) (Nat.le_of_ble_eq_true rfl) (by decide) (Nat.le_of_ble_eq_true rfl) ?_
      first | ((with_reducible refine mk_b ?_); refine b_if_eq (tgt := 43) dX11_word_38 (by decide) (fun h38 => ?_) (fun h38 => ?_)) | ((with_reducible refine mk_ll ?_); refine m_if_eq (tgt := 43) dX11_word_38 (by decide) (by omega) (by omega) (fun h38 => ?_) (fun h38 => ?_)) | ((with_reducible refine mk_lc ?_); refine l_if_eq (tgt := 43) dX11_word_38 (by decide) (fun h38 => ?_) (fun h38 => ?_)) | ((with_reducible refine mk_n ?_); refine n_if_eq (tgt := 43) dX11_word_38 (by decide) (by omega) (fun h38 => ?_) (fun h38 => ?_)) | refine e_if_eq (tgt := 43) dX11_word_38 (by decide) (fun h38 => ?_) (fun h38 => ?_)
      · try first | contradiction | omega | (simp only [decide_eq_true_eq, decide_eq_false_iff_not] at h38; omega)
        all_goals
          refine e_aload_n dX11_word_43 rfl rfl ?_
          refine e_iconst (v := nI 5) dX11_word_44 rfl ?_
          refine e_bipush (v := nI 119) dX11_word_45 rfl ?_
          refine e_bipush (v := nI 114) dX11_word_47 rfl ?_
          refine e_bipush (v := nI 105) dX11_word_49 rfl ?_
          refine e_bipush (v := nI 116) dX11_word_51 rfl ?_
          refine e_bipush (v := nI 101) dX11_word_53 rfl ?_
          refine e_iconst (v := nI 0) dX11_word_55 rfl ?_
          refine e_iconst (v := nI 0) dX11_word_56 rfl ?_
          refine x_V8 (M' := mX11_spells) dX11_word_57 ml_X11_239 ok_X11_spells (by decide) rfl im_X11_spells se_X11_spells (ct_X11_spells ‹_› ht ht4 hT hb hs (by omega) (by decide)) (Nat.le_of_ble_eq_true rfl) (by decide) (Nat.le_of_ble_eq_true rfl) ?_
          first | ((with_reducible refine mk_b ?_); refine b_if_eq (tgt := 65) dX11_word_60 (by decide) (fun h60 => ?_) (fun h60 => ?_)) | ((with_reducible refine mk_ll ?_); refine m_if_eq (tgt := 65) dX11_word_60 (by decide) (by omega) (by omega) (fun h60 => ?_) (fun h60 => ?_)) | ((with_reducible refine mk_lc ?_); refine l_if_eq (tgt := 65) dX11_word_60 (by decide) (fun h60 => ?_) (fun h60 => ?_)) | ((with_reducible refine mk_n ?_); refine n_if_eq (tgt := 65) dX11_word_60 (by decide) (by omega) (fun h60 => ?_) (fun h60 => ?_)) | refine e_if_eq (tgt := 65) dX11_word_60 (by decide) (fun h60 => ?_) (fun h60 => ?_)
          · try first | contradiction | omega | (simp only [decide_eq_true_eq, decide_eq_false_iff_not] at h60; omega)
            all_goals
              refine e_aload_n dX11_word_65 rfl rfl ?_
              refine e_iconst (v := nI 5) dX11_word_66 rfl ?_
              refine e_bipush (v := nI 115) dX11_word_67 rfl ?_
              refine e_bipush (v := nI 112) dX11_word_69 rfl ?_
              refine e_bipush (v := nI 108) dX11_word_71 rfl ?_
              refine e_bipush (v := nI 105) dX11_word_73 rfl ?_
              refine e_bipush (v := nI 116) dX11_word_75 rfl ?_
              refine e_iconst (v := nI 0) dX11_word_77 rfl ?_
              refine e_iconst (v := nI 0) dX11_word_78 rfl ?_
              refine x_V8 (M' := mX11_spells) dX11_word_79 ml_X11_239 ok_X11_spells (by decide) rfl im_X11_spells se_X11_spells (ct_X11_spells ‹_› ht ht4 hT hb hs (by omega) (by decide)) (Nat.le_of_ble_eq_true rfl) (by decide) (Nat.le_of_ble_eq_true rfl) ?_
              first | ((with_reducible refine mk_b ?_); refine b_if_eq (tgt := 87) dX11_word_82 (by decide) (fun h82 => ?_) (fun h82 => ?_)) | ((with_reducible refine mk_ll ?_); refine m_if_eq (tgt := 87) dX11_word_82 (by decide) (by omega) (by omega) (fun h82 => ?_) (fun h82 => ?_)) | ((with_reducible refine mk_lc ?_); refine l_if_eq (tgt := 87) dX11_word_82 (by decide) (fun h82 => ?_) (fun h82 => ?_)) | ((with_reducible refine mk_n ?_); refine n_if_eq (tgt := 87) dX11_word_82 (by decide) (by omega) (fun h82 => ?_) (fun h82 => ?_)) | refine e_if_eq (tgt := 87) dX11_word_82 (by decide) (fun h82 => ?_) (fun h82 => ?_)
              · try first | contradiction | omega | (simp only [decide_eq_true_eq, decide_eq_false_iff_not] at h82; omega)
                all_goals
                  refine e_aload_n dX11_word_87 rfl rfl ?_
                  refine e_bipush (v := nI 6) dX11_word_88 rfl ?_
                  refine e_bipush (v := nI 109) dX11_word_90 rfl ?_
                  refine e_bipush (v := nI 105) dX11_word_92 rfl ?_
                  refine e_bipush (v := nI 100) dX11_word_94 rfl ?_
                  refine e_bipush (v := nI 100) dX11_word_96 rfl ?_
                  refine e_bipush (v := nI 108) dX11_word_98 rfl ?_
                  refine e_bipush (v := nI 101) dX11_word_100 rfl ?_
                  refine e_iconst (v := nI 0) dX11_word_102 rfl ?_
                  refine x_V8 (M' := mX11_spells) dX11_word_103 ml_X11_239 ok_X11_spells (by decide) rfl im_X11_spells se_X11_spells (ct_X11_spells ‹_› ht ht4 hT hb hs (by omega) (by decide)) (Nat.le_of_ble_eq_true rfl) (by decide) (Nat.le_of_ble_eq_true rfl) ?_
                  first | ((with_reducible refine mk_b ?_); refine b_if_eq (tgt := 111) dX11_word_106 (by decide) (fun h106 => ?_) (fun h106 => ?_)) | ((with_reducible refine mk_ll ?_); refine m_if_eq (tgt := 111) dX11_word_106 (by decide) (by omega) (by omega) (fun h106 => ?_) (fun h106 => ?_)) | ((with_reducible refine mk_lc ?_); refine l_if_eq (tgt := 111) dX11_word_106 (by decide) (fun h106 => ?_) (fun h106 => ?_)) | ((with_reducible refine mk_n ?_); refine n_if_eq (tgt := 111) dX11_word_106 (by decide) (by omega) (fun h106 => ?_) (fun h106 => ?_)) | refine e_if_eq (tgt := 111) dX11_word_106 (by decide) (fun h106 => ?_) (fun h106 => ?_)
                  · try first | contradiction | omega | (simp only [decide_eq_true_eq, decide_eq_false_iff_not] at h106; omega)
                    all_goals
                      refine e_aload_n dX11_word_111 rfl rfl ?_
                      refine e_iconst (v := nI 4) dX11_word_112 rfl ?_
                      refine e_bipush (v := nI 106) dX11_word_113 rfl ?_
                      refine e_bipush (v := nI 111) dX11_word_115 rfl ?_
                      refine e_bipush (v := nI 105) dX11_word_117 rfl ?_
                      refine e_bipush (v := nI 110) dX11_word_119 rfl ?_
                      refine e_iconst (v := nI 0) dX11_word_121 rfl ?_
                      refine e_iconst (v := nI 0) dX11_word_122 rfl ?_
                      refine e_iconst (v := nI 0) dX11_word_123 rfl ?_
                      refine x_V8 (M' := mX11_spells) dX11_word_124 ml_X11_239 ok_X11_spells (by decide) rfl im_X11_spells se_X11_spells (ct_X11_spells ‹_› ht ht4 hT hb hs (by omega) (by decide)) (Nat.le_of_ble_eq_true rfl) (by decide) (Nat.le_of_ble_eq_true rfl) ?_
                      first | ((with_reducible refine mk_b ?_); refine b_if_eq (tgt := 132) dX11_word_127 (by decide) (fun h127 => ?_) (fun h127 => ?_)) | ((with_reducible refine mk_ll ?_); refine m_if_eq (tgt := 132) dX11_word_127 (by decide) (by omega) (by omega) (fun h127 => ?_) (fun h127 => ?_)) | ((with_reducible refine mk_lc ?_); refine l_if_eq (tgt := 132) dX11_word_127 (by decide) (fun h127 => ?_) (fun h127 => ?_)) | ((with_reducible refine mk_n ?_); refine n_if_eq (tgt := 132) dX11_word_127 (by decide) (by omega) (fun h127 => ?_) (fun h127 => ?_)) | refine e_if_eq (tgt := 132) dX11_word_127 (by decide) (fun h127 => ?_) (fun h127 => ?_)
                      · try first | contradiction | omega | (simp only [decide_eq_true_eq, decide_eq_false_iff_not] at h127; omega)
                        all_goals
                          refine e_aload_n dX11_word_132 rfl rfl ?_
                          refine e_iconst (v := nI 4) dX11_word_133 rfl ?_
                          refine e_bipush (v := nI 109) dX11_word_134 rfl ?_
                          refine e_bipush (v := nI 111) dX11_word_136 rfl ?_
                          refine e_bipush (v := nI 118) dX11_word_138 rfl ?_
                          refine e_bipush (v := nI 101) dX11_word_140 rfl ?_
                          refine e_iconst (v := nI 0) dX11_word_142 rfl ?_
                          refine e_iconst (v := nI 0) dX11_word_143 rfl ?_
                          refine e_iconst (v := nI 0) dX11_word_144 rfl ?_
                          refine x_V8 (M' := mX11_spells) dX11_word_145 ml_X11_239 ok_X11_spells (by decide) rfl im_X11_spells se_X11_spells (ct_X11_spells ‹_› ht ht4 hT hb hs (by omega) (by decide)) (Nat.le_of_ble_eq_true rfl) (by decide) (Nat.le_of_ble_eq_true rfl) ?_
                          first | ((with_reducible refine mk_b ?_); refine b_if_eq (tgt := 154) dX11_word_148 (by decide) (fun h148 => ?_) (fun h148 => ?_)) | ((with_reducible refine mk_ll ?_); refine m_if_eq (tgt := 154) dX11_word_148 (by decide) (by omega) (by omega) (fun h148 => ?_) (fun h148 => ?_)) | ((with_reducible refine mk_lc ?_); refine l_if_eq (tgt := 154) dX11_word_148 (by decide) (fun h148 => ?_) (fun h148 => ?_)) | ((with_reducible refine mk_n ?_); refine n_if_eq (tgt := 154) dX11_word_148 (by decide) (by omega) (fun h148 => ?_) (fun h148 => ?_)) | refine e_if_eq (tgt := 154) dX11_word_148 (by decide) (fun h148 => ?_) (fun h148 => ?_)
                          · try first | contradiction | omega | (simp only [decide_eq_true_eq, decide_eq_false_iff_not] at h148; omega)
                            all_goals
                              refine e_aload_n dX11_word_154 rfl rfl ?_
                              refine e_iconst (v := nI 4) dX11_word_155 rfl ?_
                              refine e_bipush (v := nI 115) dX11_word_156 rfl ?_
                              refine e_bipush (v := nI 116) dX11_word_158 rfl ?_
                              refine e_bipush (v := nI 101) dX11_word_160 rfl ?_
                              refine e_bipush (v := nI 112) dX11_word_162 rfl ?_
                              refine e_iconst (v := nI 0) dX11_word_164 rfl ?_
                              refine e_iconst (v := nI 0) dX11_word_165 rfl ?_
                              refine e_iconst (v := nI 0) dX11_word_166 rfl ?_
                              refine x_V8 (M' := mX11_spells) dX11_word_167 ml_X11_239 ok_X11_spells (by decide) rfl im_X11_spells se_X11_spells (ct_X11_spells ‹_› ht ht4 hT hb hs (by omega) (by decide)) (Nat.le_of_ble_eq_true rfl) (by decide) (Nat.le_of_ble_eq_true rfl) ?_
                              first | ((with_reducible refine mk_b ?_); refine b_if_eq (tgt := 176) dX11_word_170 (by decide) (fun h170 => ?_) (fun h170 => ?_)) | ((with_reducible refine mk_ll ?_); refine m_if_eq (tgt := 176) dX11_word_170 (by decide) (by omega) (by omega) (fun h170 => ?_) (fun h170 => ?_)) | ((with_reducible refine mk_lc ?_); refine l_if_eq (tgt := 176) dX11_word_170 (by decide) (fun h170 => ?_) (fun h170 => ?_)) | ((with_reducible refine mk_n ?_); refine n_if_eq (tgt := 176) dX11_word_170 (by decide) (by omega) (fun h170 => ?_) (fun h170 => ?_)) | refine e_if_eq (tgt := 176) dX11_word_170 (by decide) (fun h170 => ?_) (fun h170 => ?_)
                              · try first | contradiction | omega | (simp only [decide_eq_true_eq, decide_eq_false_iff_not] at h170; omega)
                                all_goals
                                  refine e_aload_n dX11_word_176 rfl rfl ?_
                                  refine e_iconst (v := nI 4) dX11_word_177 rfl ?_
                                  refine e_bipush (v := nI 102) dX11_word_178 rfl ?_
                                  refine e_bipush (v := nI 97) dX11_word_180 rfl ?_
                                  refine e_bipush (v := nI 105) dX11_word_182 rfl ?_
                                  refine e_bipush (v := nI 108) dX11_word_184 rfl ?_
                                  refine e_iconst (v := nI 0) dX11_word_186 rfl ?_
                                  refine e_iconst (v := nI 0) dX11_word_187 rfl ?_
                                  refine e_iconst (v := nI 0) dX11_word_188 rfl ?_
                                  refine x_V8 (M' := mX11_spells) dX11_word_189 ml_X11_239 ok_X11_spells (by decide) rfl im_X11_spells se_X11_spells (ct_X11_spells ‹_› ht ht4 hT hb hs (by omega) (by decide)) (Nat.le_of_ble_eq_true rfl) (by decide) (Nat.le_of_ble_eq_true rfl) ?_
                                  first | ((with_reducible refine mk_b ?_); refine b_if_eq (tgt := 198) dX11_word_192 (by decide) (fun h192 => ?_) (fun h192 => ?_)) | ((with_reducible refine mk_ll ?_); refine m_if_eq (tgt := 198) dX11_word_192 (by decide) (by omega) (by omega) (fun h192 => ?_) (fun h192 => ?_)) | ((with_reducible refine mk_lc ?_); refine l_if_eq (tgt := 198) dX11_word_192 (by decide) (fun h192 => ?_) (fun h192 => ?_)) | ((with_reducible refine mk_n ?_); refine n_if_eq (tgt := 198) dX11_word_192 (by decide) (by omega) (fun h192 => ?_) (fun h192 => ?_)) | refine e_if_eq (tgt := 198) dX11_word_192 (by decide) (fun h192 => ?_) (fun h192 => ?_)
                                  · try first | contradiction | omega | (simp only [decide_eq_true_eq, decide_eq_false_iff_not] at h192; omega)
                                    all_goals
                                      refine e_aload_n dX11_word_198 rfl rfl ?_
                                      refine e_iconst (v := nI 4) dX11_word_199 rfl ?_
                                      refine e_bipush (v := nI 100) dX11_word_200 rfl ?_
                                      refine e_bipush (v := nI 111) dX11_word_202 rfl ?_
                                      refine e_bipush (v := nI 119) dX11_word_204 rfl ?_
                                      refine e_bipush (v := nI 110) dX11_word_206 rfl ?_
                                      refine e_iconst (v := nI 0) dX11_word_208 rfl ?_
                                      refine e_iconst (v := nI 0) dX11_word_209 rfl ?_
                                      refine e_iconst (v := nI 0) dX11_word_210 rfl ?_
                                      refine x_V8 (M' := mX11_spells) dX11_word_211 ml_X11_239 ok_X11_spells (by decide) rfl im_X11_spells se_X11_spells (ct_X11_spells ‹_› ht ht4 hT hb hs (by omega) (by decide)) (Nat.le_of_ble_eq_true rfl) (by decide) (Nat.le_of_ble_eq_true rfl) ?_
                                      first | ((with_reducible refine mk_b ?_); refine b_if_eq (tgt := 220) dX11_word_214 (by decide) (fun h214 => ?_) (fun h214 => ?_)) | ((with_reducible refine mk_ll ?_); refine m_if_eq (tgt := 220) dX11_word_214 (by decide) (by omega) (by omega) (fun h214 => ?_) (fun h214 => ?_)) | ((with_reducible refine mk_lc ?_); refine l_if_eq (tgt := 220) dX11_word_214 (by decide) (fun h214 => ?_) (fun h214 => ?_)) | ((with_reducible refine mk_n ?_); refine n_if_eq (tgt := 220) dX11_word_214 (by decide) (by omega) (fun h214 => ?_) (fun h214 => ?_)) | refine e_if_eq (tgt := 220) dX11_word_214 (by decide) (fun h214 => ?_) (fun h214 => ?_)
                                      · try first | contradiction | omega | (simp only [decide_eq_true_eq, decide_eq_false_iff_not] at h214; omega)
                                        all_goals
                                          refine e_aload_n dX11_word_220 rfl rfl ?_
                                          refine e_iconst (v := nI 2) dX11_word_221 rfl ?_
                                          refine e_bipush (v := nI 117) dX11_word_222 rfl ?_
                                          refine e_bipush (v := nI 112) dX11_word_224 rfl ?_
                                          refine e_iconst (v := nI 0) dX11_word_226 rfl ?_
                                          refine e_iconst (v := nI 0) dX11_word_227 rfl ?_
                                          refine e_iconst (v := nI 0) dX11_word_228 rfl ?_
                                          refine e_iconst (v := nI 0) dX11_word_229 rfl ?_
                                          refine e_iconst (v := nI 0) dX11_word_230 rfl ?_
                                          refine x_V8 (M' := mX11_spells) dX11_word_231 ml_X11_239 ok_X11_spells (by decide) rfl im_X11_spells se_X11_spells (ct_X11_spells ‹_› ht ht4 hT hb hs (by omega) (by decide)) (Nat.le_of_ble_eq_true rfl) (by decide) (Nat.le_of_ble_eq_true rfl) ?_
                                          first | ((with_reducible refine mk_b ?_); refine b_if_eq (tgt := 240) dX11_word_234 (by decide) (fun h234 => ?_) (fun h234 => ?_)) | ((with_reducible refine mk_ll ?_); refine m_if_eq (tgt := 240) dX11_word_234 (by decide) (by omega) (by omega) (fun h234 => ?_) (fun h234 => ?_)) | ((with_reducible refine mk_lc ?_); refine l_if_eq (tgt := 240) dX11_word_234 (by decide) (fun h234 => ?_) (fun h234 => ?_)) | ((with_reducible refine mk_n ?_); refine n_if_eq (tgt := 240) dX11_word_234 (by decide) (by omega) (fun h234 => ?_) (fun h234 => ?_)) | refine e_if_eq (tgt := 240) dX11_word_234 (by decide) (fun h234 => ?_) (fun h234 => ?_)
                                          · try first | contradiction | omega | (simp only [decide_eq_true_eq, decide_eq_false_iff_not] at h234; omega)
                                            all_goals
                                              refine e_aload_n dX11_word_240 rfl rfl ?_
                                              refine e_bipush (v := nI 7) dX11_word_241 rfl ?_
                                              refine e_bipush (v := nI 114) dX11_word_243 rfl ?_
                                              refine e_bipush (v := nI 101) dX11_word_245 rfl ?_
                                              refine e_bipush (v := nI 99) dX11_word_247 rfl ?_
                                              refine e_bipush (v := nI 111) dX11_word_249 rfl ?_
                                              refine e_bipush (v := nI 118) dX11_word_251 rfl ?_
                                              refine e_bipush (v := nI 101) dX11_word_253 rfl ?_
                                              refine e_bipush (v := nI 114) dX11_word_255 rfl ?_
                                              refine x_V8 (M' := mX11_spells) dX11_word_257 ml_X11_239 ok_X11_spells (by decide) rfl im_X11_spells se_X11_spells (ct_X11_spells ‹_› ht ht4 hT hb hs (by omega) (by decide)) (Nat.le_of_ble_eq_true rfl) (by decide) (Nat.le_of_ble_eq_true rfl) ?_
                                              first | ((with_reducible refine mk_b ?_); refine b_if_eq (tgt := 266) dX11_word_260 (by decide) (fun h260 => ?_) (fun h260 => ?_)) | ((with_reducible refine mk_ll ?_); refine m_if_eq (tgt := 266) dX11_word_260 (by decide) (by omega) (by omega) (fun h260 => ?_) (fun h260 => ?_)) | ((with_reducible refine mk_lc ?_); refine l_if_eq (tgt := 266) dX11_word_260 (by decide) (fun h260 => ?_) (fun h260 => ?_)) | ((with_reducible refine mk_n ?_); refine n_if_eq (tgt := 266) dX11_word_260 (by decide) (by omega) (fun h260 => ?_) (fun h260 => ?_)) | refine e_if_eq (tgt := 266) dX11_word_260 (by decide) (fun h260 => ?_) (fun h260 => ?_)
                                              · try first | contradiction | omega | (simp only [decide_eq_true_eq, decide_eq_false_iff_not] at h260; omega)
                                                all_goals
                                                  refine e_aload_n dX11_word_266 rfl rfl ?_
                                                  refine e_iconst (v := nI 4) dX11_word_267 rfl ?_
                                                  refine e_bipush (v := nI 103) dX11_word_268 rfl ?_
                                                  refine e_bipush (v := nI 105) dX11_word_270 rfl ?_
                                                  refine e_bipush (v := nI 118) dX11_word_272 rfl ?_
                                                  refine e_bipush (v := nI 101) dX11_word_274 rfl ?_
                                                  refine e_iconst (v := nI 0) dX11_word_276 rfl ?_
                                                  refine e_iconst (v := nI 0) dX11_word_277 rfl ?_
                                                  refine e_iconst (v := nI 0) dX11_word_278 rfl ?_
                                                  refine x_V8 (M' := mX11_spells) dX11_word_279 ml_X11_239 ok_X11_spells (by decide) rfl im_X11_spells se_X11_spells (ct_X11_spells ‹_› ht ht4 hT hb hs (by omega) (by decide)) (Nat.le_of_ble_eq_true rfl) (by decide) (Nat.le_of_ble_eq_true rfl) ?_
                                                  first | ((with_reducible refine mk_b ?_); refine b_if_eq (tgt := 288) dX11_word_282 (by decide) (fun h282 => ?_) (fun h282 => ?_)) | ((with_reducible refine mk_ll ?_); refine m_if_eq (tgt := 288) dX11_word_282 (by decide) (by omega) (by omega) (fun h282 => ?_) (fun h282 => ?_)) | ((with_reducible refine mk_lc ?_); refine l_if_eq (tgt := 288) dX11_word_282 (by decide) (fun h282 => ?_) (fun h282 => ?_)) | ((with_reducible refine mk_n ?_); refine n_if_eq (tgt := 288) dX11_word_282 (by decide) (by omega) (fun h282 => ?_) (fun h282 => ?_)) | refine e_if_eq (tgt := 288) dX11_word_282 (by decide) (fun h282 => ?_) (fun h282 => ?_)
                                                  · try first | contradiction | omega | (simp only [decide_eq_true_eq, decide_eq_false_iff_not] at h282; omega)
                                                    all_goals
                                                      refine e_aload_n dX11_word_288 rfl rfl ?_
                                                      refine e_iconst (v := nI 3) dX11_word_289 rfl ?_
                                                      refine e_bipush (v := nI 97) dX11_word_290 rfl ?_
                                                      refine e_bipush (v := nI 103) dX11_word_292 rfl ?_
                                                      refine e_bipush (v := nI 101) dX11_word_294 rfl ?_
                                                      refine e_iconst (v := nI 0) dX11_word_296 rfl ?_
                                                      refine e_iconst (v := nI 0) dX11_word_297 rfl ?_
                                                      refine e_iconst (v := nI 0) dX11_word_298 rfl ?_
                                                      refine e_iconst (v := nI 0) dX11_word_299 rfl ?_
                                                      refine x_V8 (M' := mX11_spells) dX11_word_300 ml_X11_239 ok_X11_spells (by decide) rfl im_X11_spells se_X11_spells (ct_X11_spells ‹_› ht ht4 hT hb hs (by omega) (by decide)) (Nat.le_of_ble_eq_true rfl) (by decide) (Nat.le_of_ble_eq_true rfl) ?_
                                                      first | ((with_reducible refine mk_b ?_); refine b_if_eq (tgt := 309) dX11_word_303 (by decide) (fun h303 => ?_) (fun h303 => ?_)) | ((with_reducible refine mk_ll ?_); refine m_if_eq (tgt := 309) dX11_word_303 (by decide) (by omega) (by omega) (fun h303 => ?_) (fun h303 => ?_)) | ((with_reducible refine mk_lc ?_); refine l_if_eq (tgt := 309) dX11_word_303 (by decide) (fun h303 => ?_) (fun h303 => ?_)) | ((with_reducible refine mk_n ?_); refine n_if_eq (tgt := 309) dX11_word_303 (by decide) (by omega) (fun h303 => ?_) (fun h303 => ?_)) | refine e_if_eq (tgt := 309) dX11_word_303 (by decide) (fun h303 => ?_) (fun h303 => ?_)
                                                      · try first | contradiction | omega | (simp only [decide_eq_true_eq, decide_eq_false_iff_not] at h303; omega)
                                                        all_goals
                                                          refine e_aload_n dX11_word_309 rfl rfl ?_
                                                          refine e_iconst (v := nI 5) dX11_word_310 rfl ?_
                                                          refine e_bipush (v := nI 99) dX11_word_311 rfl ?_
                                                          refine e_bipush (v := nI 104) dX11_word_313 rfl ?_
                                                          refine e_bipush (v := nI 117) dX11_word_315 rfl ?_
                                                          refine e_bipush (v := nI 110) dX11_word_317 rfl ?_
                                                          refine e_bipush (v := nI 107) dX11_word_319 rfl ?_
                                                          refine e_iconst (v := nI 0) dX11_word_321 rfl ?_
                                                          refine e_iconst (v := nI 0) dX11_word_322 rfl ?_
                                                          refine x_V8 (M' := mX11_spells) dX11_word_323 ml_X11_239 ok_X11_spells (by decide) rfl im_X11_spells se_X11_spells (ct_X11_spells ‹_› ht ht4 hT hb hs (by omega) (by decide)) (Nat.le_of_ble_eq_true rfl) (by decide) (Nat.le_of_ble_eq_true rfl) ?_
                                                          first | ((with_reducible refine mk_b ?_); refine b_if_eq (tgt := 334) dX11_word_326 (by decide) (fun h326 => ?_) (fun h326 => ?_)) | ((with_reducible refine mk_ll ?_); refine m_if_eq (tgt := 334) dX11_word_326 (by decide) (by omega) (by omega) (fun h326 => ?_) (fun h326 => ?_)) | ((with_reducible refine mk_lc ?_); refine l_if_eq (tgt := 334) dX11_word_326 (by decide) (fun h326 => ?_) (fun h326 => ?_)) | ((with_reducible refine mk_n ?_); refine n_if_eq (tgt := 334) dX11_word_326 (by decide) (by omega) (fun h326 => ?_) (fun h326 => ?_)) | refine e_if_eq (tgt := 334) dX11_word_326 (by decide) (fun h326 => ?_) (fun h326 => ?_)
                                                          · try first | contradiction | omega | (simp only [decide_eq_true_eq, decide_eq_false_iff_not] at h326; omega)
                                                            all_goals
                                                              refine e_iconst (v := -1) dX11_word_334 rfl ?_
                                                              refine e_ret (some _) rfl (r_int dX11_word_335 rfl) ?_
                                                              refine xq ?_ rfl rfl rfl rfl rfl
                                                              unfold vbO
                                                              simp_all [oI]
                                                          · try first | contradiction | omega | (simp only [decide_eq_true_eq, decide_eq_false_iff_not] at h326; omega)
                                                            all_goals
                                                              refine e_bipush (v := nI 14) dX11_word_329 rfl ?_
                                                              refine e_goto (tgt := 335) dX11_word_331 (by decide) ?_
                                                              refine e_ret (some _) rfl (r_int dX11_word_335 rfl) ?_
                                                              refine xq ?_ rfl rfl rfl rfl rfl
                                                              unfold vbO
                                                              simp_all [oI]
                                                      · try first | contradiction | omega | (simp only [decide_eq_true_eq, decide_eq_false_iff_not] at h303; omega)
                                                        all_goals
                                                          refine e_bipush (v := nI 13) dX11_word_306 rfl ?_
                                                          refine e_ret (some _) rfl (r_int dX11_word_308 rfl) ?_
                                                          refine xq ?_ rfl rfl rfl rfl rfl
                                                          unfold vbO
                                                          simp_all [oI]
                                                  · try first | contradiction | omega | (simp only [decide_eq_true_eq, decide_eq_false_iff_not] at h282; omega)
                                                    all_goals
                                                      refine e_bipush (v := nI 12) dX11_word_285 rfl ?_
                                                      refine e_ret (some _) rfl (r_int dX11_word_287 rfl) ?_
                                                      refine xq ?_ rfl rfl rfl rfl rfl
                                                      unfold vbO
                                                      simp_all [oI]
                                              · try first | contradiction | omega | (simp only [decide_eq_true_eq, decide_eq_false_iff_not] at h260; omega)
                                                all_goals
                                                  refine e_bipush (v := nI 11) dX11_word_263 rfl ?_
                                                  refine e_ret (some _) rfl (r_int dX11_word_265 rfl) ?_
                                                  refine xq ?_ rfl rfl rfl rfl rfl
                                                  unfold vbO
                                                  simp_all [oI]
                                          · try first | contradiction | omega | (simp only [decide_eq_true_eq, decide_eq_false_iff_not] at h234; omega)
                                            all_goals
                                              refine e_bipush (v := nI 10) dX11_word_237 rfl ?_
                                              refine e_ret (some _) rfl (r_int dX11_word_239 rfl) ?_
                                              refine xq ?_ rfl rfl rfl rfl rfl
                                              unfold vbO
                                              simp_all [oI]
                                      · try first | contradiction | omega | (simp only [decide_eq_true_eq, decide_eq_false_iff_not] at h214; omega)
                                        all_goals
                                          refine e_bipush (v := nI 9) dX11_word_217 rfl ?_
                                          refine e_ret (some _) rfl (r_int dX11_word_219 rfl) ?_
                                          refine xq ?_ rfl rfl rfl rfl rfl
                                          unfold vbO
                                          simp_all [oI]
                                  · try first | contradiction | omega | (simp only [decide_eq_true_eq, decide_eq_false_iff_not] at h192; omega)
                                    all_goals
                                      refine e_bipush (v := nI 8) dX11_word_195 rfl ?_
                                      refine e_ret (some _) rfl (r_int dX11_word_197 rfl) ?_
                                      refine xq ?_ rfl rfl rfl rfl rfl
                                      unfold vbO
                                      simp_all [oI]
                              · try first | contradiction | omega | (simp only [decide_eq_true_eq, decide_eq_false_iff_not] at h170; omega)
                                all_goals
                                  refine e_bipush (v := nI 7) dX11_word_173 rfl ?_
                                  refine e_ret (some _) rfl (r_int dX11_word_175 rfl) ?_
                                  refine xq ?_ rfl rfl rfl rfl rfl
                                  unfold vbO
                                  simp_all [oI]
                          · try first | contradiction | omega | (simp only [decide_eq_true_eq, decide_eq_false_iff_not] at h148; omega)
                            all_goals
                              refine e_bipush (v := nI 6) dX11_word_151 rfl ?_
                              refine e_ret (some _) rfl (r_int dX11_word_153 rfl) ?_
                              refine xq ?_ rfl rfl rfl rfl rfl
                              unfold vbO
                              simp_all [oI]
                      · try first | contradiction | omega | (simp only [decide_eq_true_eq, decide_eq_false_iff_not] at h127; omega)
                        all_goals
                          refine e_iconst (v := nI 5) dX11_word_130 rfl ?_
                          refine e_ret (some _) rfl (r_int dX11_word_131 rfl) ?_
                          refine xq ?_ rfl rfl rfl rfl rfl
                          unfold vbO
                          simp_all [oI]
                  · try first | contradiction | omega | (simp only [decide_eq_true_eq, decide_eq_false_iff_not] at h106; omega)
                    all_goals
                      refine e_iconst (v := nI 4) dX11_word_109 rfl ?_
                      refine e_ret (some _) rfl (r_int dX11_word_110 rfl) ?_
                      refine xq ?_ rfl rfl rfl rfl rfl
                      unfold vbO
                      simp_all [oI]
              · try first | contradiction | omega | (simp only [decide_eq_true_eq, decide_eq_false_iff_not] at h82; omega)
                all_goals
                  refine e_iconst (v := nI 3) dX11_word_85 rfl ?_
                  refine e_ret (some _) rfl (r_int dX11_word_86 rfl) ?_
                  refine xq ?_ rfl rfl rfl rfl rfl
                  unfold vbO
                  simp_all [oI]
          · try first | contradiction | omega | (simp only [decide_eq_true_eq, decide_eq_false_iff_not] at h60; omega)
            all_goals
              refine e_iconst (v := nI 2) dX11_word_63 rfl ?_
              refine e_ret (some _) rfl (r_int dX11_word_64 rfl) ?_
              refine xq ?_ rfl rfl rfl rfl rfl
              unfold vbO
              simp_all [oI]
      · try first | contradiction | omega | (simp only [decide_eq_true_eq, decide_eq_false_iff_not] at h38; omega)
        all_goals
          refine e_iconst (v := nI 1) dX11_word_41 rfl ?_
          refine e_ret (some _) rfl (r_int dX11_word_42 rfl) ?_
          refine xq ?_ rfl rfl rfl rfl rfl
          unfold vbO
          simp_all [oI]
  · try first | contradiction | omega | (simp only [decide_eq_true_eq, decide_eq_false_iff_not] at h17; omega)
    all_goals
      refine e_iconst (v := nI 0) dX11_word_20 rfl ?_
      refine e_ret (some _) rfl (r_int dX11_word_21 rfl) ?_
      refine xq ?_ rfl rfl rfl rfl rfl
      unfold vbO
      simp_all [oI]
def nuN (v : Nat) : Nat := if v = 2 then 3 else if v = 1 ∨ v = 3 ∨ v = 6 ∨ v = 7 ∨ v = 8 then 2 else if v = 13 then 0 else 1
theorem ct_X11_numbersOf {fi : FI} {fr : FR} {ai : FI} {ar : FR} {N : Nat} {v : Nat} (hv : v < 15) : CP mX11_numbersOf 0 0 0 [.int (nI v)] fi fr ai ar N (xQ (some (.int (nI (nuN v)))) fi fr ai ar N) := by
  change EV mX11_numbersOf 0 0 0 0 [some (.int (nI v))] [] fi fr ai ar N _
  have e := nI_toInt (n := v) (by omega)
  refine e_iload_n dX11_numbersOf_0 rfl rfl ?_
  refine e_swc (tgt := 70) 1 dX11_numbersOf_1 (by decide) (by decide) rfl (by decide) (fun h1_0 => ?_) (fun h1_0 => ?_)
  · try first | contradiction | omega
    all_goals
      refine e_iconst (v := nI 2) dX11_numbersOf_70 rfl ?_
      refine e_ret (some _) rfl (r_int dX11_numbersOf_71 rfl) ?_
      refine xq ?_ rfl rfl rfl rfl rfl
      congr 3
      unfold nuN
      repeat' split
      all_goals omega
  refine e_swc (tgt := 68) 2 dX11_numbersOf_1 (by decide) (by decide) rfl (by decide) (fun h1_1 => ?_) (fun h1_1 => ?_)
  · try first | contradiction | omega
    all_goals
      refine e_iconst (v := nI 3) dX11_numbersOf_68 rfl ?_
      refine e_ret (some _) rfl (r_int dX11_numbersOf_69 rfl) ?_
      refine xq ?_ rfl rfl rfl rfl rfl
      congr 3
      unfold nuN
      repeat' split
      all_goals omega
  refine e_swc (tgt := 70) 3 dX11_numbersOf_1 (by decide) (by decide) rfl (by decide) (fun h1_2 => ?_) (fun h1_2 => ?_)
  · try first | contradiction | omega
    all_goals
      refine e_iconst (v := nI 2) dX11_numbersOf_70 rfl ?_
      refine e_ret (some _) rfl (r_int dX11_numbersOf_71 rfl) ?_
      refine xq ?_ rfl rfl rfl rfl rfl
      congr 3
      unfold nuN
      repeat' split
      all_goals omega
  refine e_swc (tgt := 74) 4 dX11_numbersOf_1 (by decide) (by decide) rfl (by decide) (fun h1_3 => ?_) (fun h1_3 => ?_)
  · try first | contradiction | omega
    all_goals
      refine e_iconst (v := nI 1) dX11_numbersOf_74 rfl ?_
      refine e_ret (some _) rfl (r_int dX11_numbersOf_75 rfl) ?_
      refine xq ?_ rfl rfl rfl rfl rfl
      congr 3
      unfold nuN
      repeat' split
      all_goals omega
  refine e_swc (tgt := 74) 5 dX11_numbersOf_1 (by decide) (by decide) rfl (by decide) (fun h1_4 => ?_) (fun h1_4 => ?_)
  · try first | contradiction | omega
    all_goals
      refine e_iconst (v := nI 1) dX11_numbersOf_74 rfl ?_
      refine e_ret (some _) rfl (r_int dX11_numbersOf_75 rfl) ?_
      refine xq ?_ rfl rfl rfl rfl rfl
      congr 3
      unfold nuN
      repeat' split
      all_goals omega
  refine e_swc (tgt := 70) 6 dX11_numbersOf_1 (by decide) (by decide) rfl (by decide) (fun h1_5 => ?_) (fun h1_5 => ?_)
  · try first | contradiction | omega
    all_goals
      refine e_iconst (v := nI 2) dX11_numbersOf_70 rfl ?_
      refine e_ret (some _) rfl (r_int dX11_numbersOf_71 rfl) ?_
      refine xq ?_ rfl rfl rfl rfl rfl
      congr 3
      unfold nuN
      repeat' split
      all_goals omega
  refine e_swc (tgt := 70) 7 dX11_numbersOf_1 (by decide) (by decide) rfl (by decide) (fun h1_6 => ?_) (fun h1_6 => ?_)
  · try first | contradiction | omega
    all_goals
      refine e_iconst (v := nI 2) dX11_numbersOf_70 rfl ?_
      refine e_ret (some _) rfl (r_int dX11_numbersOf_71 rfl) ?_
      refine xq ?_ rfl rfl rfl rfl rfl
      congr 3
      unfold nuN
      repeat' split
      all_goals omega
  refine e_swc (tgt := 70) 8 dX11_numbersOf_1 (by decide) (by decide) rfl (by decide) (fun h1_7 => ?_) (fun h1_7 => ?_)
  · try first | contradiction | omega
    all_goals
      refine e_iconst (v := nI 2) dX11_numbersOf_70 rfl ?_
      refine e_ret (some _) rfl (r_int dX11_numbersOf_71 rfl) ?_
      refine xq ?_ rfl rfl rfl rfl rfl
      congr 3
      unfold nuN
      repeat' split
      all_goals omega
  refine e_swc (tgt := 74) 9 dX11_numbersOf_1 (by decide) (by decide) rfl (by decide) (fun h1_8 => ?_) (fun h1_8 => ?_)
  · try first | contradiction | omega
    all_goals
      refine e_iconst (v := nI 1) dX11_numbersOf_74 rfl ?_
      refine e_ret (some _) rfl (r_int dX11_numbersOf_75 rfl) ?_
      refine xq ?_ rfl rfl rfl rfl rfl
      congr 3
      unfold nuN
      repeat' split
      all_goals omega
  refine e_swc (tgt := 74) 10 dX11_numbersOf_1 (by decide) (by decide) rfl (by decide) (fun h1_9 => ?_) (fun h1_9 => ?_)
  · try first | contradiction | omega
    all_goals
      refine e_iconst (v := nI 1) dX11_numbersOf_74 rfl ?_
      refine e_ret (some _) rfl (r_int dX11_numbersOf_75 rfl) ?_
      refine xq ?_ rfl rfl rfl rfl rfl
      congr 3
      unfold nuN
      repeat' split
      all_goals omega
  refine e_swc (tgt := 74) 11 dX11_numbersOf_1 (by decide) (by decide) rfl (by decide) (fun h1_10 => ?_) (fun h1_10 => ?_)
  · try first | contradiction | omega
    all_goals
      refine e_iconst (v := nI 1) dX11_numbersOf_74 rfl ?_
      refine e_ret (some _) rfl (r_int dX11_numbersOf_75 rfl) ?_
      refine xq ?_ rfl rfl rfl rfl rfl
      congr 3
      unfold nuN
      repeat' split
      all_goals omega
  refine e_swc (tgt := 74) 12 dX11_numbersOf_1 (by decide) (by decide) rfl (by decide) (fun h1_11 => ?_) (fun h1_11 => ?_)
  · try first | contradiction | omega
    all_goals
      refine e_iconst (v := nI 1) dX11_numbersOf_74 rfl ?_
      refine e_ret (some _) rfl (r_int dX11_numbersOf_75 rfl) ?_
      refine xq ?_ rfl rfl rfl rfl rfl
      congr 3
      unfold nuN
      repeat' split
      all_goals omega
  refine e_swc (tgt := 72) 13 dX11_numbersOf_1 (by decide) (by decide) rfl (by decide) (fun h1_12 => ?_) (fun h1_12 => ?_)
  · try first | contradiction | omega
    all_goals
      refine e_iconst (v := nI 0) dX11_numbersOf_72 rfl ?_
      refine e_ret (some _) rfl (r_int dX11_numbersOf_73 rfl) ?_
      refine xq ?_ rfl rfl rfl rfl rfl
      congr 3
      unfold nuN
      repeat' split
      all_goals omega
  refine e_tableOut (tgt := 74) dX11_numbersOf_1 (by omega) (by decide) ?_
  refine e_iconst (v := nI 1) dX11_numbersOf_74 rfl ?_
  refine e_ret (some _) rfl (r_int dX11_numbersOf_75 rfl) ?_
  refine xq ?_ rfl rfl rfl rfl rfl
  congr 3
  unfold nuN
  repeat' split
  all_goals omega
def dgF (tp : Nat → Nat) : Nat → Nat → Nat → Nat × Nat
  | 0, a, v => (a, v)
  | f + 1, a, v => if isD tp a then dgF tp f (a + 1) (if 99999 < v then v else 10 * v + tp a - 48) else (a, v)
theorem dgF_le (tp : Nat → Nat) : ∀ f a v, v ≤ 999999 → a ≤ (dgF tp f a v).1 ∧ (dgF tp f a v).1 ≤ a + f ∧ (dgF tp f a v).2 ≤ 999999
  | 0, a, v, h => ⟨Nat.le_refl _, Nat.le_refl _, h⟩
  | f + 1, a, v, h => by
    unfold dgF
    split
    · rename_i hd
      have hd : 48 ≤ tp a ∧ tp a ≤ 57 := of_decide_eq_true hd
      have := dgF_le tp f (a + 1) (if 99999 < v then v else 10 * v + tp a - 48) (by split <;> omega)
      omega
    · exact ⟨Nat.le_refl _, by omega, h⟩
theorem dgF_t {tp : Nat → Nat} {t a v : Nat} (h : a < t) (hp : isD tp a = true) : dgF tp (t - a) a v = dgF tp (t - (a + 1)) (a + 1) (if 99999 < v then v else 10 * v + tp a - 48) := by
  rw [show t - a = (t - (a + 1)) + 1 by omega]
  show (if isD tp a then _ else _) = _
  rw [hp]; rfl
theorem dgF_f {tp : Nat → Nat} {t a v : Nat} (h : ¬ (a < t ∧ isD tp a = true)) : dgF tp (t - a) a v = (a, v) := by
  cases hf : t - a with
  | zero => rfl
  | succ f =>
    show (if isD tp a then _ else _) = _
    rw [if_neg (fun q => h ⟨by omega, q⟩)]
def nuS (tp : Nat → Nat) (t : Nat) (s : PS) : Nat × PS := if s.2.1 then (0, s) else
  ((dgF tp (t - skb tp t s.1) (skb tp t s.1) 0).2,
   if (dgF tp (t - skb tp t s.1) (skb tp t s.1) 0).1 = skb tp t s.1 then wrS ((dgF tp (t - skb tp t s.1) (skb tp t s.1) 0).1, s.2) (nI 1) (nI (skb tp t s.1))
   else if 99999 < (dgF tp (t - skb tp t s.1) (skb tp t s.1) 0).2 then wrS ((dgF tp (t - skb tp t s.1) (skb tp t s.1) 0).1, s.2) (nI 2) (nI (skb tp t s.1))
   else ((dgF tp (t - skb tp t s.1) (skb tp t s.1) 0).1, s.2))
theorem ct_X11_number {fi : FI} {fr : FR} {ai : FI} {ar : FR} {N : Nat} (sm : SM fr) {s : PS} {tp : Nat → Nat} {t : Nat} (ht : fi (32 * 11 + 10) (rf 11 80) = nI t) (ht4 : t ≤ 400) (hT : ∀ i, i < t → ai (rf 35 87) i = sB (tp i)) (hb : ∀ i, tp i < 256) (hs : s.1 ≤ t) : CP mX11_number 1 0 0 [.ref (rf 11 80)] (psF fi s) fr ai ar N (xQ (some (.int (nI (nuS tp t s).1))) (psF fi (nuS tp t s).2) fr ai ar N) := by
  obtain ⟨sW, sA0, sK, sU, sC, sKC, sT, sCl⟩ := id sm
  change EV mX11_number 1 0 0 0 [some (.ref (rf 11 80)), none, none] [] (psF fi s) fr ai ar N (xQ (some (.int (nI (nuS tp t s).1))) (psF fi (nuS tp t s).2) fr ai ar N)
  cases hw : s.2.1 with
  | true =>
    have e : nuS tp t s = (0, s) := by unfold nuS; rw [hw]; rfl
    rw [e]
    refine e_aload_n dX11_number_0 rfl rfl ?_
    refine e_getI dX11_number_1 fl_X11_223 rfl ?_
    rw [psF_15]
    rw [hw]
    first | ((with_reducible refine mk_b ?_); refine b_if_eq (tgt := 9) dX11_number_4 (by decide) (fun h4 => ?_) (fun h4 => ?_)) | ((with_reducible refine mk_ll ?_); refine m_if_eq (tgt := 9) dX11_number_4 (by decide) (by omega) (by omega) (fun h4 => ?_) (fun h4 => ?_)) | ((with_reducible refine mk_lc ?_); refine l_if_eq (tgt := 9) dX11_number_4 (by decide) (fun h4 => ?_) (fun h4 => ?_)) | ((with_reducible refine mk_n ?_); refine n_if_eq (tgt := 9) dX11_number_4 (by decide) (by omega) (fun h4 => ?_) (fun h4 => ?_)) | refine e_if_eq (tgt := 9) dX11_number_4 (by decide) (fun h4 => ?_) (fun h4 => ?_)
    · try first | contradiction | omega | (simp only [decide_eq_true_eq, decide_eq_false_iff_not] at h4; omega)
      all_goals
        contradiction
    · try first | contradiction | omega | (simp only [decide_eq_true_eq, decide_eq_false_iff_not] at h4; omega)
      all_goals
        refine e_iconst (v := nI 0) dX11_number_7 rfl ?_
        refine e_ret (some _) rfl (r_int dX11_number_8 rfl) ?_
        exact xq rfl rfl rfl rfl rfl rfl
  | false =>
    have hsk := skb_le tp hs
    have key : ∀ (f a v : Nat), t - a = f → skb tp t s.1 ≤ a → a ≤ t → v ≤ 999999 → dgF tp (t - a) a v = dgF tp (t - skb tp t s.1) (skb tp t s.1) 0 → EV mX11_number 1 0 0 20 [some (.ref (rf 11 80)), some (.int (nI (skb tp t s.1))), some (.int (nI v))] [] (psF fi (a, s.2)) fr ai ar N (xQ (some (.int (nI (nuS tp t s).1))) (psF fi (nuS tp t s).2) fr ai ar N) := by
      have fin : ∀ a v, skb tp t s.1 ≤ a → a ≤ t → v ≤ 999999 → dgF tp (t - skb tp t s.1) (skb tp t s.1) 0 = (a, v) → EV mX11_number 1 0 0 94 [some (.ref (rf 11 80)), some (.int (nI (skb tp t s.1))), some (.int (nI v))] [] (psF fi (a, s.2)) fr ai ar N (xQ (some (.int (nI (nuS tp t s).1))) (psF fi (nuS tp t s).2) fr ai ar N) := by
        intro a v ha1 ha2 hv hd
        have e : nuS tp t s = (v, if a = skb tp t s.1 then wrS (a, s.2) (nI 1) (nI (skb tp t s.1)) else if 99999 < v then wrS (a, s.2) (nI 2) (nI (skb tp t s.1)) else (a, s.2)) := by unfold nuS; rw [hw, hd]; rfl
        rw [e]
        refine e_aload_n dX11_number_94 rfl rfl ?_
        refine e_getI dX11_number_95 fl_X11_229 rfl ?_
        rw [psF_11]
        refine e_iload_n dX11_number_98 rfl rfl ?_
        first | ((with_reducible refine mk_mo ?_); refine p_icmp_ne (tgt := 111) dX11_number_99 (by decide) (fun h99 => ?_) (fun h99 => ?_)) | ((with_reducible refine mk_ms ?_); refine s_icmp_ne (tgt := 111) dX11_number_99 (by decide) (by omega) (fun h99 => ?_) (fun h99 => ?_)) | ((with_reducible refine mk_mn ?_); refine q_icmp_ne (tgt := 111) dX11_number_99 (by decide) (by omega) (fun h99 => ?_) (fun h99 => ?_)) | ((with_reducible refine mk_nn ?_); refine n_icmp_ne (tgt := 111) dX11_number_99 (by decide) (by omega) (by omega) (fun h99 => ?_) (fun h99 => ?_)) | refine e_icmp_ne (tgt := 111) dX11_number_99 (by decide) (fun h99 => ?_) (fun h99 => ?_)
        · try first | contradiction | omega
          all_goals
            refine e_iload_n dX11_number_111 rfl rfl ?_
            refine e_ldc dX11_number_112 co_X11_250 ?_
            first | ((with_reducible refine mk_nn ?_); refine n_icmp_le (tgt := 123) dX11_number_114 (by decide) (by omega) (by omega) (fun h114 => ?_) (fun h114 => ?_)) | refine e_icmp_le (tgt := 123) dX11_number_114 (by decide) (fun h114 => ?_) (fun h114 => ?_)
            · try first | contradiction | omega
              all_goals
                refine e_iload_n dX11_number_123 rfl rfl ?_
                refine e_ret (some _) rfl (r_int dX11_number_124 rfl) ?_
                refine xq rfl ?_ rfl rfl rfl rfl
                first | rw [if_pos (by omega)] | rw [if_neg (by omega), if_pos (by omega)] | rw [if_neg (by omega), if_neg (by omega)]
            · try first | contradiction | omega
              all_goals
                refine e_aload_n dX11_number_117 rfl rfl ?_
                refine e_iconst (v := nI 2) dX11_number_118 rfl ?_
                refine e_iload_n dX11_number_119 rfl rfl ?_
                refine y_V2 (M' := mX11_wrong) dX11_number_120 ml_X11_251 ok_X11_wrong (by decide) rfl im_X11_wrong se_X11_wrong (ct_X11_wrong ‹_›) (Nat.le_of_ble_eq_true rfl) (by decide) (Nat.le_of_ble_eq_true rfl) ?_
                refine e_iload_n dX11_number_123 rfl rfl ?_
                refine e_ret (some _) rfl (r_int dX11_number_124 rfl) ?_
                refine xq rfl ?_ rfl rfl rfl rfl
                first | rw [if_pos (by omega)] | rw [if_neg (by omega), if_pos (by omega)] | rw [if_neg (by omega), if_neg (by omega)]
        · try first | contradiction | omega
          all_goals
            refine e_aload_n dX11_number_102 rfl rfl ?_
            refine e_iconst (v := nI 1) dX11_number_103 rfl ?_
            refine e_iload_n dX11_number_104 rfl rfl ?_
            refine y_V2 (M' := mX11_wrong) dX11_number_105 ml_X11_251 ok_X11_wrong (by decide) rfl im_X11_wrong se_X11_wrong (ct_X11_wrong ‹_›) (Nat.le_of_ble_eq_true rfl) (by decide) (Nat.le_of_ble_eq_true rfl) ?_
            refine e_goto (tgt := 123) dX11_number_108 (by decide) ?_
            refine e_iload_n dX11_number_123 rfl rfl ?_
            refine e_ret (some _) rfl (r_int dX11_number_124 rfl) ?_
            refine xq rfl ?_ rfl rfl rfl rfl
            first | rw [if_pos (by omega)] | rw [if_neg (by omega), if_pos (by omega)] | rw [if_neg (by omega), if_neg (by omega)]
      intro f
      induction f with
      | zero =>
        intro a v hf ha1 ha2 hv hd
        rw [dgF_f (by omega)] at hd
        refine e_aload_n dX11_number_20 rfl rfl ?_
        refine e_getI dX11_number_21 fl_X11_229 rfl ?_
        rw [psF_11]
        refine e_aload_n dX11_number_24 rfl rfl ?_
        refine e_getI dX11_number_25 fl_X11_217 rfl ?_
        rw [psF_10, ht]
        first | ((with_reducible refine mk_nn ?_); refine n_icmp_ge (tgt := 94) dX11_number_28 (by decide) (by omega) (by omega) (fun h28 => ?_) (fun h28 => ?_)) | refine e_icmp_ge (tgt := 94) dX11_number_28 (by decide) (fun h28 => ?_) (fun h28 => ?_)
        · try first | contradiction | omega
          all_goals
            exact fin a v ha1 ha2 hv hd.symm
        · try first | contradiction | omega
          all_goals
            omega
      | succ f ih =>
        intro a v hf ha1 ha2 hv hd
        have hTa := hT a (by omega)
        have hba := hb a
        have hin := sB_in (lo := 48) (hi := 57) hba (by omega)
        by_cases hp : 48 ≤ tp a ∧ tp a ≤ 57
        · rw [dgF_t (by omega) (decide_eq_true hp)] at hd
          have hTb : ai (rf 35 87) a = nI (tp a) := by rw [hTa, sB_lo (by omega)]
          by_cases hv9 : 99999 < v
          · rw [if_pos hv9] at hd
            refine e_aload_n dX11_number_20 rfl rfl ?_
            refine e_getI dX11_number_21 fl_X11_229 rfl ?_
            rw [psF_11]
            refine e_aload_n dX11_number_24 rfl rfl ?_
            refine e_getI dX11_number_25 fl_X11_217 rfl ?_
            rw [psF_10, ht]
            first | ((with_reducible refine mk_nn ?_); refine n_icmp_ge (tgt := 94) dX11_number_28 (by decide) (by omega) (by omega) (fun h28 => ?_) (fun h28 => ?_)) | refine e_icmp_ge (tgt := 94) dX11_number_28 (by decide) (fun h28 => ?_) (fun h28 => ?_)
            · try first | contradiction | omega
              all_goals
                first | omega | (exfalso; simp_all; done)
            · try first | contradiction | omega
              all_goals
                refine e_aload_n dX11_number_31 rfl rfl ?_
                refine e_getR dX11_number_32 fl_X11_29 rfl (by assumption) ?_
                refine e_aload_n dX11_number_35 rfl rfl ?_
                refine e_getI dX11_number_36 fl_X11_229 rfl ?_
                rw [psF_11]
                first | refine e_bald _ dX11_number_39 ⟨by decide, by decide⟩ rfl rfl (by simp only [lenK]; omega) ?_ | refine e_zald _ dX11_number_39 ⟨by decide, by decide⟩ rfl rfl (by simp only [lenK]; omega) ?_
                first | ((with_reducible refine mk_n ?_); refine n_i2l dX11_number_40 (by omega) ?_) | refine e_i2l dX11_number_40 ?_
                refine e_ldc2 dX11_number_41 co_X11_246 ?_
                refine e_ldc2 dX11_number_44 co_X11_248 ?_
                refine x_S3 (M' := mX11_isIn) dX11_number_47 ml_X11_45 ok_X11_isIn rfl sc_X11_isIn (by first | ((with_reducible refine ct_isInN ?_ ?_ ?_) <;> omega) | ((with_reducible refine ct_isInX ?_ ?_) <;> omega) | exact ct_X11_isIn _ _ _) (Nat.le_of_ble_eq_true rfl) (by decide) (Nat.le_of_ble_eq_true rfl) ?_
                rw [hTa, hin]
                first | ((with_reducible refine mk_b ?_); refine b_if_eq (tgt := 94) dX11_number_50 (by decide) (fun h50 => ?_) (fun h50 => ?_)) | ((with_reducible refine mk_ll ?_); refine m_if_eq (tgt := 94) dX11_number_50 (by decide) (by omega) (by omega) (fun h50 => ?_) (fun h50 => ?_)) | ((with_reducible refine mk_lc ?_); refine l_if_eq (tgt := 94) dX11_number_50 (by decide) (fun h50 => ?_) (fun h50 => ?_)) | ((with_reducible refine mk_n ?_); refine n_if_eq (tgt := 94) dX11_number_50 (by decide) (by omega) (fun h50 => ?_) (fun h50 => ?_)) | refine e_if_eq (tgt := 94) dX11_number_50 (by decide) (fun h50 => ?_) (fun h50 => ?_)
                · try first | contradiction | omega | (simp only [decide_eq_true_eq, decide_eq_false_iff_not] at h50; omega)
                  all_goals
                    first | omega | (exfalso; simp_all; done)
                · try first | contradiction | omega | (simp only [decide_eq_true_eq, decide_eq_false_iff_not] at h50; omega)
                  all_goals
                    refine e_iload_n dX11_number_53 rfl rfl ?_
                    refine e_ldc dX11_number_54 co_X11_250 ?_
                    first | ((with_reducible refine mk_nn ?_); refine n_icmp_le (tgt := 63) dX11_number_56 (by decide) (by omega) (by omega) (fun h56 => ?_) (fun h56 => ?_)) | refine e_icmp_le (tgt := 63) dX11_number_56 (by decide) (fun h56 => ?_) (fun h56 => ?_)
                    · try first | contradiction | omega
                      all_goals
                        omega
                    · try first | contradiction | omega
                      all_goals
                        refine e_iload_n dX11_number_59 rfl rfl ?_
                        refine e_goto (tgt := 80) dX11_number_60 (by decide) ?_
                        refine e_istore_n dX11_number_80 rfl (Nat.le_of_ble_eq_true rfl) rfl ?_
                        refine e_aload_n dX11_number_81 rfl rfl ?_
                        refine e_dup dX11_number_82 rfl ?_
                        refine e_getI dX11_number_83 fl_X11_229 rfl ?_
                        rw [psF_11]
                        refine e_iconst (v := nI 1) dX11_number_86 rfl ?_
                        first | ((with_reducible refine mk_nn ?_); refine n_iadd dX11_number_87 ?_) | refine e_iadd dX11_number_87 ?_
                        refine e_putI dX11_number_88 fl_X11_229 rfl rfl rfl rfl ?_
                        refine e_goto (tgt := 20) dX11_number_91 (by decide) ?_
                        rw [psF_s11]
                        exact ih (a + 1) _ (by omega) (by omega) (by omega) (by omega) hd
          · rw [if_neg hv9] at hd
            refine e_aload_n dX11_number_20 rfl rfl ?_
            refine e_getI dX11_number_21 fl_X11_229 rfl ?_
            rw [psF_11]
            refine e_aload_n dX11_number_24 rfl rfl ?_
            refine e_getI dX11_number_25 fl_X11_217 rfl ?_
            rw [psF_10, ht]
            first | ((with_reducible refine mk_nn ?_); refine n_icmp_ge (tgt := 94) dX11_number_28 (by decide) (by omega) (by omega) (fun h28 => ?_) (fun h28 => ?_)) | refine e_icmp_ge (tgt := 94) dX11_number_28 (by decide) (fun h28 => ?_) (fun h28 => ?_)
            · try first | contradiction | omega
              all_goals
                first | omega | (exfalso; simp_all; done)
            · try first | contradiction | omega
              all_goals
                refine e_aload_n dX11_number_31 rfl rfl ?_
                refine e_getR dX11_number_32 fl_X11_29 rfl (by assumption) ?_
                refine e_aload_n dX11_number_35 rfl rfl ?_
                refine e_getI dX11_number_36 fl_X11_229 rfl ?_
                rw [psF_11]
                first | refine e_bald _ dX11_number_39 ⟨by decide, by decide⟩ rfl rfl (by simp only [lenK]; omega) ?_ | refine e_zald _ dX11_number_39 ⟨by decide, by decide⟩ rfl rfl (by simp only [lenK]; omega) ?_
                first | ((with_reducible refine mk_n ?_); refine n_i2l dX11_number_40 (by omega) ?_) | refine e_i2l dX11_number_40 ?_
                refine e_ldc2 dX11_number_41 co_X11_246 ?_
                refine e_ldc2 dX11_number_44 co_X11_248 ?_
                refine x_S3 (M' := mX11_isIn) dX11_number_47 ml_X11_45 ok_X11_isIn rfl sc_X11_isIn (by first | ((with_reducible refine ct_isInN ?_ ?_ ?_) <;> omega) | ((with_reducible refine ct_isInX ?_ ?_) <;> omega) | exact ct_X11_isIn _ _ _) (Nat.le_of_ble_eq_true rfl) (by decide) (Nat.le_of_ble_eq_true rfl) ?_
                rw [hTa, hin]
                first | ((with_reducible refine mk_b ?_); refine b_if_eq (tgt := 94) dX11_number_50 (by decide) (fun h50 => ?_) (fun h50 => ?_)) | ((with_reducible refine mk_ll ?_); refine m_if_eq (tgt := 94) dX11_number_50 (by decide) (by omega) (by omega) (fun h50 => ?_) (fun h50 => ?_)) | ((with_reducible refine mk_lc ?_); refine l_if_eq (tgt := 94) dX11_number_50 (by decide) (fun h50 => ?_) (fun h50 => ?_)) | ((with_reducible refine mk_n ?_); refine n_if_eq (tgt := 94) dX11_number_50 (by decide) (by omega) (fun h50 => ?_) (fun h50 => ?_)) | refine e_if_eq (tgt := 94) dX11_number_50 (by decide) (fun h50 => ?_) (fun h50 => ?_)
                · try first | contradiction | omega | (simp only [decide_eq_true_eq, decide_eq_false_iff_not] at h50; omega)
                  all_goals
                    first | omega | (exfalso; simp_all; done)
                · try first | contradiction | omega | (simp only [decide_eq_true_eq, decide_eq_false_iff_not] at h50; omega)
                  all_goals
                    refine e_iload_n dX11_number_53 rfl rfl ?_
                    refine e_ldc dX11_number_54 co_X11_250 ?_
                    first | ((with_reducible refine mk_nn ?_); refine n_icmp_le (tgt := 63) dX11_number_56 (by decide) (by omega) (by omega) (fun h56 => ?_) (fun h56 => ?_)) | refine e_icmp_le (tgt := 63) dX11_number_56 (by decide) (fun h56 => ?_) (fun h56 => ?_)
                    · try first | contradiction | omega
                      all_goals
                        refine e_bipush (v := nI 10) dX11_number_63 rfl ?_
                        refine e_iload_n dX11_number_65 rfl rfl ?_
                        first | ((with_reducible refine mk_nn ?_); refine n_imul dX11_number_66 ?_) | refine e_imul dX11_number_66 ?_
                        refine e_aload_n dX11_number_67 rfl rfl ?_
                        refine e_getR dX11_number_68 fl_X11_29 rfl (by assumption) ?_
                        refine e_aload_n dX11_number_71 rfl rfl ?_
                        refine e_getI dX11_number_72 fl_X11_229 rfl ?_
                        rw [psF_11]
                        first | refine e_bald _ dX11_number_75 ⟨by decide, by decide⟩ rfl rfl (by simp only [lenK]; omega) ?_ | refine e_zald _ dX11_number_75 ⟨by decide, by decide⟩ rfl rfl (by simp only [lenK]; omega) ?_
                        rw [hTb]
                        first | ((with_reducible refine mk_nn ?_); refine n_iadd dX11_number_76 ?_) | refine e_iadd dX11_number_76 ?_
                        refine e_bipush (v := nI 48) dX11_number_77 rfl ?_
                        first | ((with_reducible refine mk_nn ?_); refine n_isub dX11_number_79 (by omega) ?_) | refine e_isub dX11_number_79 ?_
                        refine e_istore_n dX11_number_80 rfl (Nat.le_of_ble_eq_true rfl) rfl ?_
                        refine e_aload_n dX11_number_81 rfl rfl ?_
                        refine e_dup dX11_number_82 rfl ?_
                        refine e_getI dX11_number_83 fl_X11_229 rfl ?_
                        rw [psF_11]
                        refine e_iconst (v := nI 1) dX11_number_86 rfl ?_
                        first | ((with_reducible refine mk_nn ?_); refine n_iadd dX11_number_87 ?_) | refine e_iadd dX11_number_87 ?_
                        refine e_putI dX11_number_88 fl_X11_229 rfl rfl rfl rfl ?_
                        refine e_goto (tgt := 20) dX11_number_91 (by decide) ?_
                        rw [psF_s11]
                        exact ih (a + 1) _ (by omega) (by omega) (by omega) (by omega) hd
                    · try first | contradiction | omega
                      all_goals
                        omega
        · rw [dgF_f (fun q => hp (of_decide_eq_true q.2))] at hd
          refine e_aload_n dX11_number_20 rfl rfl ?_
          refine e_getI dX11_number_21 fl_X11_229 rfl ?_
          rw [psF_11]
          refine e_aload_n dX11_number_24 rfl rfl ?_
          refine e_getI dX11_number_25 fl_X11_217 rfl ?_
          rw [psF_10, ht]
          first | ((with_reducible refine mk_nn ?_); refine n_icmp_ge (tgt := 94) dX11_number_28 (by decide) (by omega) (by omega) (fun h28 => ?_) (fun h28 => ?_)) | refine e_icmp_ge (tgt := 94) dX11_number_28 (by decide) (fun h28 => ?_) (fun h28 => ?_)
          · try first | contradiction | omega
            all_goals
              exact fin a v ha1 ha2 hv hd.symm
          · try first | contradiction | omega
            all_goals
              refine e_aload_n dX11_number_31 rfl rfl ?_
              refine e_getR dX11_number_32 fl_X11_29 rfl (by assumption) ?_
              refine e_aload_n dX11_number_35 rfl rfl ?_
              refine e_getI dX11_number_36 fl_X11_229 rfl ?_
              rw [psF_11]
              first | refine e_bald _ dX11_number_39 ⟨by decide, by decide⟩ rfl rfl (by simp only [lenK]; omega) ?_ | refine e_zald _ dX11_number_39 ⟨by decide, by decide⟩ rfl rfl (by simp only [lenK]; omega) ?_
              first | ((with_reducible refine mk_n ?_); refine n_i2l dX11_number_40 (by omega) ?_) | refine e_i2l dX11_number_40 ?_
              refine e_ldc2 dX11_number_41 co_X11_246 ?_
              refine e_ldc2 dX11_number_44 co_X11_248 ?_
              refine x_S3 (M' := mX11_isIn) dX11_number_47 ml_X11_45 ok_X11_isIn rfl sc_X11_isIn (by first | ((with_reducible refine ct_isInN ?_ ?_ ?_) <;> omega) | ((with_reducible refine ct_isInX ?_ ?_) <;> omega) | exact ct_X11_isIn _ _ _) (Nat.le_of_ble_eq_true rfl) (by decide) (Nat.le_of_ble_eq_true rfl) ?_
              rw [hTa, hin]
              first | ((with_reducible refine mk_b ?_); refine b_if_eq (tgt := 94) dX11_number_50 (by decide) (fun h50 => ?_) (fun h50 => ?_)) | ((with_reducible refine mk_ll ?_); refine m_if_eq (tgt := 94) dX11_number_50 (by decide) (by omega) (by omega) (fun h50 => ?_) (fun h50 => ?_)) | ((with_reducible refine mk_lc ?_); refine l_if_eq (tgt := 94) dX11_number_50 (by decide) (fun h50 => ?_) (fun h50 => ?_)) | ((with_reducible refine mk_n ?_); refine n_if_eq (tgt := 94) dX11_number_50 (by decide) (by omega) (fun h50 => ?_) (fun h50 => ?_)) | refine e_if_eq (tgt := 94) dX11_number_50 (by decide) (fun h50 => ?_) (fun h50 => ?_)
              · try first | contradiction | omega | (simp only [decide_eq_true_eq, decide_eq_false_iff_not] at h50; omega)
                all_goals
                  exact fin a v ha1 ha2 hv hd.symm
              · try first | contradiction | omega | (simp only [decide_eq_true_eq, decide_eq_false_iff_not] at h50; omega)
                all_goals
                  exact absurd (of_decide_eq_true h50) hp
    refine e_aload_n dX11_number_0 rfl rfl ?_
    refine e_getI dX11_number_1 fl_X11_223 rfl ?_
    rw [psF_15]
    rw [hw]
    first | ((with_reducible refine mk_b ?_); refine b_if_eq (tgt := 9) dX11_number_4 (by decide) (fun h4 => ?_) (fun h4 => ?_)) | ((with_reducible refine mk_ll ?_); refine m_if_eq (tgt := 9) dX11_number_4 (by decide) (by omega) (by omega) (fun h4 => ?_) (fun h4 => ?_)) | ((with_reducible refine mk_lc ?_); refine l_if_eq (tgt := 9) dX11_number_4 (by decide) (fun h4 => ?_) (fun h4 => ?_)) | ((with_reducible refine mk_n ?_); refine n_if_eq (tgt := 9) dX11_number_4 (by decide) (by omega) (fun h4 => ?_) (fun h4 => ?_)) | refine e_if_eq (tgt := 9) dX11_number_4 (by decide) (fun h4 => ?_) (fun h4 => ?_)
    · try first | contradiction | omega | (simp only [decide_eq_true_eq, decide_eq_false_iff_not] at h4; omega)
      all_goals
        refine e_aload_n dX11_number_9 rfl rfl ?_
        refine y_V0 (M' := mX11_blanks) dX11_number_10 ml_X11_243 ok_X11_blanks (by decide) rfl im_X11_blanks se_X11_blanks (ct_X11_blanks ‹_› ht ht4 hT hb hs) (Nat.le_of_ble_eq_true rfl) (by decide) (Nat.le_of_ble_eq_true rfl) ?_
        refine e_aload_n dX11_number_13 rfl rfl ?_
        refine e_getI dX11_number_14 fl_X11_229 rfl ?_
        rw [psF_11]
        refine e_istore_n dX11_number_17 rfl (Nat.le_of_ble_eq_true rfl) rfl ?_
        refine e_iconst (v := nI 0) dX11_number_18 rfl ?_
        refine e_istore_n dX11_number_19 rfl (Nat.le_of_ble_eq_true rfl) rfl ?_
        exact key _ _ 0 rfl (Nat.le_refl _) hsk.2 (by omega) rfl
    · try first | contradiction | omega | (simp only [decide_eq_true_eq, decide_eq_false_iff_not] at h4; omega)
      all_goals
        contradiction
