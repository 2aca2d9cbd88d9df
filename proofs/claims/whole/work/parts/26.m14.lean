def notA (ai : FI) (e a b c : Nat) : FI := up2 (up2 (up2 ai (rf 34 85) (3 * e) (nI a)) (rf 34 85) (3 * e + 1) (nI b)) (rf 34 85) (3 * e + 2) (nI c)
theorem ne34 : rf 34 85 ≠ rf 32 81 := by decide
def shF (w : Nat → Nat) (k : Nat) : Nat → Nat := fun q => if 10 + k < q ∧ q ≤ 10 + w 1 then w (q - 1) else if 42 + k < q ∧ q ≤ 42 + w 1 then w (q - 1) else if 74 + k < q ∧ q ≤ 74 + w 1 then w (q - 1) else w q
theorem shF_0 (w : Nat → Nat) : shF w (w 1) = w := by
  funext q
  unfold shF
  rw [if_neg (by omega), if_neg (by omega), if_neg (by omega)]
theorem shF_fr {w : Nat → Nat} {k q : Nat} (h : q ≤ 10 + k ∨ (10 + w 1 < q ∧ q ≤ 42 + k) ∨ (42 + w 1 < q ∧ q ≤ 74 + k) ∨ 74 + w 1 < q) (hn : w 1 ≤ 31) (hk : k ≤ w 1) : shF w k q = w q := by
  unfold shF
  rw [if_neg (by omega), if_neg (by omega), if_neg (by omega)]
theorem shF_s {w : Nat → Nat} {k : Nat} (hk : k + 1 ≤ w 1) (hn : w 1 ≤ 31) : upN (upN (upN (shF w (k + 1)) (10 + (k + 1)) (w (10 + (k + 1) - 1))) (42 + (k + 1)) (w (42 + (k + 1) - 1))) (74 + (k + 1)) (w (74 + (k + 1) - 1)) = shF w k := by
  funext q
  unfold upN shF
  repeat' split
  all_goals first | rfl | omega | (congr 1; omega)
def splW (w : Nat → Nat) (i key : Nat) : Nat → Nat := upN (upN (upN (upN (upN (upN (shF w (i + 1)) 0 (w 0 + 1)) (10 + i + 1) key) (42 + i + 1) (w (42 + i))) (74 + i + 1) (w 0 + 1)) (74 + i) (w 0 + 1)) 1 (w 1 + 1)
theorem ct_X11_notes {fi : FI} {fr : FR} {ai : FI} {ar : FR} {N : Nat} {w : Nat → Nat} (sm : SM fr) {a b c : Nat} (h0 : w 0 < 4000) : CP mX11_notes 0 0 0 [.ref (rf 11 80), .int (nI a), .int (nI b), .int (nI c)] fi fr (mW ai w) ar N (xQ none fi fr (mW (notA ai (w 0) a b c) w) ar N) := by
  obtain ⟨sW, sA0, sK, sU, sC, sKC, sT, sCl⟩ := id sm
  change EV mX11_notes 0 0 0 0 [some (.ref (rf 11 80)), some (.int (nI a)), some (.int (nI b)), some (.int (nI c))] [] fi fr (mW ai w) ar N _
  refine e_aload_n dX11_notes_0 rfl rfl ?_
  refine e_getR dX11_notes_1 fl_X11_7 rfl (by assumption) ?_
  refine e_iconst (v := nI 0) dX11_notes_4 rfl ?_
  first | ((with_reducible refine mk_ldw ?_); refine e_ldw dX11_notes_5 (by omega) ?_) | refine e_iald _ dX11_notes_5 ⟨by decide, by decide⟩ rfl rfl (by simp only [lenK]; omega) ?_
  refine e_sipush (v := nI 4000) dX11_notes_6 rfl ?_
  first | ((with_reducible refine mk_nn ?_); refine n_icmp_lt (tgt := 13) dX11_notes_9 (by decide) (by omega) (by omega) (fun h9 => ?_) (fun h9 => ?_)) | refine e_icmp_lt (tgt := 13) dX11_notes_9 (by decide) (fun h9 => ?_) (fun h9 => ?_)
  · try first | contradiction | omega
    all_goals
      refine e_aload_n dX11_notes_13 rfl rfl ?_
      refine e_getR dX11_notes_14 fl_X11_23 rfl (by assumption) ?_
      refine e_iconst (v := nI 3) dX11_notes_17 rfl ?_
      refine e_aload_n dX11_notes_18 rfl rfl ?_
      refine e_getR dX11_notes_19 fl_X11_7 rfl (by assumption) ?_
      refine e_iconst (v := nI 0) dX11_notes_22 rfl ?_
      first | ((with_reducible refine mk_ldw ?_); refine e_ldw dX11_notes_23 (by omega) ?_) | refine e_iald _ dX11_notes_23 ⟨by decide, by decide⟩ rfl rfl (by simp only [lenK]; omega) ?_
      first | ((with_reducible refine mk_nn ?_); refine n_imul dX11_notes_24 ?_) | refine e_imul dX11_notes_24 ?_
      refine e_iload_n dX11_notes_25 rfl rfl ?_
      first | ((with_reducible refine mk_stw ?_); refine e_stw dX11_notes_26 (by omega) ?_) | refine e_iast _ dX11_notes_26 ⟨by decide, by decide⟩ rfl rfl (by simp only [lenK]; omega) ?_
      rw [mW_up ne34]
      refine e_aload_n dX11_notes_27 rfl rfl ?_
      refine e_getR dX11_notes_28 fl_X11_23 rfl (by assumption) ?_
      refine e_iconst (v := nI 3) dX11_notes_31 rfl ?_
      refine e_aload_n dX11_notes_32 rfl rfl ?_
      refine e_getR dX11_notes_33 fl_X11_7 rfl (by assumption) ?_
      refine e_iconst (v := nI 0) dX11_notes_36 rfl ?_
      first | ((with_reducible refine mk_ldw ?_); refine e_ldw dX11_notes_37 (by omega) ?_) | refine e_iald _ dX11_notes_37 ⟨by decide, by decide⟩ rfl rfl (by simp only [lenK]; omega) ?_
      first | ((with_reducible refine mk_nn ?_); refine n_imul dX11_notes_38 ?_) | refine e_imul dX11_notes_38 ?_
      refine e_iconst (v := nI 1) dX11_notes_39 rfl ?_
      first | ((with_reducible refine mk_nn ?_); refine n_iadd dX11_notes_40 ?_) | refine e_iadd dX11_notes_40 ?_
      refine e_iload_n dX11_notes_41 rfl rfl ?_
      first | ((with_reducible refine mk_stw ?_); refine e_stw dX11_notes_42 (by omega) ?_) | refine e_iast _ dX11_notes_42 ⟨by decide, by decide⟩ rfl rfl (by simp only [lenK]; omega) ?_
      rw [mW_up ne34]
      refine e_aload_n dX11_notes_43 rfl rfl ?_
      refine e_getR dX11_notes_44 fl_X11_23 rfl (by assumption) ?_
      refine e_iconst (v := nI 3) dX11_notes_47 rfl ?_
      refine e_aload_n dX11_notes_48 rfl rfl ?_
      refine e_getR dX11_notes_49 fl_X11_7 rfl (by assumption) ?_
      refine e_iconst (v := nI 0) dX11_notes_52 rfl ?_
      first | ((with_reducible refine mk_ldw ?_); refine e_ldw dX11_notes_53 (by omega) ?_) | refine e_iald _ dX11_notes_53 ⟨by decide, by decide⟩ rfl rfl (by simp only [lenK]; omega) ?_
      first | ((with_reducible refine mk_nn ?_); refine n_imul dX11_notes_54 ?_) | refine e_imul dX11_notes_54 ?_
      refine e_iconst (v := nI 2) dX11_notes_55 rfl ?_
      first | ((with_reducible refine mk_nn ?_); refine n_iadd dX11_notes_56 ?_) | refine e_iadd dX11_notes_56 ?_
      refine e_iload_n dX11_notes_57 rfl rfl ?_
      first | ((with_reducible refine mk_stw ?_); refine e_stw dX11_notes_58 (by omega) ?_) | refine e_iast _ dX11_notes_58 ⟨by decide, by decide⟩ rfl rfl (by simp only [lenK]; omega) ?_
      rw [mW_up ne34]
      refine e_ret none rfl (r_void dX11_notes_59 rfl) ?_
      exact xq rfl rfl rfl rfl rfl rfl
  · try first | contradiction | omega
    all_goals
      refine e_ret none rfl (r_void dX11_notes_12 rfl) ?_
      exact xq rfl rfl rfl rfl rfl rfl
theorem ct_X11_splits {fi : FI} {fr : FR} {ai : FI} {ar : FR} {N : Nat} {w : Nat → Nat} (sm : SM fr) (iv : Inv w) {i key : Nat} (hi : i < w 1) (hn : w 1 ≤ 31) : CP mX11_splits 0 0 0 [.ref (rf 11 80), .int (nI i), .int (nI key)] fi fr (mW ai w) ar N (xQ none fi fr (mW ai (splW w i key)) ar N) := by
  obtain ⟨sW, sA0, sK, sU, sC, sKC, sT, sCl⟩ := id sm
  have he0 := iv_ep0 iv
  change EV mX11_splits 0 0 0 0 [some (.ref (rf 11 80)), some (.int (nI i)), some (.int (nI key)), none] [] fi fr (mW ai w) ar N (xQ none fi fr (mW ai (splW w i key)) ar N)
  have key1 : ∀ j, i + 1 + j ≤ w 1 → EV mX11_splits 0 0 0 7 [some (.ref (rf 11 80)), some (.int (nI i)), some (.int (nI key)), some (.int (nI (i + 1 + j)))] [] fi fr (mW ai (shF w (i + 1 + j))) ar N (xQ none fi fr (mW ai (splW w i key)) ar N) := by
    intro j
    induction j with
    | zero =>
      intro hj
      have r0 : shF w (i + 1 + 0) 0 = w 0 := shF_fr (by omega) hn (by omega)
      have r1 : shF w (i + 1 + 0) 1 = w 1 := shF_fr (by omega) hn (by omega)
      have r4 : shF w (i + 1 + 0) (42 + i) = w (42 + i) := shF_fr (by omega) hn (by omega)
      refine e_iload_n dX11_splits_7 rfl rfl ?_
      refine e_iload_n dX11_splits_8 rfl rfl ?_
      refine e_iconst (v := nI 1) dX11_splits_9 rfl ?_
      first | ((with_reducible refine mk_nn ?_); refine n_iadd dX11_splits_10 ?_) | refine e_iadd dX11_splits_10 ?_
      first | ((with_reducible refine mk_nn ?_); refine n_icmp_le (tgt := 80) dX11_splits_11 (by decide) (by omega) (by omega) (fun h11 => ?_) (fun h11 => ?_)) | refine e_icmp_le (tgt := 80) dX11_splits_11 (by decide) (fun h11 => ?_) (fun h11 => ?_)
      · try first | contradiction | omega
        all_goals
          refine e_aload_n dX11_splits_80 rfl rfl ?_
          refine e_getR dX11_splits_81 fl_X11_7 rfl (by assumption) ?_
          refine e_iconst (v := nI 0) dX11_splits_84 rfl ?_
          refine e_dup2 dX11_splits_85 rfl rfl ?_
          first | ((with_reducible refine mk_ldw ?_); refine e_ldw dX11_splits_86 (by omega) ?_) | refine e_iald _ dX11_splits_86 ⟨by decide, by decide⟩ rfl rfl (by simp only [lenK]; omega) ?_
          refine e_iconst (v := nI 1) dX11_splits_87 rfl ?_
          first | ((with_reducible refine mk_nn ?_); refine n_iadd dX11_splits_88 ?_) | refine e_iadd dX11_splits_88 ?_
          first | ((with_reducible refine mk_stw ?_); refine e_stw dX11_splits_89 (by omega) ?_) | refine e_iast _ dX11_splits_89 ⟨by decide, by decide⟩ rfl rfl (by simp only [lenK]; omega) ?_
          refine e_aload_n dX11_splits_90 rfl rfl ?_
          refine e_getR dX11_splits_91 fl_X11_7 rfl (by assumption) ?_
          refine e_bipush (v := nI 10) dX11_splits_94 rfl ?_
          refine e_iload_n dX11_splits_96 rfl rfl ?_
          first | ((with_reducible refine mk_nn ?_); refine n_iadd dX11_splits_97 ?_) | refine e_iadd dX11_splits_97 ?_
          refine e_iconst (v := nI 1) dX11_splits_98 rfl ?_
          first | ((with_reducible refine mk_nn ?_); refine n_iadd dX11_splits_99 ?_) | refine e_iadd dX11_splits_99 ?_
          refine e_iload_n dX11_splits_100 rfl rfl ?_
          first | ((with_reducible refine mk_stw ?_); refine e_stw dX11_splits_101 (by omega) ?_) | refine e_iast _ dX11_splits_101 ⟨by decide, by decide⟩ rfl rfl (by simp only [lenK]; omega) ?_
          refine e_aload_n dX11_splits_102 rfl rfl ?_
          refine e_getR dX11_splits_103 fl_X11_7 rfl (by assumption) ?_
          refine e_bipush (v := nI 42) dX11_splits_106 rfl ?_
          refine e_iload_n dX11_splits_108 rfl rfl ?_
          first | ((with_reducible refine mk_nn ?_); refine n_iadd dX11_splits_109 ?_) | refine e_iadd dX11_splits_109 ?_
          refine e_iconst (v := nI 1) dX11_splits_110 rfl ?_
          first | ((with_reducible refine mk_nn ?_); refine n_iadd dX11_splits_111 ?_) | refine e_iadd dX11_splits_111 ?_
          refine e_aload_n dX11_splits_112 rfl rfl ?_
          refine e_getR dX11_splits_113 fl_X11_7 rfl (by assumption) ?_
          refine e_bipush (v := nI 42) dX11_splits_116 rfl ?_
          refine e_iload_n dX11_splits_118 rfl rfl ?_
          first | ((with_reducible refine mk_nn ?_); refine n_iadd dX11_splits_119 ?_) | refine e_iadd dX11_splits_119 ?_
          first | ((with_reducible refine mk_ldw ?_); refine e_ldw dX11_splits_120 (by omega) ?_) | refine e_iald _ dX11_splits_120 ⟨by decide, by decide⟩ rfl rfl (by simp only [lenK]; omega) ?_
          first | ((with_reducible refine mk_stw ?_); refine e_stw dX11_splits_121 (by omega) ?_) | refine e_iast _ dX11_splits_121 ⟨by decide, by decide⟩ rfl rfl (by simp only [lenK]; omega) ?_
          refine e_aload_n dX11_splits_122 rfl rfl ?_
          refine e_getR dX11_splits_123 fl_X11_7 rfl (by assumption) ?_
          refine e_bipush (v := nI 74) dX11_splits_126 rfl ?_
          refine e_iload_n dX11_splits_128 rfl rfl ?_
          first | ((with_reducible refine mk_nn ?_); refine n_iadd dX11_splits_129 ?_) | refine e_iadd dX11_splits_129 ?_
          refine e_iconst (v := nI 1) dX11_splits_130 rfl ?_
          first | ((with_reducible refine mk_nn ?_); refine n_iadd dX11_splits_131 ?_) | refine e_iadd dX11_splits_131 ?_
          refine e_aload_n dX11_splits_132 rfl rfl ?_
          refine e_getR dX11_splits_133 fl_X11_7 rfl (by assumption) ?_
          refine e_iconst (v := nI 0) dX11_splits_136 rfl ?_
          first | ((with_reducible refine mk_ldw ?_); refine e_ldw dX11_splits_137 (by omega) ?_) | refine e_iald _ dX11_splits_137 ⟨by decide, by decide⟩ rfl rfl (by simp only [lenK]; omega) ?_
          first | ((with_reducible refine mk_stw ?_); refine e_stw dX11_splits_138 (by omega) ?_) | refine e_iast _ dX11_splits_138 ⟨by decide, by decide⟩ rfl rfl (by simp only [lenK]; omega) ?_
          refine e_aload_n dX11_splits_139 rfl rfl ?_
          refine e_getR dX11_splits_140 fl_X11_7 rfl (by assumption) ?_
          refine e_bipush (v := nI 74) dX11_splits_143 rfl ?_
          refine e_iload_n dX11_splits_145 rfl rfl ?_
          first | ((with_reducible refine mk_nn ?_); refine n_iadd dX11_splits_146 ?_) | refine e_iadd dX11_splits_146 ?_
          refine e_aload_n dX11_splits_147 rfl rfl ?_
          refine e_getR dX11_splits_148 fl_X11_7 rfl (by assumption) ?_
          refine e_iconst (v := nI 0) dX11_splits_151 rfl ?_
          first | ((with_reducible refine mk_ldw ?_); refine e_ldw dX11_splits_152 (by omega) ?_) | refine e_iald _ dX11_splits_152 ⟨by decide, by decide⟩ rfl rfl (by simp only [lenK]; omega) ?_
          first | ((with_reducible refine mk_stw ?_); refine e_stw dX11_splits_153 (by omega) ?_) | refine e_iast _ dX11_splits_153 ⟨by decide, by decide⟩ rfl rfl (by simp only [lenK]; omega) ?_
          refine e_aload_n dX11_splits_154 rfl rfl ?_
          refine e_getR dX11_splits_155 fl_X11_7 rfl (by assumption) ?_
          refine e_iconst (v := nI 1) dX11_splits_158 rfl ?_
          refine e_dup2 dX11_splits_159 rfl rfl ?_
          first | ((with_reducible refine mk_ldw ?_); refine e_ldw dX11_splits_160 (by omega) ?_) | refine e_iald _ dX11_splits_160 ⟨by decide, by decide⟩ rfl rfl (by simp only [lenK]; omega) ?_
          refine e_iconst (v := nI 1) dX11_splits_161 rfl ?_
          first | ((with_reducible refine mk_nn ?_); refine n_iadd dX11_splits_162 ?_) | refine e_iadd dX11_splits_162 ?_
          first | ((with_reducible refine mk_stw ?_); refine e_stw dX11_splits_163 (by omega) ?_) | refine e_iast _ dX11_splits_163 ⟨by decide, by decide⟩ rfl rfl (by simp only [lenK]; omega) ?_
          refine e_ret none rfl (r_void dX11_splits_164 rfl) ?_
          refine xq rfl rfl rfl ?_ rfl rfl
          simp (disch := omega) only [upN_n, upN_s, r0, r1, r4]
          rfl
      · try first | contradiction | omega
        all_goals
          contradiction
    | succ j ih =>
      intro hj
      have ih := ih (by omega)
      have ra : shF w (i + 1 + (j + 1)) (10 + (i + 1 + (j + 1)) - 1) = w (10 + (i + 1 + j + 1) - 1) := shF_fr (by omega) hn (by omega)
      have rb : shF w (i + 1 + (j + 1)) (42 + (i + 1 + (j + 1)) - 1) = w (42 + (i + 1 + j + 1) - 1) := shF_fr (by omega) hn (by omega)
      have rc : shF w (i + 1 + (j + 1)) (74 + (i + 1 + (j + 1)) - 1) = w (74 + (i + 1 + j + 1) - 1) := shF_fr (by omega) hn (by omega)
      rw [show i + 1 + (j + 1) = (i + 1 + j) + 1 from rfl] at *
      refine e_iload_n dX11_splits_7 rfl rfl ?_
      refine e_iload_n dX11_splits_8 rfl rfl ?_
      refine e_iconst (v := nI 1) dX11_splits_9 rfl ?_
      first | ((with_reducible refine mk_nn ?_); refine n_iadd dX11_splits_10 ?_) | refine e_iadd dX11_splits_10 ?_
      first | ((with_reducible refine mk_nn ?_); refine n_icmp_le (tgt := 80) dX11_splits_11 (by decide) (by omega) (by omega) (fun h11 => ?_) (fun h11 => ?_)) | refine e_icmp_le (tgt := 80) dX11_splits_11 (by decide) (fun h11 => ?_) (fun h11 => ?_)
      · try first | contradiction | omega
        all_goals
          contradiction
      · try first | contradiction | omega
        all_goals
          refine e_aload_n dX11_splits_14 rfl rfl ?_
          refine e_getR dX11_splits_15 fl_X11_7 rfl (by assumption) ?_
          refine e_bipush (v := nI 10) dX11_splits_18 rfl ?_
          refine e_iload_n dX11_splits_20 rfl rfl ?_
          first | ((with_reducible refine mk_nn ?_); refine n_iadd dX11_splits_21 ?_) | refine e_iadd dX11_splits_21 ?_
          refine e_aload_n dX11_splits_22 rfl rfl ?_
          refine e_getR dX11_splits_23 fl_X11_7 rfl (by assumption) ?_
          refine e_bipush (v := nI 10) dX11_splits_26 rfl ?_
          refine e_iload_n dX11_splits_28 rfl rfl ?_
          first | ((with_reducible refine mk_nn ?_); refine n_iadd dX11_splits_29 ?_) | refine e_iadd dX11_splits_29 ?_
          refine e_iconst (v := nI 1) dX11_splits_30 rfl ?_
          first | ((with_reducible refine mk_nn ?_); refine n_isub dX11_splits_31 (by omega) ?_) | refine e_isub dX11_splits_31 ?_
          first | ((with_reducible refine mk_ldw ?_); refine e_ldw dX11_splits_32 (by omega) ?_) | refine e_iald _ dX11_splits_32 ⟨by decide, by decide⟩ rfl rfl (by simp only [lenK]; omega) ?_
          first | ((with_reducible refine mk_stw ?_); refine e_stw dX11_splits_33 (by omega) ?_) | refine e_iast _ dX11_splits_33 ⟨by decide, by decide⟩ rfl rfl (by simp only [lenK]; omega) ?_
          refine e_aload_n dX11_splits_34 rfl rfl ?_
          refine e_getR dX11_splits_35 fl_X11_7 rfl (by assumption) ?_
          refine e_bipush (v := nI 42) dX11_splits_38 rfl ?_
          refine e_iload_n dX11_splits_40 rfl rfl ?_
          first | ((with_reducible refine mk_nn ?_); refine n_iadd dX11_splits_41 ?_) | refine e_iadd dX11_splits_41 ?_
          refine e_aload_n dX11_splits_42 rfl rfl ?_
          refine e_getR dX11_splits_43 fl_X11_7 rfl (by assumption) ?_
          refine e_bipush (v := nI 42) dX11_splits_46 rfl ?_
          refine e_iload_n dX11_splits_48 rfl rfl ?_
          first | ((with_reducible refine mk_nn ?_); refine n_iadd dX11_splits_49 ?_) | refine e_iadd dX11_splits_49 ?_
          refine e_iconst (v := nI 1) dX11_splits_50 rfl ?_
          first | ((with_reducible refine mk_nn ?_); refine n_isub dX11_splits_51 (by omega) ?_) | refine e_isub dX11_splits_51 ?_
          first | ((with_reducible refine mk_ldw ?_); refine e_ldw dX11_splits_52 (by omega) ?_) | refine e_iald _ dX11_splits_52 ⟨by decide, by decide⟩ rfl rfl (by simp only [lenK]; omega) ?_
          first | ((with_reducible refine mk_stw ?_); refine e_stw dX11_splits_53 (by omega) ?_) | refine e_iast _ dX11_splits_53 ⟨by decide, by decide⟩ rfl rfl (by simp only [lenK]; omega) ?_
          refine e_aload_n dX11_splits_54 rfl rfl ?_
          refine e_getR dX11_splits_55 fl_X11_7 rfl (by assumption) ?_
          refine e_bipush (v := nI 74) dX11_splits_58 rfl ?_
          refine e_iload_n dX11_splits_60 rfl rfl ?_
          first | ((with_reducible refine mk_nn ?_); refine n_iadd dX11_splits_61 ?_) | refine e_iadd dX11_splits_61 ?_
          refine e_aload_n dX11_splits_62 rfl rfl ?_
          refine e_getR dX11_splits_63 fl_X11_7 rfl (by assumption) ?_
          refine e_bipush (v := nI 74) dX11_splits_66 rfl ?_
          refine e_iload_n dX11_splits_68 rfl rfl ?_
          first | ((with_reducible refine mk_nn ?_); refine n_iadd dX11_splits_69 ?_) | refine e_iadd dX11_splits_69 ?_
          refine e_iconst (v := nI 1) dX11_splits_70 rfl ?_
          first | ((with_reducible refine mk_nn ?_); refine n_isub dX11_splits_71 (by omega) ?_) | refine e_isub dX11_splits_71 ?_
          first | ((with_reducible refine mk_ldw ?_); refine e_ldw dX11_splits_72 (by omega) ?_) | refine e_iald _ dX11_splits_72 ⟨by decide, by decide⟩ rfl rfl (by simp only [lenK]; omega) ?_
          first | ((with_reducible refine mk_stw ?_); refine e_stw dX11_splits_73 (by omega) ?_) | refine e_iast _ dX11_splits_73 ⟨by decide, by decide⟩ rfl rfl (by simp only [lenK]; omega) ?_
          first | refine n_dec dX11_splits_74 rfl (Nat.le_of_ble_eq_true rfl) rfl ?_ | refine e_iinc dX11_splits_74 rfl rfl (Nat.le_of_ble_eq_true rfl) rfl ?_
          refine e_goto (tgt := 7) dX11_splits_77 (by decide) ?_
          simp (disch := omega) only [upN_n, ra, rb, rc]
          rw [shF_s (by omega) hn]
          exact ih
  have kk := key1 (w 1 - (i + 1)) (by omega)
  rw [show i + 1 + (w 1 - (i + 1)) = w 1 by omega, shF_0] at kk
  refine e_aload_n dX11_splits_0 rfl rfl ?_
  refine e_getR dX11_splits_1 fl_X11_7 rfl (by assumption) ?_
  refine e_iconst (v := nI 1) dX11_splits_4 rfl ?_
  first | ((with_reducible refine mk_ldw ?_); refine e_ldw dX11_splits_5 (by omega) ?_) | refine e_iald _ dX11_splits_5 ⟨by decide, by decide⟩ rfl rfl (by simp only [lenK]; omega) ?_
  refine e_istore_n dX11_splits_6 rfl (Nat.le_of_ble_eq_true rfl) rfl ?_
  exact kk
theorem csB_ex {w : Nat → Nat} {i : Nat} {y : Int32} (iv : Inv w) (hi : i < w 1) (h : csB w i y = true) : w 1 ≤ 31 ∧ ∃ k, w (10 + i) < k ∧ k < enF w i ∧ y = nI k ∧ y.toNatClampNeg = k := by
  unfold csB at h
  simp only [Bool.and_eq_true, decide_eq_true_eq] at h
  have he := enF_le iv hi
  obtain ⟨k, hk, rfl, hki, hkc⟩ := int_ex (x := y) (by omega)
  exact ⟨by omega, k, by omega, by omega, rfl, hkc⟩
def spcW (w : Nat → Nat) (i key : Nat) : Nat → Nat := upN (splW w i key) (8558 + 6) (w (8558 + 6) + 1)
def spaA (ai : FI) (u : Nat) (sc : Bool) (w : Nat → Nat) (i : Nat) : FI := notA (actA ai u sc w) (w 0 + 1) 1 (w (10 + i)) (w (42 + i))
/-- split at a key: whether it can be -/
def spcB (w : Nat → Nat) (q : Option Nat) (y : Int32) : Bool := match q with
  | none => false
  | some i => csB w i y
/-- what split answers, and does -/
def sptR (w : Nat → Nat) (q : Option Nat) (y t : Int32) : Int32 := if spcB w q y then (if t = -1 then nI (w 0 + 1) else t) else -1
def sptW (w : Nat → Nat) (q : Option Nat) (y : Int32) : Nat → Nat := match q with
  | none => w
  | some i => if csB w i y then spcW w i y.toNatClampNeg else w
def sptA (ai : FI) (u : Nat) (sc : Bool) (w : Nat → Nat) (q : Option Nat) (y : Int32) : FI := match q with
  | none => ai
  | some i => if csB w i y then spaA ai u sc w i else ai
def sptF (fi : FI) (u : Nat) (sc : Bool) (w : Nat → Nat) (q : Option Nat) (y : Int32) : FI := if spcB w q y then actF fi u sc else fi
theorem splW_0 {w : Nat → Nat} {i key : Nat} (hi : i < w 1) (hn : w 1 ≤ 31) : splW w i key 0 = w 0 + 1 := by unfold splW; simp (disch := omega) only [upN_n, upN_s]
theorem splW_l {w : Nat → Nat} {i key : Nat} (hi : i < w 1) (hn : w 1 ≤ 31) : splW w i key (10 + i) = w (10 + i) := by unfold splW; simp (disch := omega) only [upN_n, upN_s]; exact shF_fr (by omega) hn (by omega)
theorem splW_o {w : Nat → Nat} {i key : Nat} (hi : i < w 1) (hn : w 1 ≤ 31) : splW w i key (42 + i) = w (42 + i) := by unfold splW; simp (disch := omega) only [upN_n, upN_s]; exact shF_fr (by omega) hn (by omega)
theorem splW_c {w : Nat → Nat} {i key q : Nat} (hi : i < w 1) (hn : w 1 ≤ 31) (hq : 106 ≤ q) : splW w i key q = w q := by unfold splW; simp (disch := omega) only [upN_n, upN_s]; exact shF_fr (by omega) hn (by omega)
theorem ct_X11_splitAt {fi : FI} {fr : FR} {ai : FI} {ar : FR} {N : Nat} {w : Nat → Nat} (sm : SM fr) (iv : Inv w) (q : Option Nat) (hq : ∀ i, q = some i → i < w 1) (y t : Int32) {u : Nat} (hu : fi (32 * 11 + 4) (rf 11 80) = nI u) (hu6 : u ≤ 6) {sc : Bool} (hsc : fi (32 * 11 + 8) (rf 11 80) = bI sc) : CP mX11_splitAt 4 0 0 [.ref (rf 11 80), .int (oI q), .int y, .int t] fi fr (mW ai w) ar N (xQ (some (.int (sptR w q y t))) (sptF fi u sc w q y) fr (mW (sptA ai u sc w q y) (sptW w q y)) ar N) := by
  obtain ⟨sW, sA, sK, sU, sC, sKC, sT, sCl⟩ := id sm
  have h1 := iv_n iv
  have h3 := iv_mm iv
  change EV mX11_splitAt 4 0 0 0 [some (.ref (rf 11 80)), some (.int (oI q)), some (.int y), some (.int t)] [] fi fr (mW ai w) ar N (xQ (some (.int (sptR w q y t))) (sptF fi u sc w q y) fr (mW (sptA ai u sc w q y) (sptW w q y)) ar N)
  have he0 := iv_ep0 iv
  cases q with
  | none =>
    refine e_aload_n dX11_splitAt_0 rfl rfl ?_
    refine e_iload_n dX11_splitAt_1 rfl rfl ?_
    refine e_iload_n dX11_splitAt_2 rfl rfl ?_
    refine x_V2 (M' := mX11_canSplit) dX11_splitAt_3 ml_X11_82 ok_X11_canSplit (by decide) rfl im_X11_canSplit se_X11_canSplit (ct_X11_canSplit ‹_› ‹_› _ hq _) (Nat.le_of_ble_eq_true rfl) (by decide) (Nat.le_of_ble_eq_true rfl) ?_
    rw [show bI (match (none : Option Nat) with | none => false | some i => csB w i y) = bI false from rfl]
    first | ((with_reducible refine mk_b ?_); refine b_if_ne (tgt := 11) dX11_splitAt_6 (by decide) (fun h6 => ?_) (fun h6 => ?_)) | ((with_reducible refine mk_ll ?_); refine m_if_ne (tgt := 11) dX11_splitAt_6 (by decide) (by omega) (by omega) (fun h6 => ?_) (fun h6 => ?_)) | ((with_reducible refine mk_lc ?_); refine l_if_ne (tgt := 11) dX11_splitAt_6 (by decide) (fun h6 => ?_) (fun h6 => ?_)) | ((with_reducible refine mk_n ?_); refine n_if_ne (tgt := 11) dX11_splitAt_6 (by decide) (by omega) (fun h6 => ?_) (fun h6 => ?_)) | refine e_if_ne (tgt := 11) dX11_splitAt_6 (by decide) (fun h6 => ?_) (fun h6 => ?_)
    · try first | contradiction | omega | (simp only [decide_eq_true_eq, decide_eq_false_iff_not] at h6; omega)
      all_goals
        contradiction
    · try first | contradiction | omega | (simp only [decide_eq_true_eq, decide_eq_false_iff_not] at h6; omega)
      all_goals
        refine e_iconst (v := -1) dX11_splitAt_9 rfl ?_
        refine e_ret (some _) rfl (r_int dX11_splitAt_10 rfl) ?_
        exact xq rfl rfl rfl rfl rfl rfl
  | some i =>
    have hi := hq i rfl
    cases hb : csB w i y with
    | false =>
      have e1 : sptR w (some i) y t = -1 := by show (if csB w i y then _ else _) = _; rw [hb]; rfl
      have e2 : sptW w (some i) y = w := by show (if csB w i y then _ else _) = _; rw [hb]; rfl
      have e3 : sptA ai u sc w (some i) y = ai := by show (if csB w i y then _ else _) = _; rw [hb]; rfl
      have e4 : sptF fi u sc w (some i) y = fi := by show (if csB w i y then _ else _) = _; rw [hb]; rfl
      rw [e1, e2, e3, e4]
      refine e_aload_n dX11_splitAt_0 rfl rfl ?_
      refine e_iload_n dX11_splitAt_1 rfl rfl ?_
      refine e_iload_n dX11_splitAt_2 rfl rfl ?_
      refine x_V2 (M' := mX11_canSplit) dX11_splitAt_3 ml_X11_82 ok_X11_canSplit (by decide) rfl im_X11_canSplit se_X11_canSplit (ct_X11_canSplit ‹_› ‹_› _ hq _) (Nat.le_of_ble_eq_true rfl) (by decide) (Nat.le_of_ble_eq_true rfl) ?_
      dsimp only; rw [hb]
      first | ((with_reducible refine mk_b ?_); refine b_if_ne (tgt := 11) dX11_splitAt_6 (by decide) (fun h6 => ?_) (fun h6 => ?_)) | ((with_reducible refine mk_ll ?_); refine m_if_ne (tgt := 11) dX11_splitAt_6 (by decide) (by omega) (by omega) (fun h6 => ?_) (fun h6 => ?_)) | ((with_reducible refine mk_lc ?_); refine l_if_ne (tgt := 11) dX11_splitAt_6 (by decide) (fun h6 => ?_) (fun h6 => ?_)) | ((with_reducible refine mk_n ?_); refine n_if_ne (tgt := 11) dX11_splitAt_6 (by decide) (by omega) (fun h6 => ?_) (fun h6 => ?_)) | refine e_if_ne (tgt := 11) dX11_splitAt_6 (by decide) (fun h6 => ?_) (fun h6 => ?_)
      · try first | contradiction | omega | (simp only [decide_eq_true_eq, decide_eq_false_iff_not] at h6; omega)
        all_goals
          contradiction
      · try first | contradiction | omega | (simp only [decide_eq_true_eq, decide_eq_false_iff_not] at h6; omega)
        all_goals
          refine e_iconst (v := -1) dX11_splitAt_9 rfl ?_
          refine e_ret (some _) rfl (r_int dX11_splitAt_10 rfl) ?_
          exact xq rfl rfl rfl rfl rfl rfl
    | true =>
      have e1 : sptR w (some i) y t = (if t = -1 then nI (w 0 + 1) else t) := by show (if csB w i y then _ else _) = _; rw [hb]; rfl
      have e2 : sptW w (some i) y = spcW w i y.toNatClampNeg := by show (if csB w i y then _ else _) = _; rw [hb]; rfl
      have e3 : sptA ai u sc w (some i) y = spaA ai u sc w i := by show (if csB w i y then _ else _) = _; rw [hb]; rfl
      have e4 : sptF fi u sc w (some i) y = actF fi u sc := by show (if csB w i y then _ else _) = _; rw [hb]; rfl
      rw [e1, e2, e3, e4]
      obtain ⟨hn, k, hk1, hk2, rfl, hkc⟩ := csB_ex iv hi hb
      rw [hkc]
      have r0 := splW_0 (key := k) hi hn
      have rl := splW_l (key := k) hi hn
      have ro := splW_o (key := k) hi hn
      have rc := splW_c (key := k) (q := 8558 + 6) hi hn (by omega)
      rw [oI_s]
      refine e_aload_n dX11_splitAt_0 rfl rfl ?_
      refine e_iload_n dX11_splitAt_1 rfl rfl ?_
      refine e_iload_n dX11_splitAt_2 rfl rfl ?_
      refine x_V2 (M' := mX11_canSplit) dX11_splitAt_3 ml_X11_82 ok_X11_canSplit (by decide) rfl im_X11_canSplit se_X11_canSplit (ct_X11_canSplit ‹_› ‹_› _ hq _) (Nat.le_of_ble_eq_true rfl) (by decide) (Nat.le_of_ble_eq_true rfl) ?_
      dsimp only; rw [hb]
      first | ((with_reducible refine mk_b ?_); refine b_if_ne (tgt := 11) dX11_splitAt_6 (by decide) (fun h6 => ?_) (fun h6 => ?_)) | ((with_reducible refine mk_ll ?_); refine m_if_ne (tgt := 11) dX11_splitAt_6 (by decide) (by omega) (by omega) (fun h6 => ?_) (fun h6 => ?_)) | ((with_reducible refine mk_lc ?_); refine l_if_ne (tgt := 11) dX11_splitAt_6 (by decide) (fun h6 => ?_) (fun h6 => ?_)) | ((with_reducible refine mk_n ?_); refine n_if_ne (tgt := 11) dX11_splitAt_6 (by decide) (by omega) (fun h6 => ?_) (fun h6 => ?_)) | refine e_if_ne (tgt := 11) dX11_splitAt_6 (by decide) (fun h6 => ?_) (fun h6 => ?_)
      · try first | contradiction | omega | (simp only [decide_eq_true_eq, decide_eq_false_iff_not] at h6; omega)
        all_goals
          refine e_aload_n dX11_splitAt_11 rfl rfl ?_
          refine y_V0 (M' := mX11_acts) dX11_splitAt_12 ml_X11_86 ok_X11_acts (by decide) rfl im_X11_acts se_X11_acts (ct_X11_acts ‹_› hu hu6 hsc) (Nat.le_of_ble_eq_true rfl) (by decide) (Nat.le_of_ble_eq_true rfl) ?_
          refine e_aload_n dX11_splitAt_15 rfl rfl ?_
          refine e_iload_n dX11_splitAt_16 rfl rfl ?_
          refine e_iload_n dX11_splitAt_17 rfl rfl ?_
          refine y_V2 (M' := mX11_splits) dX11_splitAt_18 ml_X11_89 ok_X11_splits (by decide) rfl im_X11_splits se_X11_splits (ct_X11_splits ‹_› ‹_› (by omega) (by omega)) (Nat.le_of_ble_eq_true rfl) (by decide) (Nat.le_of_ble_eq_true rfl) ?_
          refine e_aload_n dX11_splitAt_21 rfl rfl ?_
          refine e_iconst (v := nI 1) dX11_splitAt_22 rfl ?_
          refine e_aload_n dX11_splitAt_23 rfl rfl ?_
          refine e_getR dX11_splitAt_24 fl_X11_7 rfl (by assumption) ?_
          refine e_bipush (v := nI 10) dX11_splitAt_27 rfl ?_
          refine e_iload_n dX11_splitAt_29 rfl rfl ?_
          first | ((with_reducible refine mk_nn ?_); refine n_iadd dX11_splitAt_30 ?_) | refine e_iadd dX11_splitAt_30 ?_
          first | ((with_reducible refine mk_ldw ?_); refine e_ldw dX11_splitAt_31 (by omega) ?_) | refine e_iald _ dX11_splitAt_31 ⟨by decide, by decide⟩ rfl rfl (by simp only [lenK]; omega) ?_
          refine e_aload_n dX11_splitAt_32 rfl rfl ?_
          refine e_getR dX11_splitAt_33 fl_X11_7 rfl (by assumption) ?_
          refine e_bipush (v := nI 42) dX11_splitAt_36 rfl ?_
          refine e_iload_n dX11_splitAt_38 rfl rfl ?_
          first | ((with_reducible refine mk_nn ?_); refine n_iadd dX11_splitAt_39 ?_) | refine e_iadd dX11_splitAt_39 ?_
          first | ((with_reducible refine mk_ldw ?_); refine e_ldw dX11_splitAt_40 (by omega) ?_) | refine e_iald _ dX11_splitAt_40 ⟨by decide, by decide⟩ rfl rfl (by simp only [lenK]; omega) ?_
          rw [rl, ro]
          refine y_V3 (M' := mX11_notes) dX11_splitAt_41 ml_X11_93 ok_X11_notes (by decide) rfl im_X11_notes se_X11_notes (ct_X11_notes ‹_› (by rw [r0]; omega)) (Nat.le_of_ble_eq_true rfl) (by decide) (Nat.le_of_ble_eq_true rfl) ?_
          rw [r0]
          refine e_aload_n dX11_splitAt_44 rfl rfl ?_
          refine e_bipush (v := nI 6) dX11_splitAt_45 rfl ?_
          refine e_iconst (v := nI 1) dX11_splitAt_47 rfl ?_
          refine y_V2 (M' := mX11_counts) dX11_splitAt_48 ml_X11_97 ok_X11_counts (by decide) rfl im_X11_counts se_X11_counts (ct_X11_counts ‹_› (by omega)) (Nat.le_of_ble_eq_true rfl) (by decide) (Nat.le_of_ble_eq_true rfl) ?_
          rw [rc]
          refine e_iload_n dX11_splitAt_51 rfl rfl ?_
          refine e_iconst (v := -1) dX11_splitAt_52 rfl ?_
          first | ((with_reducible refine mk_mo ?_); refine p_icmp_ne (tgt := 65) dX11_splitAt_53 (by decide) (fun h53 => ?_) (fun h53 => ?_)) | ((with_reducible refine mk_ms ?_); refine s_icmp_ne (tgt := 65) dX11_splitAt_53 (by decide) (by omega) (fun h53 => ?_) (fun h53 => ?_)) | ((with_reducible refine mk_mn ?_); refine q_icmp_ne (tgt := 65) dX11_splitAt_53 (by decide) (by omega) (fun h53 => ?_) (fun h53 => ?_)) | ((with_reducible refine mk_nn ?_); refine n_icmp_ne (tgt := 65) dX11_splitAt_53 (by decide) (by omega) (by omega) (fun h53 => ?_) (fun h53 => ?_)) | refine e_icmp_ne (tgt := 65) dX11_splitAt_53 (by decide) (fun h53 => ?_) (fun h53 => ?_)
          · try first | contradiction | omega
            all_goals
              refine e_iload_n dX11_splitAt_65 rfl rfl ?_
              refine e_ret (some _) rfl (r_int dX11_splitAt_66 rfl) ?_
              refine xq ?_ rfl rfl rfl rfl rfl
              first | (rw [if_pos (by assumption), upN_n (by omega), r0]; done) | (rw [if_neg (by assumption)]; done)
          · try first | contradiction | omega
            all_goals
              refine e_aload_n dX11_splitAt_56 rfl rfl ?_
              refine e_getR dX11_splitAt_57 fl_X11_7 rfl (by assumption) ?_
              refine e_iconst (v := nI 0) dX11_splitAt_60 rfl ?_
              first | ((with_reducible refine mk_ldw ?_); refine e_ldw dX11_splitAt_61 (by omega) ?_) | refine e_iald _ dX11_splitAt_61 ⟨by decide, by decide⟩ rfl rfl (by simp only [lenK]; omega) ?_
              refine e_goto (tgt := 66) dX11_splitAt_62 (by decide) ?_
              refine e_ret (some _) rfl (r_int dX11_splitAt_66 rfl) ?_
              refine xq ?_ rfl rfl rfl rfl rfl
              first | (rw [if_pos (by assumption), upN_n (by omega), r0]; done) | (rw [if_neg (by assumption)]; done)
      · try first | contradiction | omega | (simp only [decide_eq_true_eq, decide_eq_false_iff_not] at h6; omega)
        all_goals
          refine e_iconst (v := -1) dX11_splitAt_9 rfl ?_
          refine e_ret (some _) rfl (r_int dX11_splitAt_10 rfl) ?_
          refine xq ?_ rfl rfl rfl rfl rfl
          first | (rw [if_pos (by assumption), upN_n (by omega), r0]; done) | (rw [if_neg (by assumption)]; done)
