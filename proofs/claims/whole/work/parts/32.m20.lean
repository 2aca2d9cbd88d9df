def cuS (w : Nat → Nat) (m : Nat) : Nat → Nat → Nat
  | 0 => w
  | k + 1 => upN (cuS w m k) (1106 + 1000 * w (7694 + 72 * m + 4) + w (7694 + 72 * m + 12 + k)) (cuS w m k (1106 + 1000 * w (7694 + 72 * m + 3) + w (7694 + 72 * m + 12 + k)))
theorem cuS_s (w : Nat → Nat) (m k : Nat) : cuS w m (k + 1) = upN (cuS w m k) (1106 + 1000 * w (7694 + 72 * m + 4) + w (7694 + 72 * m + 12 + k)) (cuS w m k (1106 + 1000 * w (7694 + 72 * m + 3) + w (7694 + 72 * m + 12 + k))) := rfl
theorem cuS_in {w : Nat → Nat} (iv : Inv w) {m : Nat} (hm : m < w 3) : ∀ j, j ≤ w (7694 + 72 * m + 6) → (∀ q, (q < 1106 ∨ 7106 ≤ q) → cuS w m j q = w q) ∧ (∀ i, i < 6000 → cuS w m j (1106 + i) ≤ 99999)
  | 0, _ => ⟨fun _ _ => rfl, fun i hi => iv_va iv hi⟩
  | j + 1, hj => by
    obtain ⟨h1, h2⟩ := cuS_in iv hm j (by omega)
    have hq := iv_mv iv hm
    have ht := hq.2.2.2.2.2.2.2.2.2.2.2 j (by omega)
    have hv := h2 (1000 * w (7694 + 72 * m + 3) + w (7694 + 72 * m + 12 + j)) (by omega)
    rw [← Nat.add_assoc] at hv
    rw [cuS_s]
    refine ⟨fun q hq => by rw [upN_n (by omega)]; exact h1 q hq, fun i hi => ?_⟩
    unfold upN
    split
    · exact hv
    · exact h2 i hi
def tsF (w : Nat → Nat) (m n j : Nat) : Nat → Nat := fun q => if 7694 + 72 * m + 12 ≤ q ∧ q < 7694 + 72 * m + 12 + j then w (q + n) else w q
theorem tsF_0 (w : Nat → Nat) (m n : Nat) : tsF w m n 0 = w := by
  funext q
  exact if_neg (by omega)
theorem tsF_s (w : Nat → Nat) (m n j : Nat) : upN (tsF w m n j) (7694 + 72 * m + 12 + j) (w (7694 + 72 * m + 12 + j + n)) = tsF w m n (j + 1) := by
  funext q
  unfold upN tsF
  repeat' split
  all_goals first | rfl | omega | (congr 1; omega)
theorem tsF_fr {w : Nat → Nat} {m n j q : Nat} (h : q < 7694 + 72 * m + 12 ∨ 7694 + 72 * m + 12 + j ≤ q) : tsF w m n j q = w q := if_neg (by omega)
def cuN (w : Nat → Nat) (m ch : Nat) : Nat := if ch < w (7694 + 72 * m + 6) then ch else w (7694 + 72 * m + 6)
def catW (w : Nat → Nat) (m ch : Nat) : Nat → Nat := upN (upN (tsF (cuS w m (cuN w m ch)) m (cuN w m ch) (w (7694 + 72 * m + 6) - cuN w m ch)) (7694 + 72 * m + 6) (w (7694 + 72 * m + 6) - cuN w m ch)) (8558 + 13) (w (8558 + 13) + cuN w m ch)
def swiW (w : Nat → Nat) (m : Nat) : Nat → Nat := upN (upN (upN (upN (upN (upN w 0 (w 0 + 1)) (42 + spW w (w (7694 + 72 * m + 1))) (w (7694 + 72 * m + 4))) (74 + spW w (w (7694 + 72 * m + 1))) (w 0 + 1)) (7694 + 72 * m + 11) (w 0 + 1)) (7694 + 72 * m + 0) 4) (7694 + 72 * m + 5) (w (7694 + 72 * m + 1))
def swiA (ai : FI) (w : Nat → Nat) (m : Nat) : FI := notA ai (w 0 + 1) 3 (w (7694 + 72 * m + 1)) (w (7694 + 72 * m + 4))
def gonW (w : Nat → Nat) (m ch : Nat) (cl : Bool) : Nat → Nat := if govN w m ch cl = ch then govW w m ch cl else
  (if cl then upN (upN (upN (govW w m ch cl) (7694 + 72 * m + 0) 5) (7694 + 72 * m + 5) (w (7694 + 72 * m + 2))) (8558 + 9) (w (8558 + 9) + 1)
   else upN (upN (govW w m ch cl) (7694 + 72 * m + 0) 2) (7694 + 72 * m + 5) (w (7694 + 72 * m + 2)))
theorem ct_X11_catchesUp {fi : FI} {fr : FR} {ai : FI} {ar : FR} {N : Nat} {w : Nat → Nat} (sm : SM fr) (iv : Inv w) {m ch : Nat} (hm : m < w 3) (hch : ch ≤ 16) : CP mX11_catchesUp 1 0 0 [.ref (rf 11 80), .int (nI (7694 + 72 * m)), .int (nI ch)] fi fr (mW ai w) ar N (xQ none fi fr (mW ai (catW w m ch)) ar N) := by
  obtain ⟨sW, sA0, sK, sU, sC, sKC, sT, sCl⟩ := id sm
  have hq := iv_mv iv hm
  have h3 := iv_mm iv
  change EV mX11_catchesUp 1 0 0 0 [some (.ref (rf 11 80)), some (.int (nI (7694 + 72 * m))), some (.int (nI ch)), none, none, none] [] fi fr (mW ai w) ar N (xQ none fi fr (mW ai (catW w m ch)) ar N)
  have hn6 : cuN w m ch ≤ w (7694 + 72 * m + 6) := by unfold cuN; split <;> omega
  obtain ⟨g1, g2⟩ := cuS_in iv hm (cuN w m ch) hn6
  have r6 := g1 (7694 + 72 * m + 6) (by omega)
  have rc := g1 (8558 + 13) (by omega)
  have key2 := ev_up (P := fun j => EV mX11_catchesUp 1 0 0 95 [some (.ref (rf 11 80)), some (.int (nI (7694 + 72 * m))), some (.int (nI ch)), some (.int (nI (cuN w m ch))), some (.int (nI (cuN w m ch + j))), none] [] fi fr (mW ai (tsF (cuS w m (cuN w m ch)) m (cuN w m ch) j)) ar N (xQ none fi fr (mW ai (catW w m ch)) ar N)) (w (7694 + 72 * m + 6) - cuN w m ch) (fun j hj ih => by
    have t6 : tsF (cuS w m (cuN w m ch)) m (cuN w m ch) j (7694 + 72 * m + 6) = w (7694 + 72 * m + 6) := by rw [tsF_fr (by omega), r6]
    have tk : tsF (cuS w m (cuN w m ch)) m (cuN w m ch) j (7694 + 72 * m + 12 + (cuN w m ch + j)) = cuS w m (cuN w m ch) (7694 + 72 * m + 12 + j + cuN w m ch) := by rw [tsF_fr (by omega)]; congr 1; omega
    refine e_iload dX11_catchesUp_95 rfl ?_
    refine e_aload_n dX11_catchesUp_97 rfl rfl ?_
    refine e_getR dX11_catchesUp_98 fl_X11_7 rfl (by assumption) ?_
    refine e_iload_n dX11_catchesUp_101 rfl rfl ?_
    refine e_bipush (v := nI 6) dX11_catchesUp_102 rfl ?_
    first | ((with_reducible refine mk_nn ?_); refine n_iadd dX11_catchesUp_104 ?_) | refine e_iadd dX11_catchesUp_104 ?_
    first | ((with_reducible refine mk_ldw ?_); refine e_ldw dX11_catchesUp_105 (by omega) ?_) | refine e_iald _ dX11_catchesUp_105 ⟨by decide, by decide⟩ rfl rfl (by simp only [lenK]; omega) ?_
    rw [t6]
    first | ((with_reducible refine mk_nn ?_); refine n_icmp_ge (tgt := 141) dX11_catchesUp_106 (by decide) (by omega) (by omega) (fun h106 => ?_) (fun h106 => ?_)) | refine e_icmp_ge (tgt := 141) dX11_catchesUp_106 (by decide) (fun h106 => ?_) (fun h106 => ?_)
    · try first | contradiction | omega
      all_goals
        refine e_aload_n dX11_catchesUp_141 rfl rfl ?_
        refine e_getR dX11_catchesUp_142 fl_X11_7 rfl (by assumption) ?_
        refine e_iload_n dX11_catchesUp_145 rfl rfl ?_
        refine e_bipush (v := nI 6) dX11_catchesUp_146 rfl ?_
        first | ((with_reducible refine mk_nn ?_); refine n_iadd dX11_catchesUp_148 ?_) | refine e_iadd dX11_catchesUp_148 ?_
        refine e_dup2 dX11_catchesUp_149 rfl rfl ?_
        first | ((with_reducible refine mk_ldw ?_); refine e_ldw dX11_catchesUp_150 (by omega) ?_) | refine e_iald _ dX11_catchesUp_150 ⟨by decide, by decide⟩ rfl rfl (by simp only [lenK]; omega) ?_
        refine e_iload_n dX11_catchesUp_151 rfl rfl ?_
        first | ((with_reducible refine mk_nn ?_); refine n_isub dX11_catchesUp_152 (by omega) ?_) | refine e_isub dX11_catchesUp_152 ?_
        first | ((with_reducible refine mk_stw ?_); refine e_stw dX11_catchesUp_153 (by omega) ?_) | refine e_iast _ dX11_catchesUp_153 ⟨by decide, by decide⟩ rfl rfl (by simp only [lenK]; omega) ?_
        refine e_aload_n dX11_catchesUp_154 rfl rfl ?_
        refine e_bipush (v := nI 13) dX11_catchesUp_155 rfl ?_
        refine e_iload_n dX11_catchesUp_157 rfl rfl ?_
        refine y_V2 (M' := mX11_counts) dX11_catchesUp_158 ml_X11_97 ok_X11_counts (by decide) rfl im_X11_counts se_X11_counts (ct_X11_counts ‹_› (by omega)) (Nat.le_of_ble_eq_true rfl) (by decide) (Nat.le_of_ble_eq_true rfl) ?_
        refine e_ret none rfl (r_void dX11_catchesUp_161 rfl) ?_
        exact xq (by first | rfl | simp_all [bI_t, bI_f]) rfl rfl rfl rfl rfl
    · try first | contradiction | omega
      all_goals
        refine e_aload_n dX11_catchesUp_109 rfl rfl ?_
        refine e_getR dX11_catchesUp_110 fl_X11_7 rfl (by assumption) ?_
        refine e_iload_n dX11_catchesUp_113 rfl rfl ?_
        refine e_bipush (v := nI 12) dX11_catchesUp_114 rfl ?_
        first | ((with_reducible refine mk_nn ?_); refine n_iadd dX11_catchesUp_116 ?_) | refine e_iadd dX11_catchesUp_116 ?_
        refine e_iload dX11_catchesUp_117 rfl ?_
        first | ((with_reducible refine mk_nn ?_); refine n_iadd dX11_catchesUp_119 ?_) | refine e_iadd dX11_catchesUp_119 ?_
        refine e_iload_n dX11_catchesUp_120 rfl rfl ?_
        first | ((with_reducible refine mk_nn ?_); refine n_isub dX11_catchesUp_121 (by omega) ?_) | refine e_isub dX11_catchesUp_121 ?_
        refine e_aload_n dX11_catchesUp_122 rfl rfl ?_
        refine e_getR dX11_catchesUp_123 fl_X11_7 rfl (by assumption) ?_
        refine e_iload_n dX11_catchesUp_126 rfl rfl ?_
        refine e_bipush (v := nI 12) dX11_catchesUp_127 rfl ?_
        first | ((with_reducible refine mk_nn ?_); refine n_iadd dX11_catchesUp_129 ?_) | refine e_iadd dX11_catchesUp_129 ?_
        refine e_iload dX11_catchesUp_130 rfl ?_
        first | ((with_reducible refine mk_nn ?_); refine n_iadd dX11_catchesUp_132 ?_) | refine e_iadd dX11_catchesUp_132 ?_
        first | ((with_reducible refine mk_ldw ?_); refine e_ldw dX11_catchesUp_133 (by omega) ?_) | refine e_iald _ dX11_catchesUp_133 ⟨by decide, by decide⟩ rfl rfl (by simp only [lenK]; omega) ?_
        rw [tk]
        first | ((with_reducible refine mk_stw ?_); refine e_stw dX11_catchesUp_134 (by omega) ?_) | refine e_iast _ dX11_catchesUp_134 ⟨by decide, by decide⟩ rfl rfl (by simp only [lenK]; omega) ?_
        first | refine n_inc dX11_catchesUp_135 rfl (Nat.le_of_ble_eq_true rfl) rfl ?_ | refine e_iinc dX11_catchesUp_135 rfl rfl (Nat.le_of_ble_eq_true rfl) rfl ?_
        refine e_goto (tgt := 95) dX11_catchesUp_138 (by decide) ?_
        rw [show 7694 + 72 * m + 12 + (cuN w m ch + j) - cuN w m ch = 7694 + 72 * m + 12 + j by omega, tsF_s]
        exact ih
    ) (by
    have t6 : tsF (cuS w m (cuN w m ch)) m (cuN w m ch) (w (7694 + 72 * m + 6) - cuN w m ch) (7694 + 72 * m + 6) = w (7694 + 72 * m + 6) := by rw [tsF_fr (by omega), r6]
    have tc : tsF (cuS w m (cuN w m ch)) m (cuN w m ch) (w (7694 + 72 * m + 6) - cuN w m ch) (8558 + 13) = w (8558 + 13) := by rw [tsF_fr (by omega), rc]
    refine e_iload dX11_catchesUp_95 rfl ?_
    refine e_aload_n dX11_catchesUp_97 rfl rfl ?_
    refine e_getR dX11_catchesUp_98 fl_X11_7 rfl (by assumption) ?_
    refine e_iload_n dX11_catchesUp_101 rfl rfl ?_
    refine e_bipush (v := nI 6) dX11_catchesUp_102 rfl ?_
    first | ((with_reducible refine mk_nn ?_); refine n_iadd dX11_catchesUp_104 ?_) | refine e_iadd dX11_catchesUp_104 ?_
    first | ((with_reducible refine mk_ldw ?_); refine e_ldw dX11_catchesUp_105 (by omega) ?_) | refine e_iald _ dX11_catchesUp_105 ⟨by decide, by decide⟩ rfl rfl (by simp only [lenK]; omega) ?_
    rw [t6]
    first | ((with_reducible refine mk_nn ?_); refine n_icmp_ge (tgt := 141) dX11_catchesUp_106 (by decide) (by omega) (by omega) (fun h106 => ?_) (fun h106 => ?_)) | refine e_icmp_ge (tgt := 141) dX11_catchesUp_106 (by decide) (fun h106 => ?_) (fun h106 => ?_)
    · try first | contradiction | omega
      all_goals
        refine e_aload_n dX11_catchesUp_141 rfl rfl ?_
        refine e_getR dX11_catchesUp_142 fl_X11_7 rfl (by assumption) ?_
        refine e_iload_n dX11_catchesUp_145 rfl rfl ?_
        refine e_bipush (v := nI 6) dX11_catchesUp_146 rfl ?_
        first | ((with_reducible refine mk_nn ?_); refine n_iadd dX11_catchesUp_148 ?_) | refine e_iadd dX11_catchesUp_148 ?_
        refine e_dup2 dX11_catchesUp_149 rfl rfl ?_
        first | ((with_reducible refine mk_ldw ?_); refine e_ldw dX11_catchesUp_150 (by omega) ?_) | refine e_iald _ dX11_catchesUp_150 ⟨by decide, by decide⟩ rfl rfl (by simp only [lenK]; omega) ?_
        rw [t6]
        refine e_iload_n dX11_catchesUp_151 rfl rfl ?_
        first | ((with_reducible refine mk_nn ?_); refine n_isub dX11_catchesUp_152 (by omega) ?_) | refine e_isub dX11_catchesUp_152 ?_
        first | ((with_reducible refine mk_stw ?_); refine e_stw dX11_catchesUp_153 (by omega) ?_) | refine e_iast _ dX11_catchesUp_153 ⟨by decide, by decide⟩ rfl rfl (by simp only [lenK]; omega) ?_
        refine e_aload_n dX11_catchesUp_154 rfl rfl ?_
        refine e_bipush (v := nI 13) dX11_catchesUp_155 rfl ?_
        refine e_iload_n dX11_catchesUp_157 rfl rfl ?_
        refine y_V2 (M' := mX11_counts) dX11_catchesUp_158 ml_X11_97 ok_X11_counts (by decide) rfl im_X11_counts se_X11_counts (ct_X11_counts ‹_› (by omega)) (Nat.le_of_ble_eq_true rfl) (by decide) (Nat.le_of_ble_eq_true rfl) ?_
        refine e_ret none rfl (r_void dX11_catchesUp_161 rfl) ?_
        refine xq rfl rfl rfl ?_ rfl rfl
        simp (disch := omega) only [upN_n, tc]
        rfl
    · try first | contradiction | omega
      all_goals
        refine e_aload_n dX11_catchesUp_109 rfl rfl ?_
        refine e_getR dX11_catchesUp_110 fl_X11_7 rfl (by assumption) ?_
        refine e_iload_n dX11_catchesUp_113 rfl rfl ?_
        refine e_bipush (v := nI 12) dX11_catchesUp_114 rfl ?_
        first | ((with_reducible refine mk_nn ?_); refine n_iadd dX11_catchesUp_116 ?_) | refine e_iadd dX11_catchesUp_116 ?_
        refine e_iload dX11_catchesUp_117 rfl ?_
        first | ((with_reducible refine mk_nn ?_); refine n_iadd dX11_catchesUp_119 ?_) | refine e_iadd dX11_catchesUp_119 ?_
        refine e_iload_n dX11_catchesUp_120 rfl rfl ?_
        first | ((with_reducible refine mk_nn ?_); refine n_isub dX11_catchesUp_121 (by omega) ?_) | refine e_isub dX11_catchesUp_121 ?_
        refine e_aload_n dX11_catchesUp_122 rfl rfl ?_
        refine e_getR dX11_catchesUp_123 fl_X11_7 rfl (by assumption) ?_
        refine e_iload_n dX11_catchesUp_126 rfl rfl ?_
        refine e_bipush (v := nI 12) dX11_catchesUp_127 rfl ?_
        first | ((with_reducible refine mk_nn ?_); refine n_iadd dX11_catchesUp_129 ?_) | refine e_iadd dX11_catchesUp_129 ?_
        refine e_iload dX11_catchesUp_130 rfl ?_
        first | ((with_reducible refine mk_nn ?_); refine n_iadd dX11_catchesUp_132 ?_) | refine e_iadd dX11_catchesUp_132 ?_
        first | ((with_reducible refine mk_ldw ?_); refine e_ldw dX11_catchesUp_133 (by omega) ?_) | refine e_iald _ dX11_catchesUp_133 ⟨by decide, by decide⟩ rfl rfl (by simp only [lenK]; omega) ?_
        first | ((with_reducible refine mk_stw ?_); refine e_stw dX11_catchesUp_134 (by omega) ?_) | refine e_iast _ dX11_catchesUp_134 ⟨by decide, by decide⟩ rfl rfl (by simp only [lenK]; omega) ?_
        first | refine n_inc dX11_catchesUp_135 rfl (Nat.le_of_ble_eq_true rfl) rfl ?_ | refine e_iinc dX11_catchesUp_135 rfl rfl (Nat.le_of_ble_eq_true rfl) rfl ?_
        refine e_goto (tgt := 95) dX11_catchesUp_138 (by decide) ?_
        contradiction
    )
  have key1 := ev_up (P := fun j => EV mX11_catchesUp 1 0 0 30 [some (.ref (rf 11 80)), some (.int (nI (7694 + 72 * m))), some (.int (nI ch)), some (.int (nI (cuN w m ch))), some (.int (nI j)), none] [] fi fr (mW ai (cuS w m j)) ar N (xQ none fi fr (mW ai (catW w m ch)) ar N)) (cuN w m ch) (fun j hj ih => by
    obtain ⟨f1, f2⟩ := cuS_in iv hm j (by omega)
    have e3 := f1 (7694 + 72 * m + 3) (by omega)
    have e4 := f1 (7694 + 72 * m + 4) (by omega)
    have et := f1 (7694 + 72 * m + 12 + j) (by omega)
    have ht := hq.2.2.2.2.2.2.2.2.2.2.2 j (by omega)
    refine e_iload dX11_catchesUp_30 rfl ?_
    refine e_iload_n dX11_catchesUp_32 rfl rfl ?_
    first | ((with_reducible refine mk_nn ?_); refine n_icmp_ge (tgt := 92) dX11_catchesUp_33 (by decide) (by omega) (by omega) (fun h33 => ?_) (fun h33 => ?_)) | refine e_icmp_ge (tgt := 92) dX11_catchesUp_33 (by decide) (fun h33 => ?_) (fun h33 => ?_)
    · try first | contradiction | omega
      all_goals
        refine e_iload_n dX11_catchesUp_92 rfl rfl ?_
        refine e_istore dX11_catchesUp_93 (Nat.le_of_ble_eq_true rfl) rfl ?_
        contradiction
    · try first | contradiction | omega
      all_goals
        refine e_aload_n dX11_catchesUp_36 rfl rfl ?_
        refine e_getR dX11_catchesUp_37 fl_X11_7 rfl (by assumption) ?_
        refine e_iload_n dX11_catchesUp_40 rfl rfl ?_
        refine e_bipush (v := nI 12) dX11_catchesUp_41 rfl ?_
        first | ((with_reducible refine mk_nn ?_); refine n_iadd dX11_catchesUp_43 ?_) | refine e_iadd dX11_catchesUp_43 ?_
        refine e_iload dX11_catchesUp_44 rfl ?_
        first | ((with_reducible refine mk_nn ?_); refine n_iadd dX11_catchesUp_46 ?_) | refine e_iadd dX11_catchesUp_46 ?_
        first | ((with_reducible refine mk_ldw ?_); refine e_ldw dX11_catchesUp_47 (by omega) ?_) | refine e_iald _ dX11_catchesUp_47 ⟨by decide, by decide⟩ rfl rfl (by simp only [lenK]; omega) ?_
        rw [et]
        refine e_istore dX11_catchesUp_48 (Nat.le_of_ble_eq_true rfl) rfl ?_
        refine e_aload_n dX11_catchesUp_50 rfl rfl ?_
        refine e_getR dX11_catchesUp_51 fl_X11_7 rfl (by assumption) ?_
        refine e_aload_n dX11_catchesUp_54 rfl rfl ?_
        refine e_getR dX11_catchesUp_55 fl_X11_7 rfl (by assumption) ?_
        refine e_iload_n dX11_catchesUp_58 rfl rfl ?_
        refine e_iconst (v := nI 4) dX11_catchesUp_59 rfl ?_
        first | ((with_reducible refine mk_nn ?_); refine n_iadd dX11_catchesUp_60 ?_) | refine e_iadd dX11_catchesUp_60 ?_
        first | ((with_reducible refine mk_ldw ?_); refine e_ldw dX11_catchesUp_61 (by omega) ?_) | refine e_iald _ dX11_catchesUp_61 ⟨by decide, by decide⟩ rfl rfl (by simp only [lenK]; omega) ?_
        rw [e4]
        refine e_iload dX11_catchesUp_62 rfl ?_
        refine x_S2 (M' := mX11_storeAt) dX11_catchesUp_64 ml_X11_136 ok_X11_storeAt rfl sc_X11_storeAt (ct_X11_storeAt) (Nat.le_of_ble_eq_true rfl) (by decide) (Nat.le_of_ble_eq_true rfl) ?_
        refine e_aload_n dX11_catchesUp_67 rfl rfl ?_
        refine e_getR dX11_catchesUp_68 fl_X11_7 rfl (by assumption) ?_
        refine e_aload_n dX11_catchesUp_71 rfl rfl ?_
        refine e_getR dX11_catchesUp_72 fl_X11_7 rfl (by assumption) ?_
        refine e_iload_n dX11_catchesUp_75 rfl rfl ?_
        refine e_iconst (v := nI 3) dX11_catchesUp_76 rfl ?_
        first | ((with_reducible refine mk_nn ?_); refine n_iadd dX11_catchesUp_77 ?_) | refine e_iadd dX11_catchesUp_77 ?_
        first | ((with_reducible refine mk_ldw ?_); refine e_ldw dX11_catchesUp_78 (by omega) ?_) | refine e_iald _ dX11_catchesUp_78 ⟨by decide, by decide⟩ rfl rfl (by simp only [lenK]; omega) ?_
        rw [e3]
        refine e_iload dX11_catchesUp_79 rfl ?_
        refine x_S2 (M' := mX11_storeAt) dX11_catchesUp_81 ml_X11_136 ok_X11_storeAt rfl sc_X11_storeAt (ct_X11_storeAt) (Nat.le_of_ble_eq_true rfl) (by decide) (Nat.le_of_ble_eq_true rfl) ?_
        first | ((with_reducible refine mk_ldw ?_); refine e_ldw dX11_catchesUp_84 (by omega) ?_) | refine e_iald _ dX11_catchesUp_84 ⟨by decide, by decide⟩ rfl rfl (by simp only [lenK]; omega) ?_
        first | ((with_reducible refine mk_stw ?_); refine e_stw dX11_catchesUp_85 (by omega) ?_) | refine e_iast _ dX11_catchesUp_85 ⟨by decide, by decide⟩ rfl rfl (by simp only [lenK]; omega) ?_
        first | refine n_inc dX11_catchesUp_86 rfl (Nat.le_of_ble_eq_true rfl) rfl ?_ | refine e_iinc dX11_catchesUp_86 rfl rfl (Nat.le_of_ble_eq_true rfl) rfl ?_
        refine e_goto (tgt := 30) dX11_catchesUp_89 (by decide) ?_
        rw [cuS_s] at ih
        exact EV_ls (by repeat (first | exact lsub_0 | refine lsub_n ?_ | refine lsub_s ?_)) ih
    ) (by
    have kk := key2 0 (by omega)
    rw [tsF_0] at kk
    refine e_iload dX11_catchesUp_30 rfl ?_
    refine e_iload_n dX11_catchesUp_32 rfl rfl ?_
    first | ((with_reducible refine mk_nn ?_); refine n_icmp_ge (tgt := 92) dX11_catchesUp_33 (by decide) (by omega) (by omega) (fun h33 => ?_) (fun h33 => ?_)) | refine e_icmp_ge (tgt := 92) dX11_catchesUp_33 (by decide) (fun h33 => ?_) (fun h33 => ?_)
    · try first | contradiction | omega
      all_goals
        refine e_iload_n dX11_catchesUp_92 rfl rfl ?_
        refine e_istore dX11_catchesUp_93 (Nat.le_of_ble_eq_true rfl) rfl ?_
        exact EV_ls (by repeat (first | exact lsub_0 | refine lsub_n ?_ | refine lsub_s ?_)) kk
    · try first | contradiction | omega
      all_goals
        refine e_aload_n dX11_catchesUp_36 rfl rfl ?_
        refine e_getR dX11_catchesUp_37 fl_X11_7 rfl (by assumption) ?_
        refine e_iload_n dX11_catchesUp_40 rfl rfl ?_
        refine e_bipush (v := nI 12) dX11_catchesUp_41 rfl ?_
        first | ((with_reducible refine mk_nn ?_); refine n_iadd dX11_catchesUp_43 ?_) | refine e_iadd dX11_catchesUp_43 ?_
        refine e_iload dX11_catchesUp_44 rfl ?_
        first | ((with_reducible refine mk_nn ?_); refine n_iadd dX11_catchesUp_46 ?_) | refine e_iadd dX11_catchesUp_46 ?_
        first | ((with_reducible refine mk_ldw ?_); refine e_ldw dX11_catchesUp_47 (by omega) ?_) | refine e_iald _ dX11_catchesUp_47 ⟨by decide, by decide⟩ rfl rfl (by simp only [lenK]; omega) ?_
        refine e_istore dX11_catchesUp_48 (Nat.le_of_ble_eq_true rfl) rfl ?_
        refine e_aload_n dX11_catchesUp_50 rfl rfl ?_
        refine e_getR dX11_catchesUp_51 fl_X11_7 rfl (by assumption) ?_
        refine e_aload_n dX11_catchesUp_54 rfl rfl ?_
        refine e_getR dX11_catchesUp_55 fl_X11_7 rfl (by assumption) ?_
        refine e_iload_n dX11_catchesUp_58 rfl rfl ?_
        refine e_iconst (v := nI 4) dX11_catchesUp_59 rfl ?_
        first | ((with_reducible refine mk_nn ?_); refine n_iadd dX11_catchesUp_60 ?_) | refine e_iadd dX11_catchesUp_60 ?_
        first | ((with_reducible refine mk_ldw ?_); refine e_ldw dX11_catchesUp_61 (by omega) ?_) | refine e_iald _ dX11_catchesUp_61 ⟨by decide, by decide⟩ rfl rfl (by simp only [lenK]; omega) ?_
        refine e_iload dX11_catchesUp_62 rfl ?_
        refine x_S2 (M' := mX11_storeAt) dX11_catchesUp_64 ml_X11_136 ok_X11_storeAt rfl sc_X11_storeAt (ct_X11_storeAt) (Nat.le_of_ble_eq_true rfl) (by decide) (Nat.le_of_ble_eq_true rfl) ?_
        refine e_aload_n dX11_catchesUp_67 rfl rfl ?_
        refine e_getR dX11_catchesUp_68 fl_X11_7 rfl (by assumption) ?_
        refine e_aload_n dX11_catchesUp_71 rfl rfl ?_
        refine e_getR dX11_catchesUp_72 fl_X11_7 rfl (by assumption) ?_
        refine e_iload_n dX11_catchesUp_75 rfl rfl ?_
        refine e_iconst (v := nI 3) dX11_catchesUp_76 rfl ?_
        first | ((with_reducible refine mk_nn ?_); refine n_iadd dX11_catchesUp_77 ?_) | refine e_iadd dX11_catchesUp_77 ?_
        first | ((with_reducible refine mk_ldw ?_); refine e_ldw dX11_catchesUp_78 (by omega) ?_) | refine e_iald _ dX11_catchesUp_78 ⟨by decide, by decide⟩ rfl rfl (by simp only [lenK]; omega) ?_
        refine e_iload dX11_catchesUp_79 rfl ?_
        refine x_S2 (M' := mX11_storeAt) dX11_catchesUp_81 ml_X11_136 ok_X11_storeAt rfl sc_X11_storeAt (ct_X11_storeAt) (Nat.le_of_ble_eq_true rfl) (by decide) (Nat.le_of_ble_eq_true rfl) ?_
        first | ((with_reducible refine mk_ldw ?_); refine e_ldw dX11_catchesUp_84 (by omega) ?_) | refine e_iald _ dX11_catchesUp_84 ⟨by decide, by decide⟩ rfl rfl (by simp only [lenK]; omega) ?_
        first | ((with_reducible refine mk_stw ?_); refine e_stw dX11_catchesUp_85 (by omega) ?_) | refine e_iast _ dX11_catchesUp_85 ⟨by decide, by decide⟩ rfl rfl (by simp only [lenK]; omega) ?_
        first | refine n_inc dX11_catchesUp_86 rfl (Nat.le_of_ble_eq_true rfl) rfl ?_ | refine e_iinc dX11_catchesUp_86 rfl rfl (Nat.le_of_ble_eq_true rfl) rfl ?_
        refine e_goto (tgt := 30) dX11_catchesUp_89 (by decide) ?_
        contradiction
    )
  have kk := key1 0 (by omega)
  refine e_iload_n dX11_catchesUp_0 rfl rfl ?_
  refine e_aload_n dX11_catchesUp_1 rfl rfl ?_
  refine e_getR dX11_catchesUp_2 fl_X11_7 rfl (by assumption) ?_
  refine e_iload_n dX11_catchesUp_5 rfl rfl ?_
  refine e_bipush (v := nI 6) dX11_catchesUp_6 rfl ?_
  first | ((with_reducible refine mk_nn ?_); refine n_iadd dX11_catchesUp_8 ?_) | refine e_iadd dX11_catchesUp_8 ?_
  first | ((with_reducible refine mk_ldw ?_); refine e_ldw dX11_catchesUp_9 (by omega) ?_) | refine e_iald _ dX11_catchesUp_9 ⟨by decide, by decide⟩ rfl rfl (by simp only [lenK]; omega) ?_
  first | ((with_reducible refine mk_nn ?_); refine n_icmp_ge (tgt := 17) dX11_catchesUp_10 (by decide) (by omega) (by omega) (fun h10 => ?_) (fun h10 => ?_)) | refine e_icmp_ge (tgt := 17) dX11_catchesUp_10 (by decide) (fun h10 => ?_) (fun h10 => ?_)
  · try first | contradiction | omega
    all_goals
      refine e_aload_n dX11_catchesUp_17 rfl rfl ?_
      refine e_getR dX11_catchesUp_18 fl_X11_7 rfl (by assumption) ?_
      refine e_iload_n dX11_catchesUp_21 rfl rfl ?_
      refine e_bipush (v := nI 6) dX11_catchesUp_22 rfl ?_
      first | ((with_reducible refine mk_nn ?_); refine n_iadd dX11_catchesUp_24 ?_) | refine e_iadd dX11_catchesUp_24 ?_
      first | ((with_reducible refine mk_ldw ?_); refine e_ldw dX11_catchesUp_25 (by omega) ?_) | refine e_iald _ dX11_catchesUp_25 ⟨by decide, by decide⟩ rfl rfl (by simp only [lenK]; omega) ?_
      refine e_istore_n dX11_catchesUp_26 rfl (Nat.le_of_ble_eq_true rfl) rfl ?_
      refine e_iconst (v := nI 0) dX11_catchesUp_27 rfl ?_
      refine e_istore dX11_catchesUp_28 (Nat.le_of_ble_eq_true rfl) rfl ?_
      first | (rw [show cuN w m ch = ch from if_pos (by omega)] at kk; refine EV_ls ?_ kk; repeat (first | exact lsub_0 | refine lsub_n ?_ | refine lsub_s ?_)) | (rw [show cuN w m ch = w (7694 + 72 * m + 6) from if_neg (by omega)] at kk; refine EV_ls ?_ kk; repeat (first | exact lsub_0 | refine lsub_n ?_ | refine lsub_s ?_))
  · try first | contradiction | omega
    all_goals
      refine e_iload_n dX11_catchesUp_13 rfl rfl ?_
      refine e_goto (tgt := 26) dX11_catchesUp_14 (by decide) ?_
      refine e_istore_n dX11_catchesUp_26 rfl (Nat.le_of_ble_eq_true rfl) rfl ?_
      refine e_iconst (v := nI 0) dX11_catchesUp_27 rfl ?_
      refine e_istore dX11_catchesUp_28 (Nat.le_of_ble_eq_true rfl) rfl ?_
      first | (rw [show cuN w m ch = ch from if_pos (by omega)] at kk; refine EV_ls ?_ kk; repeat (first | exact lsub_0 | refine lsub_n ?_ | refine lsub_s ?_)) | (rw [show cuN w m ch = w (7694 + 72 * m + 6) from if_neg (by omega)] at kk; refine EV_ls ?_ kk; repeat (first | exact lsub_0 | refine lsub_n ?_ | refine lsub_s ?_))
theorem ct_X11_switches {fi : FI} {fr : FR} {ai : FI} {ar : FR} {N : Nat} {w : Nat → Nat} (sm : SM fr) (iv : Inv w) {m : Nat} (hm : m < w 3) : CP mX11_switches 1 0 0 [.ref (rf 11 80), .int (nI (7694 + 72 * m))] fi fr (mW ai w) ar N (xQ none fi fr (mW (swiA ai w m) (swiW w m)) ar N) := by
  obtain ⟨sW, sA0, sK, sU, sC, sKC, sT, sCl⟩ := id sm
  have hq := iv_mv iv hm
  have h3 := iv_mm iv
  have h1 := iv_n iv
  have he0 := iv_ep0 iv
  have hsp := spW_lt iv (w (7694 + 72 * m + 1))
  change EV mX11_switches 1 0 0 0 [some (.ref (rf 11 80)), some (.int (nI (7694 + 72 * m))), none] [] fi fr (mW ai w) ar N (xQ none fi fr (mW (swiA ai w m) (swiW w m)) ar N)
  refine e_aload_n dX11_switches_0 rfl rfl ?_
  refine e_aload_n dX11_switches_1 rfl rfl ?_
  refine e_getR dX11_switches_2 fl_X11_7 rfl (by assumption) ?_
  refine e_iload_n dX11_switches_5 rfl rfl ?_
  refine e_iconst (v := nI 1) dX11_switches_6 rfl ?_
  first | ((with_reducible refine mk_nn ?_); refine n_iadd dX11_switches_7 ?_) | refine e_iadd dX11_switches_7 ?_
  first | ((with_reducible refine mk_ldw ?_); refine e_ldw dX11_switches_8 (by omega) ?_) | refine e_iald _ dX11_switches_8 ⟨by decide, by decide⟩ rfl rfl (by simp only [lenK]; omega) ?_
  refine x_V1 (M' := mX11_spanWith) dX11_switches_9 ml_X11_58 ok_X11_spanWith (by decide) rfl im_X11_spanWith se_X11_spanWith (ct_X11_spanWith ‹_› ‹_› (by omega)) (Nat.le_of_ble_eq_true rfl) (by decide) (Nat.le_of_ble_eq_true rfl) ?_
  refine e_istore_n dX11_switches_12 rfl (Nat.le_of_ble_eq_true rfl) rfl ?_
  refine e_aload_n dX11_switches_13 rfl rfl ?_
  refine e_getR dX11_switches_14 fl_X11_7 rfl (by assumption) ?_
  refine e_iconst (v := nI 0) dX11_switches_17 rfl ?_
  refine e_dup2 dX11_switches_18 rfl rfl ?_
  first | ((with_reducible refine mk_ldw ?_); refine e_ldw dX11_switches_19 (by omega) ?_) | refine e_iald _ dX11_switches_19 ⟨by decide, by decide⟩ rfl rfl (by simp only [lenK]; omega) ?_
  refine e_iconst (v := nI 1) dX11_switches_20 rfl ?_
  first | ((with_reducible refine mk_nn ?_); refine n_iadd dX11_switches_21 ?_) | refine e_iadd dX11_switches_21 ?_
  first | ((with_reducible refine mk_stw ?_); refine e_stw dX11_switches_22 (by omega) ?_) | refine e_iast _ dX11_switches_22 ⟨by decide, by decide⟩ rfl rfl (by simp only [lenK]; omega) ?_
  refine e_aload_n dX11_switches_23 rfl rfl ?_
  refine e_getR dX11_switches_24 fl_X11_7 rfl (by assumption) ?_
  refine e_bipush (v := nI 42) dX11_switches_27 rfl ?_
  refine e_iload_n dX11_switches_29 rfl rfl ?_
  first | ((with_reducible refine mk_nn ?_); refine n_iadd dX11_switches_30 ?_) | refine e_iadd dX11_switches_30 ?_
  refine e_aload_n dX11_switches_31 rfl rfl ?_
  refine e_getR dX11_switches_32 fl_X11_7 rfl (by assumption) ?_
  refine e_iload_n dX11_switches_35 rfl rfl ?_
  refine e_iconst (v := nI 4) dX11_switches_36 rfl ?_
  first | ((with_reducible refine mk_nn ?_); refine n_iadd dX11_switches_37 ?_) | refine e_iadd dX11_switches_37 ?_
  first | ((with_reducible refine mk_ldw ?_); refine e_ldw dX11_switches_38 (by omega) ?_) | refine e_iald _ dX11_switches_38 ⟨by decide, by decide⟩ rfl rfl (by simp only [lenK]; omega) ?_
  simp (disch := omega) only [upN_n]
  first | ((with_reducible refine mk_stw ?_); refine e_stw dX11_switches_39 (by omega) ?_) | refine e_iast _ dX11_switches_39 ⟨by decide, by decide⟩ rfl rfl (by simp only [lenK]; omega) ?_
  refine e_aload_n dX11_switches_40 rfl rfl ?_
  refine e_getR dX11_switches_41 fl_X11_7 rfl (by assumption) ?_
  refine e_bipush (v := nI 74) dX11_switches_44 rfl ?_
  refine e_iload_n dX11_switches_46 rfl rfl ?_
  first | ((with_reducible refine mk_nn ?_); refine n_iadd dX11_switches_47 ?_) | refine e_iadd dX11_switches_47 ?_
  refine e_aload_n dX11_switches_48 rfl rfl ?_
  refine e_getR dX11_switches_49 fl_X11_7 rfl (by assumption) ?_
  refine e_iconst (v := nI 0) dX11_switches_52 rfl ?_
  first | ((with_reducible refine mk_ldw ?_); refine e_ldw dX11_switches_53 (by omega) ?_) | refine e_iald _ dX11_switches_53 ⟨by decide, by decide⟩ rfl rfl (by simp only [lenK]; omega) ?_
  simp (disch := omega) only [upN_n, upN_s]
  first | ((with_reducible refine mk_stw ?_); refine e_stw dX11_switches_54 (by omega) ?_) | refine e_iast _ dX11_switches_54 ⟨by decide, by decide⟩ rfl rfl (by simp only [lenK]; omega) ?_
  refine e_aload_n dX11_switches_55 rfl rfl ?_
  refine e_getR dX11_switches_56 fl_X11_7 rfl (by assumption) ?_
  refine e_iload_n dX11_switches_59 rfl rfl ?_
  refine e_bipush (v := nI 11) dX11_switches_60 rfl ?_
  first | ((with_reducible refine mk_nn ?_); refine n_iadd dX11_switches_62 ?_) | refine e_iadd dX11_switches_62 ?_
  refine e_aload_n dX11_switches_63 rfl rfl ?_
  refine e_getR dX11_switches_64 fl_X11_7 rfl (by assumption) ?_
  refine e_iconst (v := nI 0) dX11_switches_67 rfl ?_
  first | ((with_reducible refine mk_ldw ?_); refine e_ldw dX11_switches_68 (by omega) ?_) | refine e_iald _ dX11_switches_68 ⟨by decide, by decide⟩ rfl rfl (by simp only [lenK]; omega) ?_
  simp (disch := omega) only [upN_n, upN_s]
  first | ((with_reducible refine mk_stw ?_); refine e_stw dX11_switches_69 (by omega) ?_) | refine e_iast _ dX11_switches_69 ⟨by decide, by decide⟩ rfl rfl (by simp only [lenK]; omega) ?_
  refine e_aload_n dX11_switches_70 rfl rfl ?_
  refine e_getR dX11_switches_71 fl_X11_7 rfl (by assumption) ?_
  refine e_iload_n dX11_switches_74 rfl rfl ?_
  refine e_iconst (v := nI 0) dX11_switches_75 rfl ?_
  first | ((with_reducible refine mk_nn ?_); refine n_iadd dX11_switches_76 ?_) | refine e_iadd dX11_switches_76 ?_
  refine e_iconst (v := nI 4) dX11_switches_77 rfl ?_
  first | ((with_reducible refine mk_stw ?_); refine e_stw dX11_switches_78 (by omega) ?_) | refine e_iast _ dX11_switches_78 ⟨by decide, by decide⟩ rfl rfl (by simp only [lenK]; omega) ?_
  refine e_aload_n dX11_switches_79 rfl rfl ?_
  refine e_getR dX11_switches_80 fl_X11_7 rfl (by assumption) ?_
  refine e_iload_n dX11_switches_83 rfl rfl ?_
  refine e_iconst (v := nI 5) dX11_switches_84 rfl ?_
  first | ((with_reducible refine mk_nn ?_); refine n_iadd dX11_switches_85 ?_) | refine e_iadd dX11_switches_85 ?_
  refine e_aload_n dX11_switches_86 rfl rfl ?_
  refine e_getR dX11_switches_87 fl_X11_7 rfl (by assumption) ?_
  refine e_iload_n dX11_switches_90 rfl rfl ?_
  refine e_iconst (v := nI 1) dX11_switches_91 rfl ?_
  first | ((with_reducible refine mk_nn ?_); refine n_iadd dX11_switches_92 ?_) | refine e_iadd dX11_switches_92 ?_
  first | ((with_reducible refine mk_ldw ?_); refine e_ldw dX11_switches_93 (by omega) ?_) | refine e_iald _ dX11_switches_93 ⟨by decide, by decide⟩ rfl rfl (by simp only [lenK]; omega) ?_
  simp (disch := omega) only [upN_n, upN_s]
  first | ((with_reducible refine mk_stw ?_); refine e_stw dX11_switches_94 (by omega) ?_) | refine e_iast _ dX11_switches_94 ⟨by decide, by decide⟩ rfl rfl (by simp only [lenK]; omega) ?_
  refine e_aload_n dX11_switches_95 rfl rfl ?_
  refine e_iconst (v := nI 3) dX11_switches_96 rfl ?_
  refine e_aload_n dX11_switches_97 rfl rfl ?_
  refine e_getR dX11_switches_98 fl_X11_7 rfl (by assumption) ?_
  refine e_iload_n dX11_switches_101 rfl rfl ?_
  refine e_iconst (v := nI 1) dX11_switches_102 rfl ?_
  first | ((with_reducible refine mk_nn ?_); refine n_iadd dX11_switches_103 ?_) | refine e_iadd dX11_switches_103 ?_
  first | ((with_reducible refine mk_ldw ?_); refine e_ldw dX11_switches_104 (by omega) ?_) | refine e_iald _ dX11_switches_104 ⟨by decide, by decide⟩ rfl rfl (by simp only [lenK]; omega) ?_
  simp (disch := omega) only [upN_n, upN_s]
  refine e_aload_n dX11_switches_105 rfl rfl ?_
  refine e_getR dX11_switches_106 fl_X11_7 rfl (by assumption) ?_
  refine e_iload_n dX11_switches_109 rfl rfl ?_
  refine e_iconst (v := nI 4) dX11_switches_110 rfl ?_
  first | ((with_reducible refine mk_nn ?_); refine n_iadd dX11_switches_111 ?_) | refine e_iadd dX11_switches_111 ?_
  first | ((with_reducible refine mk_ldw ?_); refine e_ldw dX11_switches_112 (by omega) ?_) | refine e_iald _ dX11_switches_112 ⟨by decide, by decide⟩ rfl rfl (by simp only [lenK]; omega) ?_
  simp (disch := omega) only [upN_n, upN_s]
  refine y_V3 (M' := mX11_notes) dX11_switches_113 ml_X11_93 ok_X11_notes (by decide) rfl im_X11_notes se_X11_notes (ct_X11_notes ‹_› (by simp (disch := omega) only [upN_n, upN_s]; omega)) (Nat.le_of_ble_eq_true rfl) (by decide) (Nat.le_of_ble_eq_true rfl) ?_
  refine e_ret none rfl (r_void dX11_switches_116 rfl) ?_
  refine xq rfl rfl rfl ?_ rfl rfl
  simp (disch := omega) only [upN_n, upN_s]
  rfl
theorem govW_f {w : Nat → Nat} (iv : Inv w) {m ch : Nat} {cl : Bool} (hm : m < w 3) (hcu : w (7694 + 72 * m + 5) ≤ w (7694 + 72 * m + 2)) {q : Nat} (h : q < 1106 ∨ 7106 ≤ q) (h5 : q ≠ 7694 + 72 * m + 5) (hc : q ≠ 8558 + 13 ∧ q ≠ 8558 + 14) : govW w m ch cl q = w q := by
  have hq := iv_mv iv hm
  unfold govW
  rw [upN_n (by cases cl <;> simp <;> omega)]
  exact (goS_in iv hm (govL w m) (by unfold govL; omega)).1 q h h5
theorem govN_le {w : Nat → Nat} (iv : Inv w) {m ch : Nat} {cl : Bool} (hm : m < w 3) (hcu : w (7694 + 72 * m + 5) ≤ w (7694 + 72 * m + 2)) : govN w m ch cl ≤ ch := by
  have hq := iv_mv iv hm
  exact (goS_in iv hm (govL w m) (by unfold govL; omega)).2.2.2.1
theorem ct_goesOn1 {fi : FI} {fr : FR} {ai : FI} {ar : FR} {N : Nat} {w : Nat → Nat} (sm : SM fr) (iv : Inv w) {m ch : Nat} (hm : m < w 3) (hch : ch ≤ 16) (hcu : w (7694 + 72 * m + 5) ≤ w (7694 + 72 * m + 2)) : CP mX11_goesOn 2 0 0 [.ref (rf 11 80), .int (nI (7694 + 72 * m)), .int (nI ch), .int (nI 1)] fi fr (mW ai w) ar N (xQ none fi fr (mW ai (gonW w m ch true)) ar N) := by
  obtain ⟨sW, sA0, sK, sU, sC, sKC, sT, sCl⟩ := id sm
  have hq := iv_mv iv hm
  have h3 := iv_mm iv
  have hle := govN_le iv (ch := ch) (cl := true) hm hcu
  have r2 := govW_f iv (ch := ch) (cl := true) hm hcu (q := 7694 + 72 * m + 2) (by omega) (by omega) (by omega)
  have r9 := govW_f iv (ch := ch) (cl := true) hm hcu (q := 8558 + 9) (by omega) (by omega) (by omega)
  change EV mX11_goesOn 2 0 0 0 [some (.ref (rf 11 80)), some (.int (nI (7694 + 72 * m))), some (.int (nI ch)), some (.int (nI 1))] [] fi fr (mW ai w) ar N (xQ none fi fr (mW ai (gonW w m ch true)) ar N)
  refine e_aload_n dX11_goesOn_0 rfl rfl ?_
  refine e_iload_n dX11_goesOn_1 rfl rfl ?_
  refine e_iload_n dX11_goesOn_2 rfl rfl ?_
  refine e_iload_n dX11_goesOn_3 rfl rfl ?_
  refine x_V3 (M' := mX11_goesOver) dX11_goesOn_4 ml_X11_168 ok_X11_goesOver (by decide) rfl im_X11_goesOver se_X11_goesOver (ct_goesOver1 ‹_› ‹_› hm hch hcu) (Nat.le_of_ble_eq_true rfl) (by decide) (Nat.le_of_ble_eq_true rfl) ?_
  refine e_iload_n dX11_goesOn_7 rfl rfl ?_
  first | ((with_reducible refine mk_mo ?_); refine p_icmp_ne (tgt := 12) dX11_goesOn_8 (by decide) (fun h8 => ?_) (fun h8 => ?_)) | ((with_reducible refine mk_ms ?_); refine s_icmp_ne (tgt := 12) dX11_goesOn_8 (by decide) (by omega) (fun h8 => ?_) (fun h8 => ?_)) | ((with_reducible refine mk_mn ?_); refine q_icmp_ne (tgt := 12) dX11_goesOn_8 (by decide) (by omega) (fun h8 => ?_) (fun h8 => ?_)) | ((with_reducible refine mk_nn ?_); refine n_icmp_ne (tgt := 12) dX11_goesOn_8 (by decide) (by omega) (by omega) (fun h8 => ?_) (fun h8 => ?_)) | refine e_icmp_ne (tgt := 12) dX11_goesOn_8 (by decide) (fun h8 => ?_) (fun h8 => ?_)
  · try first | contradiction | omega
    all_goals
      refine e_aload_n dX11_goesOn_12 rfl rfl ?_
      refine e_getR dX11_goesOn_13 fl_X11_7 rfl (by assumption) ?_
      refine e_iload_n dX11_goesOn_16 rfl rfl ?_
      refine e_iconst (v := nI 0) dX11_goesOn_17 rfl ?_
      first | ((with_reducible refine mk_nn ?_); refine n_iadd dX11_goesOn_18 ?_) | refine e_iadd dX11_goesOn_18 ?_
      refine e_iload_n dX11_goesOn_19 rfl rfl ?_
      first | ((with_reducible refine mk_b ?_); refine b_if_eq (tgt := 27) dX11_goesOn_20 (by decide) (fun h20 => ?_) (fun h20 => ?_)) | ((with_reducible refine mk_ll ?_); refine m_if_eq (tgt := 27) dX11_goesOn_20 (by decide) (by omega) (by omega) (fun h20 => ?_) (fun h20 => ?_)) | ((with_reducible refine mk_lc ?_); refine l_if_eq (tgt := 27) dX11_goesOn_20 (by decide) (fun h20 => ?_) (fun h20 => ?_)) | ((with_reducible refine mk_n ?_); refine n_if_eq (tgt := 27) dX11_goesOn_20 (by decide) (by omega) (fun h20 => ?_) (fun h20 => ?_)) | refine e_if_eq (tgt := 27) dX11_goesOn_20 (by decide) (fun h20 => ?_) (fun h20 => ?_)
      · try first | contradiction | omega | (simp only [decide_eq_true_eq, decide_eq_false_iff_not] at h20; omega)
        all_goals
          refine e_iconst (v := nI 2) dX11_goesOn_27 rfl ?_
          first | ((with_reducible refine mk_stw ?_); refine e_stw dX11_goesOn_28 (by omega) ?_) | refine e_iast _ dX11_goesOn_28 ⟨by decide, by decide⟩ rfl rfl (by simp only [lenK]; omega) ?_
          refine e_aload_n dX11_goesOn_29 rfl rfl ?_
          refine e_getR dX11_goesOn_30 fl_X11_7 rfl (by assumption) ?_
          refine e_iload_n dX11_goesOn_33 rfl rfl ?_
          refine e_iconst (v := nI 5) dX11_goesOn_34 rfl ?_
          first | ((with_reducible refine mk_nn ?_); refine n_iadd dX11_goesOn_35 ?_) | refine e_iadd dX11_goesOn_35 ?_
          refine e_aload_n dX11_goesOn_36 rfl rfl ?_
          refine e_getR dX11_goesOn_37 fl_X11_7 rfl (by assumption) ?_
          refine e_iload_n dX11_goesOn_40 rfl rfl ?_
          refine e_iconst (v := nI 2) dX11_goesOn_41 rfl ?_
          first | ((with_reducible refine mk_nn ?_); refine n_iadd dX11_goesOn_42 ?_) | refine e_iadd dX11_goesOn_42 ?_
          first | ((with_reducible refine mk_ldw ?_); refine e_ldw dX11_goesOn_43 (by omega) ?_) | refine e_iald _ dX11_goesOn_43 ⟨by decide, by decide⟩ rfl rfl (by simp only [lenK]; omega) ?_
          simp (disch := omega) only [upN_n, r2]
          first | ((with_reducible refine mk_stw ?_); refine e_stw dX11_goesOn_44 (by omega) ?_) | refine e_iast _ dX11_goesOn_44 ⟨by decide, by decide⟩ rfl rfl (by simp only [lenK]; omega) ?_
          refine e_iload_n dX11_goesOn_45 rfl rfl ?_
          first | ((with_reducible refine mk_b ?_); refine b_if_eq (tgt := 56) dX11_goesOn_46 (by decide) (fun h46 => ?_) (fun h46 => ?_)) | ((with_reducible refine mk_ll ?_); refine m_if_eq (tgt := 56) dX11_goesOn_46 (by decide) (by omega) (by omega) (fun h46 => ?_) (fun h46 => ?_)) | ((with_reducible refine mk_lc ?_); refine l_if_eq (tgt := 56) dX11_goesOn_46 (by decide) (fun h46 => ?_) (fun h46 => ?_)) | ((with_reducible refine mk_n ?_); refine n_if_eq (tgt := 56) dX11_goesOn_46 (by decide) (by omega) (fun h46 => ?_) (fun h46 => ?_)) | refine e_if_eq (tgt := 56) dX11_goesOn_46 (by decide) (fun h46 => ?_) (fun h46 => ?_)
          · try first | contradiction | omega | (simp only [decide_eq_true_eq, decide_eq_false_iff_not] at h46; omega)
            all_goals
              refine e_ret none rfl (r_void dX11_goesOn_56 rfl) ?_
              refine xq rfl rfl rfl ?_ rfl rfl
              try simp (disch := omega) only [upN_n, r9]
              unfold gonW
              first | (rw [if_pos (by omega)]; done) | (rw [if_neg (by omega)]; rfl)
          · try first | contradiction | omega | (simp only [decide_eq_true_eq, decide_eq_false_iff_not] at h46; omega)
            all_goals
              refine e_aload_n dX11_goesOn_49 rfl rfl ?_
              refine e_bipush (v := nI 9) dX11_goesOn_50 rfl ?_
              refine e_iconst (v := nI 1) dX11_goesOn_52 rfl ?_
              refine y_V2 (M' := mX11_counts) dX11_goesOn_53 ml_X11_97 ok_X11_counts (by decide) rfl im_X11_counts se_X11_counts (ct_X11_counts ‹_› (by omega)) (Nat.le_of_ble_eq_true rfl) (by decide) (Nat.le_of_ble_eq_true rfl) ?_
              refine e_ret none rfl (r_void dX11_goesOn_56 rfl) ?_
              refine xq rfl rfl rfl ?_ rfl rfl
              try simp (disch := omega) only [upN_n, r9]
              unfold gonW
              first | (rw [if_pos (by omega)]; done) | (rw [if_neg (by omega)]; rfl)
      · try first | contradiction | omega | (simp only [decide_eq_true_eq, decide_eq_false_iff_not] at h20; omega)
        all_goals
          refine e_iconst (v := nI 5) dX11_goesOn_23 rfl ?_
          refine e_goto (tgt := 28) dX11_goesOn_24 (by decide) ?_
          first | ((with_reducible refine mk_stw ?_); refine e_stw dX11_goesOn_28 (by omega) ?_) | refine e_iast _ dX11_goesOn_28 ⟨by decide, by decide⟩ rfl rfl (by simp only [lenK]; omega) ?_
          refine e_aload_n dX11_goesOn_29 rfl rfl ?_
          refine e_getR dX11_goesOn_30 fl_X11_7 rfl (by assumption) ?_
          refine e_iload_n dX11_goesOn_33 rfl rfl ?_
          refine e_iconst (v := nI 5) dX11_goesOn_34 rfl ?_
          first | ((with_reducible refine mk_nn ?_); refine n_iadd dX11_goesOn_35 ?_) | refine e_iadd dX11_goesOn_35 ?_
          refine e_aload_n dX11_goesOn_36 rfl rfl ?_
          refine e_getR dX11_goesOn_37 fl_X11_7 rfl (by assumption) ?_
          refine e_iload_n dX11_goesOn_40 rfl rfl ?_
          refine e_iconst (v := nI 2) dX11_goesOn_41 rfl ?_
          first | ((with_reducible refine mk_nn ?_); refine n_iadd dX11_goesOn_42 ?_) | refine e_iadd dX11_goesOn_42 ?_
          first | ((with_reducible refine mk_ldw ?_); refine e_ldw dX11_goesOn_43 (by omega) ?_) | refine e_iald _ dX11_goesOn_43 ⟨by decide, by decide⟩ rfl rfl (by simp only [lenK]; omega) ?_
          simp (disch := omega) only [upN_n, r2]
          first | ((with_reducible refine mk_stw ?_); refine e_stw dX11_goesOn_44 (by omega) ?_) | refine e_iast _ dX11_goesOn_44 ⟨by decide, by decide⟩ rfl rfl (by simp only [lenK]; omega) ?_
          refine e_iload_n dX11_goesOn_45 rfl rfl ?_
          first | ((with_reducible refine mk_b ?_); refine b_if_eq (tgt := 56) dX11_goesOn_46 (by decide) (fun h46 => ?_) (fun h46 => ?_)) | ((with_reducible refine mk_ll ?_); refine m_if_eq (tgt := 56) dX11_goesOn_46 (by decide) (by omega) (by omega) (fun h46 => ?_) (fun h46 => ?_)) | ((with_reducible refine mk_lc ?_); refine l_if_eq (tgt := 56) dX11_goesOn_46 (by decide) (fun h46 => ?_) (fun h46 => ?_)) | ((with_reducible refine mk_n ?_); refine n_if_eq (tgt := 56) dX11_goesOn_46 (by decide) (by omega) (fun h46 => ?_) (fun h46 => ?_)) | refine e_if_eq (tgt := 56) dX11_goesOn_46 (by decide) (fun h46 => ?_) (fun h46 => ?_)
          · try first | contradiction | omega | (simp only [decide_eq_true_eq, decide_eq_false_iff_not] at h46; omega)
            all_goals
              refine e_ret none rfl (r_void dX11_goesOn_56 rfl) ?_
              refine xq rfl rfl rfl ?_ rfl rfl
              try simp (disch := omega) only [upN_n, r9]
              unfold gonW
              first | (rw [if_pos (by omega)]; done) | (rw [if_neg (by omega)]; rfl)
          · try first | contradiction | omega | (simp only [decide_eq_true_eq, decide_eq_false_iff_not] at h46; omega)
            all_goals
              refine e_aload_n dX11_goesOn_49 rfl rfl ?_
              refine e_bipush (v := nI 9) dX11_goesOn_50 rfl ?_
              refine e_iconst (v := nI 1) dX11_goesOn_52 rfl ?_
              refine y_V2 (M' := mX11_counts) dX11_goesOn_53 ml_X11_97 ok_X11_counts (by decide) rfl im_X11_counts se_X11_counts (ct_X11_counts ‹_› (by omega)) (Nat.le_of_ble_eq_true rfl) (by decide) (Nat.le_of_ble_eq_true rfl) ?_
              refine e_ret none rfl (r_void dX11_goesOn_56 rfl) ?_
              refine xq rfl rfl rfl ?_ rfl rfl
              try simp (disch := omega) only [upN_n, r9]
              unfold gonW
              first | (rw [if_pos (by omega)]; done) | (rw [if_neg (by omega)]; rfl)
  · try first | contradiction | omega
    all_goals
      refine e_ret none rfl (r_void dX11_goesOn_11 rfl) ?_
      refine xq rfl rfl rfl ?_ rfl rfl
      try simp (disch := omega) only [upN_n, r9]
      unfold gonW
      first | (rw [if_pos (by omega)]; done) | (rw [if_neg (by omega)]; rfl)
theorem ct_goesOn0 {fi : FI} {fr : FR} {ai : FI} {ar : FR} {N : Nat} {w : Nat → Nat} (sm : SM fr) (iv : Inv w) {m ch : Nat} (hm : m < w 3) (hch : ch ≤ 16) (hcu : w (7694 + 72 * m + 5) ≤ w (7694 + 72 * m + 2)) : CP mX11_goesOn 2 0 0 [.ref (rf 11 80), .int (nI (7694 + 72 * m)), .int (nI ch), .int (nI 0)] fi fr (mW ai w) ar N (xQ none fi fr (mW ai (gonW w m ch false)) ar N) := by
  obtain ⟨sW, sA0, sK, sU, sC, sKC, sT, sCl⟩ := id sm
  have hq := iv_mv iv hm
  have h3 := iv_mm iv
  have hle := govN_le iv (ch := ch) (cl := false) hm hcu
  have r2 := govW_f iv (ch := ch) (cl := false) hm hcu (q := 7694 + 72 * m + 2) (by omega) (by omega) (by omega)
  have r9 := govW_f iv (ch := ch) (cl := false) hm hcu (q := 8558 + 9) (by omega) (by omega) (by omega)
  change EV mX11_goesOn 2 0 0 0 [some (.ref (rf 11 80)), some (.int (nI (7694 + 72 * m))), some (.int (nI ch)), some (.int (nI 0))] [] fi fr (mW ai w) ar N (xQ none fi fr (mW ai (gonW w m ch false)) ar N)
  refine e_aload_n dX11_goesOn_0 rfl rfl ?_
  refine e_iload_n dX11_goesOn_1 rfl rfl ?_
  refine e_iload_n dX11_goesOn_2 rfl rfl ?_
  refine e_iload_n dX11_goesOn_3 rfl rfl ?_
  refine x_V3 (M' := mX11_goesOver) dX11_goesOn_4 ml_X11_168 ok_X11_goesOver (by decide) rfl im_X11_goesOver se_X11_goesOver (ct_goesOver0 ‹_› ‹_› hm hch hcu) (Nat.le_of_ble_eq_true rfl) (by decide) (Nat.le_of_ble_eq_true rfl) ?_
  refine e_iload_n dX11_goesOn_7 rfl rfl ?_
  first | ((with_reducible refine mk_mo ?_); refine p_icmp_ne (tgt := 12) dX11_goesOn_8 (by decide) (fun h8 => ?_) (fun h8 => ?_)) | ((with_reducible refine mk_ms ?_); refine s_icmp_ne (tgt := 12) dX11_goesOn_8 (by decide) (by omega) (fun h8 => ?_) (fun h8 => ?_)) | ((with_reducible refine mk_mn ?_); refine q_icmp_ne (tgt := 12) dX11_goesOn_8 (by decide) (by omega) (fun h8 => ?_) (fun h8 => ?_)) | ((with_reducible refine mk_nn ?_); refine n_icmp_ne (tgt := 12) dX11_goesOn_8 (by decide) (by omega) (by omega) (fun h8 => ?_) (fun h8 => ?_)) | refine e_icmp_ne (tgt := 12) dX11_goesOn_8 (by decide) (fun h8 => ?_) (fun h8 => ?_)
  · try first | contradiction | omega
    all_goals
      refine e_aload_n dX11_goesOn_12 rfl rfl ?_
      refine e_getR dX11_goesOn_13 fl_X11_7 rfl (by assumption) ?_
      refine e_iload_n dX11_goesOn_16 rfl rfl ?_
      refine e_iconst (v := nI 0) dX11_goesOn_17 rfl ?_
      first | ((with_reducible refine mk_nn ?_); refine n_iadd dX11_goesOn_18 ?_) | refine e_iadd dX11_goesOn_18 ?_
      refine e_iload_n dX11_goesOn_19 rfl rfl ?_
      first | ((with_reducible refine mk_b ?_); refine b_if_eq (tgt := 27) dX11_goesOn_20 (by decide) (fun h20 => ?_) (fun h20 => ?_)) | ((with_reducible refine mk_ll ?_); refine m_if_eq (tgt := 27) dX11_goesOn_20 (by decide) (by omega) (by omega) (fun h20 => ?_) (fun h20 => ?_)) | ((with_reducible refine mk_lc ?_); refine l_if_eq (tgt := 27) dX11_goesOn_20 (by decide) (fun h20 => ?_) (fun h20 => ?_)) | ((with_reducible refine mk_n ?_); refine n_if_eq (tgt := 27) dX11_goesOn_20 (by decide) (by omega) (fun h20 => ?_) (fun h20 => ?_)) | refine e_if_eq (tgt := 27) dX11_goesOn_20 (by decide) (fun h20 => ?_) (fun h20 => ?_)
      · try first | contradiction | omega | (simp only [decide_eq_true_eq, decide_eq_false_iff_not] at h20; omega)
        all_goals
          refine e_iconst (v := nI 2) dX11_goesOn_27 rfl ?_
          first | ((with_reducible refine mk_stw ?_); refine e_stw dX11_goesOn_28 (by omega) ?_) | refine e_iast _ dX11_goesOn_28 ⟨by decide, by decide⟩ rfl rfl (by simp only [lenK]; omega) ?_
          refine e_aload_n dX11_goesOn_29 rfl rfl ?_
          refine e_getR dX11_goesOn_30 fl_X11_7 rfl (by assumption) ?_
          refine e_iload_n dX11_goesOn_33 rfl rfl ?_
          refine e_iconst (v := nI 5) dX11_goesOn_34 rfl ?_
          first | ((with_reducible refine mk_nn ?_); refine n_iadd dX11_goesOn_35 ?_) | refine e_iadd dX11_goesOn_35 ?_
          refine e_aload_n dX11_goesOn_36 rfl rfl ?_
          refine e_getR dX11_goesOn_37 fl_X11_7 rfl (by assumption) ?_
          refine e_iload_n dX11_goesOn_40 rfl rfl ?_
          refine e_iconst (v := nI 2) dX11_goesOn_41 rfl ?_
          first | ((with_reducible refine mk_nn ?_); refine n_iadd dX11_goesOn_42 ?_) | refine e_iadd dX11_goesOn_42 ?_
          first | ((with_reducible refine mk_ldw ?_); refine e_ldw dX11_goesOn_43 (by omega) ?_) | refine e_iald _ dX11_goesOn_43 ⟨by decide, by decide⟩ rfl rfl (by simp only [lenK]; omega) ?_
          simp (disch := omega) only [upN_n, r2]
          first | ((with_reducible refine mk_stw ?_); refine e_stw dX11_goesOn_44 (by omega) ?_) | refine e_iast _ dX11_goesOn_44 ⟨by decide, by decide⟩ rfl rfl (by simp only [lenK]; omega) ?_
          refine e_iload_n dX11_goesOn_45 rfl rfl ?_
          first | ((with_reducible refine mk_b ?_); refine b_if_eq (tgt := 56) dX11_goesOn_46 (by decide) (fun h46 => ?_) (fun h46 => ?_)) | ((with_reducible refine mk_ll ?_); refine m_if_eq (tgt := 56) dX11_goesOn_46 (by decide) (by omega) (by omega) (fun h46 => ?_) (fun h46 => ?_)) | ((with_reducible refine mk_lc ?_); refine l_if_eq (tgt := 56) dX11_goesOn_46 (by decide) (fun h46 => ?_) (fun h46 => ?_)) | ((with_reducible refine mk_n ?_); refine n_if_eq (tgt := 56) dX11_goesOn_46 (by decide) (by omega) (fun h46 => ?_) (fun h46 => ?_)) | refine e_if_eq (tgt := 56) dX11_goesOn_46 (by decide) (fun h46 => ?_) (fun h46 => ?_)
          · try first | contradiction | omega | (simp only [decide_eq_true_eq, decide_eq_false_iff_not] at h46; omega)
            all_goals
              refine e_ret none rfl (r_void dX11_goesOn_56 rfl) ?_
              refine xq rfl rfl rfl ?_ rfl rfl
              try simp (disch := omega) only [upN_n, r9]
              unfold gonW
              first | (rw [if_pos (by omega)]; done) | (rw [if_neg (by omega)]; rfl)
          · try first | contradiction | omega | (simp only [decide_eq_true_eq, decide_eq_false_iff_not] at h46; omega)
            all_goals
              refine e_aload_n dX11_goesOn_49 rfl rfl ?_
              refine e_bipush (v := nI 9) dX11_goesOn_50 rfl ?_
              refine e_iconst (v := nI 1) dX11_goesOn_52 rfl ?_
              refine y_V2 (M' := mX11_counts) dX11_goesOn_53 ml_X11_97 ok_X11_counts (by decide) rfl im_X11_counts se_X11_counts (ct_X11_counts ‹_› (by omega)) (Nat.le_of_ble_eq_true rfl) (by decide) (Nat.le_of_ble_eq_true rfl) ?_
              refine e_ret none rfl (r_void dX11_goesOn_56 rfl) ?_
              refine xq rfl rfl rfl ?_ rfl rfl
              try simp (disch := omega) only [upN_n, r9]
              unfold gonW
              first | (rw [if_pos (by omega)]; done) | (rw [if_neg (by omega)]; rfl)
      · try first | contradiction | omega | (simp only [decide_eq_true_eq, decide_eq_false_iff_not] at h20; omega)
        all_goals
          refine e_iconst (v := nI 5) dX11_goesOn_23 rfl ?_
          refine e_goto (tgt := 28) dX11_goesOn_24 (by decide) ?_
          first | ((with_reducible refine mk_stw ?_); refine e_stw dX11_goesOn_28 (by omega) ?_) | refine e_iast _ dX11_goesOn_28 ⟨by decide, by decide⟩ rfl rfl (by simp only [lenK]; omega) ?_
          refine e_aload_n dX11_goesOn_29 rfl rfl ?_
          refine e_getR dX11_goesOn_30 fl_X11_7 rfl (by assumption) ?_
          refine e_iload_n dX11_goesOn_33 rfl rfl ?_
          refine e_iconst (v := nI 5) dX11_goesOn_34 rfl ?_
          first | ((with_reducible refine mk_nn ?_); refine n_iadd dX11_goesOn_35 ?_) | refine e_iadd dX11_goesOn_35 ?_
          refine e_aload_n dX11_goesOn_36 rfl rfl ?_
          refine e_getR dX11_goesOn_37 fl_X11_7 rfl (by assumption) ?_
          refine e_iload_n dX11_goesOn_40 rfl rfl ?_
          refine e_iconst (v := nI 2) dX11_goesOn_41 rfl ?_
          first | ((with_reducible refine mk_nn ?_); refine n_iadd dX11_goesOn_42 ?_) | refine e_iadd dX11_goesOn_42 ?_
          first | ((with_reducible refine mk_ldw ?_); refine e_ldw dX11_goesOn_43 (by omega) ?_) | refine e_iald _ dX11_goesOn_43 ⟨by decide, by decide⟩ rfl rfl (by simp only [lenK]; omega) ?_
          simp (disch := omega) only [upN_n, r2]
          first | ((with_reducible refine mk_stw ?_); refine e_stw dX11_goesOn_44 (by omega) ?_) | refine e_iast _ dX11_goesOn_44 ⟨by decide, by decide⟩ rfl rfl (by simp only [lenK]; omega) ?_
          refine e_iload_n dX11_goesOn_45 rfl rfl ?_
          first | ((with_reducible refine mk_b ?_); refine b_if_eq (tgt := 56) dX11_goesOn_46 (by decide) (fun h46 => ?_) (fun h46 => ?_)) | ((with_reducible refine mk_ll ?_); refine m_if_eq (tgt := 56) dX11_goesOn_46 (by decide) (by omega) (by omega) (fun h46 => ?_) (fun h46 => ?_)) | ((with_reducible refine mk_lc ?_); refine l_if_eq (tgt := 56) dX11_goesOn_46 (by decide) (fun h46 => ?_) (fun h46 => ?_)) | ((with_reducible refine mk_n ?_); refine n_if_eq (tgt := 56) dX11_goesOn_46 (by decide) (by omega) (fun h46 => ?_) (fun h46 => ?_)) | refine e_if_eq (tgt := 56) dX11_goesOn_46 (by decide) (fun h46 => ?_) (fun h46 => ?_)
          · try first | contradiction | omega | (simp only [decide_eq_true_eq, decide_eq_false_iff_not] at h46; omega)
            all_goals
              refine e_ret none rfl (r_void dX11_goesOn_56 rfl) ?_
              refine xq rfl rfl rfl ?_ rfl rfl
              try simp (disch := omega) only [upN_n, r9]
              unfold gonW
              first | (rw [if_pos (by omega)]; done) | (rw [if_neg (by omega)]; rfl)
          · try first | contradiction | omega | (simp only [decide_eq_true_eq, decide_eq_false_iff_not] at h46; omega)
            all_goals
              refine e_aload_n dX11_goesOn_49 rfl rfl ?_
              refine e_bipush (v := nI 9) dX11_goesOn_50 rfl ?_
              refine e_iconst (v := nI 1) dX11_goesOn_52 rfl ?_
              refine y_V2 (M' := mX11_counts) dX11_goesOn_53 ml_X11_97 ok_X11_counts (by decide) rfl im_X11_counts se_X11_counts (ct_X11_counts ‹_› (by omega)) (Nat.le_of_ble_eq_true rfl) (by decide) (Nat.le_of_ble_eq_true rfl) ?_
              refine e_ret none rfl (r_void dX11_goesOn_56 rfl) ?_
              refine xq rfl rfl rfl ?_ rfl rfl
              try simp (disch := omega) only [upN_n, r9]
              unfold gonW
              first | (rw [if_pos (by omega)]; done) | (rw [if_neg (by omega)]; rfl)
  · try first | contradiction | omega
    all_goals
      refine e_ret none rfl (r_void dX11_goesOn_11 rfl) ?_
      refine xq rfl rfl rfl ?_ rfl rfl
      try simp (disch := omega) only [upN_n, r9]
      unfold gonW
      first | (rw [if_pos (by omega)]; done) | (rw [if_neg (by omega)]; rfl)
