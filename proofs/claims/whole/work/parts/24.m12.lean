def wr3 (w : Nat → Nat) (k v : Nat) : Nat → Nat := upN (upN (upN w (1106 + 1000 * w (42 + spW w k) + k) v) (106 + k) (w (106 + k) + 2)) (8558 + 1) (w (8558 + 1) + 1)
def wrT (w : Nat → Nat) (k m : Nat) : Nat → Nat := upN (upN w (7694 + 72 * m + 12 + w (7694 + 72 * m + 6)) k) (7694 + 72 * m + 6) (w (7694 + 72 * m + 6) + 1)
def wrW (w : Nat → Nat) (k v : Nat) : Nat → Nat := match mvL w (w (10 + spW w k)) with
  | none => wr3 w k v
  | some m => if w (7694 + 72 * m + 0) ≤ 2 ∧ inT w m k = false then wrT (wr3 w k v) k m else wr3 w k v
theorem wr3_fr {w : Nat → Nat} {k v q : Nat} (iv : Inv w) (hk : k < 1000) (h : q < 106 ∨ (7106 ≤ q ∧ q < 8558)) : wr3 w k v q = w q := by
  have h1 := iv_own iv (spW_lt iv k)
  unfold wr3
  rw [upN_n (by omega), upN_n (by omega), upN_n (by omega)]
theorem inT_fr {w w' : Nat → Nat} {m : Nat} (h : ∀ q, 7106 ≤ q → q < 8558 → w' q = w q) (hm : m < 12) (h6 : w (7694 + 72 * m + 6) ≤ 60) (k : Nat) : inT w' m k = inT w m k := by
  unfold inT
  rw [h (7694 + 72 * m + 6) (by omega) (by omega)]
  have : ∀ n, n ≤ w (7694 + 72 * m + 6) → ff (fun j => decide (w' (7694 + 72 * m + 12 + j) = k)) n = ff (fun j => decide (w (7694 + 72 * m + 12 + j) = k)) n := by
    intro n
    induction n with
    | zero => intro _; rfl
    | succ n ih => intro hn; unfold ff; rw [ih (by omega), h (7694 + 72 * m + 12 + n) (by omega) (by omega)]
  unfold fO
  rw [this _ (Nat.le_refl _)]
theorem wr3_Inv {w : Nat → Nat} {k v : Nat} (iv : Inv w) (hk : k < 1000) (hv : v ≤ 99999) (hw : w (106 + k) + 2 ≤ 100000) : Inv (wr3 w k v) := by
  have h1 := iv_own iv (spW_lt iv k)
  refine Inv_vw (fun q hq h => wr3_fr iv hk (by omega)) (fun j hj => ?_) (fun j hj => ?_) iv
  · unfold wr3
    rw [upN_n (by omega)]
    by_cases e : j = k
    · subst e; rw [upN_s]; exact hw
    · rw [upN_n (by omega), upN_n (by omega)]; exact iv_wt iv hj
  · unfold wr3
    rw [upN_n (by omega), upN_n (by omega)]
    by_cases e : 1106 + j = 1106 + 1000 * w (42 + spW w k) + k
    · rw [e, upN_s]; exact hv
    · rw [upN_n e]; exact iv_va iv hj
theorem ct_X11_isWritten {fi : FI} {fr : FR} {ai : FI} {ar : FR} {N : Nat} {w : Nat → Nat} (sm : SM fr) (iv : Inv w) {k v : Nat} (hk : k < 1000) (hv : v ≤ 99999) (hw2 : w (106 + k) + 2 ≤ 100000) : CP mX11_isWritten 3 0 0 [.ref (rf 11 80), .int (nI k), .int (nI v)] fi fr (mW ai w) ar N (xQ (none) fi fr (mW ai (wrW w k v)) ar N) := by
  obtain ⟨sW, sA, sK, sU, sC, sKC, sT, sCl⟩ := id sm
  have h1 := iv_n iv
  have h3 := iv_mm iv
  have hsp := spW_lt iv k
  have hso := iv_own iv hsp
  have iv3 := wr3_Inv (v := v) iv hk hv hw2
  have hwt := iv_wt iv hk
  change EV mX11_isWritten 3 0 0 0 [some (.ref (rf 11 80)), some (.int (nI k)), some (.int (nI v)), none, none] [] fi fr (mW ai w) ar N (xQ (none) fi fr (mW ai (wrW w k v)) ar N)
  cases hmv : mvL w (w (10 + spW w k)) with
  | none =>
    refine e_aload_n dX11_isWritten_0 rfl rfl ?_
    refine e_iload_n dX11_isWritten_1 rfl rfl ?_
    refine x_V1 (M' := mX11_spanWith) dX11_isWritten_2 ml_X11_58 ok_X11_spanWith (by decide) rfl im_X11_spanWith se_X11_spanWith (ct_X11_spanWith ‹_› ‹_› (by omega)) (Nat.le_of_ble_eq_true rfl) (by decide) (Nat.le_of_ble_eq_true rfl) ?_
    refine e_istore_n dX11_isWritten_5 rfl (Nat.le_of_ble_eq_true rfl) rfl ?_
    refine e_aload_n dX11_isWritten_6 rfl rfl ?_
    refine e_iload_n dX11_isWritten_7 rfl rfl ?_
    refine x_V1 (M' := mX11_moveOfSpan) dX11_isWritten_8 ml_X11_79 ok_X11_moveOfSpan (by decide) rfl im_X11_moveOfSpan se_X11_moveOfSpan (ct_X11_moveOfSpan ‹_› ‹_› (by omega)) (Nat.le_of_ble_eq_true rfl) (by decide) (Nat.le_of_ble_eq_true rfl) ?_
    rw [hmv]
    refine e_istore dX11_isWritten_11 (Nat.le_of_ble_eq_true rfl) rfl ?_
    refine e_aload_n dX11_isWritten_13 rfl rfl ?_
    refine e_getR dX11_isWritten_14 fl_X11_7 rfl (by assumption) ?_
    refine e_aload_n dX11_isWritten_17 rfl rfl ?_
    refine e_getR dX11_isWritten_18 fl_X11_7 rfl (by assumption) ?_
    refine e_bipush (v := nI 42) dX11_isWritten_21 rfl ?_
    refine e_iload_n dX11_isWritten_23 rfl rfl ?_
    first | ((with_reducible refine mk_nn ?_); refine n_iadd dX11_isWritten_24 ?_) | refine e_iadd dX11_isWritten_24 ?_
    first | ((with_reducible refine mk_ldw ?_); refine e_ldw dX11_isWritten_25 (by omega) ?_) | refine e_iald _ dX11_isWritten_25 ⟨by decide, by decide⟩ rfl rfl (by simp only [lenK]; omega) ?_
    refine e_iload_n dX11_isWritten_26 rfl rfl ?_
    refine x_S2 (M' := mX11_storeAt) dX11_isWritten_27 ml_X11_136 ok_X11_storeAt rfl sc_X11_storeAt (ct_X11_storeAt) (Nat.le_of_ble_eq_true rfl) (by decide) (Nat.le_of_ble_eq_true rfl) ?_
    refine e_iload_n dX11_isWritten_30 rfl rfl ?_
    first | ((with_reducible refine mk_stw ?_); refine e_stw dX11_isWritten_31 (by omega) ?_) | refine e_iast _ dX11_isWritten_31 ⟨by decide, by decide⟩ rfl rfl (by simp only [lenK]; omega) ?_
    refine e_aload_n dX11_isWritten_32 rfl rfl ?_
    refine e_getR dX11_isWritten_33 fl_X11_7 rfl (by assumption) ?_
    refine e_bipush (v := nI 106) dX11_isWritten_36 rfl ?_
    refine e_iload_n dX11_isWritten_38 rfl rfl ?_
    first | ((with_reducible refine mk_nn ?_); refine n_iadd dX11_isWritten_39 ?_) | refine e_iadd dX11_isWritten_39 ?_
    refine e_dup2 dX11_isWritten_40 rfl rfl ?_
    first | ((with_reducible refine mk_ldw ?_); refine e_ldw dX11_isWritten_41 (by omega) ?_) | refine e_iald _ dX11_isWritten_41 ⟨by decide, by decide⟩ rfl rfl (by simp only [lenK]; omega) ?_
    refine e_iconst (v := nI 2) dX11_isWritten_42 rfl ?_
    first | ((with_reducible refine mk_nn ?_); refine n_iadd dX11_isWritten_43 ?_) | refine e_iadd dX11_isWritten_43 ?_
    first | ((with_reducible refine mk_stw ?_); refine e_stw dX11_isWritten_44 (by omega) ?_) | refine e_iast _ dX11_isWritten_44 ⟨by decide, by decide⟩ rfl rfl (by simp only [lenK]; omega) ?_
    refine e_aload_n dX11_isWritten_45 rfl rfl ?_
    refine e_iconst (v := nI 1) dX11_isWritten_46 rfl ?_
    refine e_iconst (v := nI 1) dX11_isWritten_47 rfl ?_
    refine y_V2 (M' := mX11_counts) dX11_isWritten_48 ml_X11_97 ok_X11_counts (by decide) rfl im_X11_counts se_X11_counts (ct_X11_counts ‹_› (by omega)) (Nat.le_of_ble_eq_true rfl) (by decide) (Nat.le_of_ble_eq_true rfl) ?_
    simp (disch := omega) only [upN_n]; change EV _ _ _ _ _ _ _ _ _ (mW ai (wr3 w k v)) _ _ _
    refine e_aload_n dX11_isWritten_51 rfl rfl ?_
    refine e_iload dX11_isWritten_52 rfl ?_
    refine x_V1 (M' := mX11_isCatching) dX11_isWritten_54 ml_X11_130 ok_X11_isCatching (by decide) rfl im_X11_isCatching se_X11_isCatching (ct_X11_isCatching ‹_› iv3 none (fun m h => by cases h)) (Nat.le_of_ble_eq_true rfl) (by decide) (Nat.le_of_ble_eq_true rfl) ?_
    first | ((with_reducible refine mk_b ?_); refine b_if_eq (tgt := 70) dX11_isWritten_57 (by decide) (fun h57 => ?_) (fun h57 => ?_)) | ((with_reducible refine mk_ll ?_); refine m_if_eq (tgt := 70) dX11_isWritten_57 (by decide) (by omega) (by omega) (fun h57 => ?_) (fun h57 => ?_)) | ((with_reducible refine mk_lc ?_); refine l_if_eq (tgt := 70) dX11_isWritten_57 (by decide) (fun h57 => ?_) (fun h57 => ?_)) | ((with_reducible refine mk_n ?_); refine n_if_eq (tgt := 70) dX11_isWritten_57 (by decide) (by omega) (fun h57 => ?_) (fun h57 => ?_)) | refine e_if_eq (tgt := 70) dX11_isWritten_57 (by decide) (fun h57 => ?_) (fun h57 => ?_)
    · try first | contradiction | omega | (simp only [decide_eq_true_eq, decide_eq_false_iff_not] at h57; omega)
      all_goals
        refine e_ret none rfl (r_void dX11_isWritten_70 rfl) ?_
        refine xq rfl rfl rfl ?_ rfl rfl
        unfold wrW
        rw [hmv]
    · try first | contradiction | omega | (simp only [decide_eq_true_eq, decide_eq_false_iff_not] at h57; omega)
      all_goals
        refine e_aload_n dX11_isWritten_60 rfl rfl ?_
        refine e_iload dX11_isWritten_61 rfl ?_
        refine e_iload_n dX11_isWritten_63 rfl rfl ?_
        refine x_V2 (M' := mX11_isInTrail) dX11_isWritten_64 ml_X11_133 ok_X11_isInTrail (by decide) rfl im_X11_isInTrail se_X11_isInTrail (by contradiction) (Nat.le_of_ble_eq_true rfl) (by decide) (Nat.le_of_ble_eq_true rfl) ?_
        first | ((with_reducible refine mk_b ?_); refine b_if_eq (tgt := 71) dX11_isWritten_67 (by decide) (fun h67 => ?_) (fun h67 => ?_)) | ((with_reducible refine mk_ll ?_); refine m_if_eq (tgt := 71) dX11_isWritten_67 (by decide) (by omega) (by omega) (fun h67 => ?_) (fun h67 => ?_)) | ((with_reducible refine mk_lc ?_); refine l_if_eq (tgt := 71) dX11_isWritten_67 (by decide) (fun h67 => ?_) (fun h67 => ?_)) | ((with_reducible refine mk_n ?_); refine n_if_eq (tgt := 71) dX11_isWritten_67 (by decide) (by omega) (fun h67 => ?_) (fun h67 => ?_)) | refine e_if_eq (tgt := 71) dX11_isWritten_67 (by decide) (fun h67 => ?_) (fun h67 => ?_)
        · try first | contradiction | omega | (simp only [decide_eq_true_eq, decide_eq_false_iff_not] at h67; omega)
          all_goals
            contradiction
        · try first | contradiction | omega | (simp only [decide_eq_true_eq, decide_eq_false_iff_not] at h67; omega)
          all_goals
            refine e_ret none rfl (r_void dX11_isWritten_70 rfl) ?_
            refine xq rfl rfl rfl ?_ rfl rfl
            unfold wrW
            rw [hmv]
  | some m =>
    have hm := mvL_lt hmv
    have hq := iv_mv iv hm
    have e3 : wr3 w k v 3 = w 3 := wr3_fr iv hk (by omega)
    have e6 : wr3 w k v (7694 + 72 * m + 6) = w (7694 + 72 * m + 6) := wr3_fr iv hk (by omega)
    have es : wr3 w k v (7694 + 72 * m + 0) = w (7694 + 72 * m + 0) := wr3_fr iv hk (by omega)
    have eT := inT_fr (w := w) (w' := wr3 w k v) (m := m) (fun q h1 h2 => wr3_fr iv hk (by omega)) (by omega) (by omega) k
    refine e_aload_n dX11_isWritten_0 rfl rfl ?_
    refine e_iload_n dX11_isWritten_1 rfl rfl ?_
    refine x_V1 (M' := mX11_spanWith) dX11_isWritten_2 ml_X11_58 ok_X11_spanWith (by decide) rfl im_X11_spanWith se_X11_spanWith (ct_X11_spanWith ‹_› ‹_› (by omega)) (Nat.le_of_ble_eq_true rfl) (by decide) (Nat.le_of_ble_eq_true rfl) ?_
    refine e_istore_n dX11_isWritten_5 rfl (Nat.le_of_ble_eq_true rfl) rfl ?_
    refine e_aload_n dX11_isWritten_6 rfl rfl ?_
    refine e_iload_n dX11_isWritten_7 rfl rfl ?_
    refine x_V1 (M' := mX11_moveOfSpan) dX11_isWritten_8 ml_X11_79 ok_X11_moveOfSpan (by decide) rfl im_X11_moveOfSpan se_X11_moveOfSpan (ct_X11_moveOfSpan ‹_› ‹_› (by omega)) (Nat.le_of_ble_eq_true rfl) (by decide) (Nat.le_of_ble_eq_true rfl) ?_
    rw [hmv]
    refine e_istore dX11_isWritten_11 (Nat.le_of_ble_eq_true rfl) rfl ?_
    refine e_aload_n dX11_isWritten_13 rfl rfl ?_
    refine e_getR dX11_isWritten_14 fl_X11_7 rfl (by assumption) ?_
    refine e_aload_n dX11_isWritten_17 rfl rfl ?_
    refine e_getR dX11_isWritten_18 fl_X11_7 rfl (by assumption) ?_
    refine e_bipush (v := nI 42) dX11_isWritten_21 rfl ?_
    refine e_iload_n dX11_isWritten_23 rfl rfl ?_
    first | ((with_reducible refine mk_nn ?_); refine n_iadd dX11_isWritten_24 ?_) | refine e_iadd dX11_isWritten_24 ?_
    first | ((with_reducible refine mk_ldw ?_); refine e_ldw dX11_isWritten_25 (by omega) ?_) | refine e_iald _ dX11_isWritten_25 ⟨by decide, by decide⟩ rfl rfl (by simp only [lenK]; omega) ?_
    refine e_iload_n dX11_isWritten_26 rfl rfl ?_
    refine x_S2 (M' := mX11_storeAt) dX11_isWritten_27 ml_X11_136 ok_X11_storeAt rfl sc_X11_storeAt (ct_X11_storeAt) (Nat.le_of_ble_eq_true rfl) (by decide) (Nat.le_of_ble_eq_true rfl) ?_
    refine e_iload_n dX11_isWritten_30 rfl rfl ?_
    first | ((with_reducible refine mk_stw ?_); refine e_stw dX11_isWritten_31 (by omega) ?_) | refine e_iast _ dX11_isWritten_31 ⟨by decide, by decide⟩ rfl rfl (by simp only [lenK]; omega) ?_
    refine e_aload_n dX11_isWritten_32 rfl rfl ?_
    refine e_getR dX11_isWritten_33 fl_X11_7 rfl (by assumption) ?_
    refine e_bipush (v := nI 106) dX11_isWritten_36 rfl ?_
    refine e_iload_n dX11_isWritten_38 rfl rfl ?_
    first | ((with_reducible refine mk_nn ?_); refine n_iadd dX11_isWritten_39 ?_) | refine e_iadd dX11_isWritten_39 ?_
    refine e_dup2 dX11_isWritten_40 rfl rfl ?_
    first | ((with_reducible refine mk_ldw ?_); refine e_ldw dX11_isWritten_41 (by omega) ?_) | refine e_iald _ dX11_isWritten_41 ⟨by decide, by decide⟩ rfl rfl (by simp only [lenK]; omega) ?_
    refine e_iconst (v := nI 2) dX11_isWritten_42 rfl ?_
    first | ((with_reducible refine mk_nn ?_); refine n_iadd dX11_isWritten_43 ?_) | refine e_iadd dX11_isWritten_43 ?_
    first | ((with_reducible refine mk_stw ?_); refine e_stw dX11_isWritten_44 (by omega) ?_) | refine e_iast _ dX11_isWritten_44 ⟨by decide, by decide⟩ rfl rfl (by simp only [lenK]; omega) ?_
    refine e_aload_n dX11_isWritten_45 rfl rfl ?_
    refine e_iconst (v := nI 1) dX11_isWritten_46 rfl ?_
    refine e_iconst (v := nI 1) dX11_isWritten_47 rfl ?_
    refine y_V2 (M' := mX11_counts) dX11_isWritten_48 ml_X11_97 ok_X11_counts (by decide) rfl im_X11_counts se_X11_counts (ct_X11_counts ‹_› (by omega)) (Nat.le_of_ble_eq_true rfl) (by decide) (Nat.le_of_ble_eq_true rfl) ?_
    simp (disch := omega) only [upN_n]; change EV _ _ _ _ _ _ _ _ _ (mW ai (wr3 w k v)) _ _ _
    refine e_aload_n dX11_isWritten_51 rfl rfl ?_
    refine e_iload dX11_isWritten_52 rfl ?_
    refine x_V1 (M' := mX11_isCatching) dX11_isWritten_54 ml_X11_130 ok_X11_isCatching (by decide) rfl im_X11_isCatching se_X11_isCatching (ct_X11_isCatching ‹_› iv3 (some m) (fun m' h => by cases h; omega)) (Nat.le_of_ble_eq_true rfl) (by decide) (Nat.le_of_ble_eq_true rfl) ?_
    first | ((with_reducible refine mk_b ?_); refine b_if_eq (tgt := 70) dX11_isWritten_57 (by decide) (fun h57 => ?_) (fun h57 => ?_)) | ((with_reducible refine mk_ll ?_); refine m_if_eq (tgt := 70) dX11_isWritten_57 (by decide) (by omega) (by omega) (fun h57 => ?_) (fun h57 => ?_)) | ((with_reducible refine mk_lc ?_); refine l_if_eq (tgt := 70) dX11_isWritten_57 (by decide) (fun h57 => ?_) (fun h57 => ?_)) | ((with_reducible refine mk_n ?_); refine n_if_eq (tgt := 70) dX11_isWritten_57 (by decide) (by omega) (fun h57 => ?_) (fun h57 => ?_)) | refine e_if_eq (tgt := 70) dX11_isWritten_57 (by decide) (fun h57 => ?_) (fun h57 => ?_)
    · try first | contradiction | omega | (simp only [decide_eq_true_eq, decide_eq_false_iff_not] at h57; omega)
      all_goals
        refine e_ret none rfl (r_void dX11_isWritten_70 rfl) ?_
        refine xq rfl rfl rfl ?_ rfl rfl
        unfold wrW
        rw [hmv]
        dsimp only
        simp only [ctB, es, decide_eq_true_eq, decide_eq_false_iff_not] at h57
        try rw [eT] at h67
        split
        all_goals first | rfl | (simp (disch := omega) only [upN_n]; rfl) | (simp_all; done) | omega
    · try first | contradiction | omega | (simp only [decide_eq_true_eq, decide_eq_false_iff_not] at h57; omega)
      all_goals
        refine e_aload_n dX11_isWritten_60 rfl rfl ?_
        refine e_iload dX11_isWritten_61 rfl ?_
        refine e_iload_n dX11_isWritten_63 rfl rfl ?_
        refine x_V2 (M' := mX11_isInTrail) dX11_isWritten_64 ml_X11_133 ok_X11_isInTrail (by decide) rfl im_X11_isInTrail se_X11_isInTrail (ct_X11_isInTrail ‹_› iv3 (by omega) (by omega)) (Nat.le_of_ble_eq_true rfl) (by decide) (Nat.le_of_ble_eq_true rfl) ?_
        first | ((with_reducible refine mk_b ?_); refine b_if_eq (tgt := 71) dX11_isWritten_67 (by decide) (fun h67 => ?_) (fun h67 => ?_)) | ((with_reducible refine mk_ll ?_); refine m_if_eq (tgt := 71) dX11_isWritten_67 (by decide) (by omega) (by omega) (fun h67 => ?_) (fun h67 => ?_)) | ((with_reducible refine mk_lc ?_); refine l_if_eq (tgt := 71) dX11_isWritten_67 (by decide) (fun h67 => ?_) (fun h67 => ?_)) | ((with_reducible refine mk_n ?_); refine n_if_eq (tgt := 71) dX11_isWritten_67 (by decide) (by omega) (fun h67 => ?_) (fun h67 => ?_)) | refine e_if_eq (tgt := 71) dX11_isWritten_67 (by decide) (fun h67 => ?_) (fun h67 => ?_)
        · try first | contradiction | omega | (simp only [decide_eq_true_eq, decide_eq_false_iff_not] at h67; omega)
          all_goals
            refine e_aload_n dX11_isWritten_71 rfl rfl ?_
            refine e_getR dX11_isWritten_72 fl_X11_7 rfl (by assumption) ?_
            refine e_iload dX11_isWritten_75 rfl ?_
            refine x_S1 (M' := mX11_moveAt) dX11_isWritten_77 ml_X11_62 ok_X11_moveAt rfl sc_X11_moveAt (ct_X11_moveAt) (Nat.le_of_ble_eq_true rfl) (by decide) (Nat.le_of_ble_eq_true rfl) ?_
            refine e_bipush (v := nI 12) dX11_isWritten_80 rfl ?_
            first | ((with_reducible refine mk_nn ?_); refine n_iadd dX11_isWritten_82 ?_) | refine e_iadd dX11_isWritten_82 ?_
            refine e_aload_n dX11_isWritten_83 rfl rfl ?_
            refine e_getR dX11_isWritten_84 fl_X11_7 rfl (by assumption) ?_
            refine e_iload dX11_isWritten_87 rfl ?_
            refine x_S1 (M' := mX11_moveAt) dX11_isWritten_89 ml_X11_62 ok_X11_moveAt rfl sc_X11_moveAt (ct_X11_moveAt) (Nat.le_of_ble_eq_true rfl) (by decide) (Nat.le_of_ble_eq_true rfl) ?_
            refine e_bipush (v := nI 6) dX11_isWritten_92 rfl ?_
            first | ((with_reducible refine mk_nn ?_); refine n_iadd dX11_isWritten_94 ?_) | refine e_iadd dX11_isWritten_94 ?_
            first | ((with_reducible refine mk_ldw ?_); refine e_ldw dX11_isWritten_95 (by omega) ?_) | refine e_iald _ dX11_isWritten_95 ⟨by decide, by decide⟩ rfl rfl (by simp only [lenK]; omega) ?_
            first | ((with_reducible refine mk_nn ?_); refine n_iadd dX11_isWritten_96 ?_) | refine e_iadd dX11_isWritten_96 ?_
            refine e_iload_n dX11_isWritten_97 rfl rfl ?_
            first | ((with_reducible refine mk_stw ?_); refine e_stw dX11_isWritten_98 (by omega) ?_) | refine e_iast _ dX11_isWritten_98 ⟨by decide, by decide⟩ rfl rfl (by simp only [lenK]; omega) ?_
            refine e_aload_n dX11_isWritten_99 rfl rfl ?_
            refine e_getR dX11_isWritten_100 fl_X11_7 rfl (by assumption) ?_
            refine e_iload dX11_isWritten_103 rfl ?_
            refine x_S1 (M' := mX11_moveAt) dX11_isWritten_105 ml_X11_62 ok_X11_moveAt rfl sc_X11_moveAt (ct_X11_moveAt) (Nat.le_of_ble_eq_true rfl) (by decide) (Nat.le_of_ble_eq_true rfl) ?_
            refine e_bipush (v := nI 6) dX11_isWritten_108 rfl ?_
            first | ((with_reducible refine mk_nn ?_); refine n_iadd dX11_isWritten_110 ?_) | refine e_iadd dX11_isWritten_110 ?_
            refine e_dup2 dX11_isWritten_111 rfl rfl ?_
            first | ((with_reducible refine mk_ldw ?_); refine e_ldw dX11_isWritten_112 (by omega) ?_) | refine e_iald _ dX11_isWritten_112 ⟨by decide, by decide⟩ rfl rfl (by simp only [lenK]; omega) ?_
            refine e_iconst (v := nI 1) dX11_isWritten_113 rfl ?_
            first | ((with_reducible refine mk_nn ?_); refine n_iadd dX11_isWritten_114 ?_) | refine e_iadd dX11_isWritten_114 ?_
            first | ((with_reducible refine mk_stw ?_); refine e_stw dX11_isWritten_115 (by omega) ?_) | refine e_iast _ dX11_isWritten_115 ⟨by decide, by decide⟩ rfl rfl (by simp only [lenK]; omega) ?_
            refine e_ret none rfl (r_void dX11_isWritten_116 rfl) ?_
            refine xq rfl rfl rfl ?_ rfl rfl
            unfold wrW
            rw [hmv]
            dsimp only
            simp only [ctB, es, decide_eq_true_eq, decide_eq_false_iff_not] at h57
            try rw [eT] at h67
            split
            all_goals first | rfl | (simp (disch := omega) only [upN_n]; rfl) | (simp_all; done) | omega
        · try first | contradiction | omega | (simp only [decide_eq_true_eq, decide_eq_false_iff_not] at h67; omega)
          all_goals
            refine e_ret none rfl (r_void dX11_isWritten_70 rfl) ?_
            refine xq rfl rfl rfl ?_ rfl rfl
            unfold wrW
            rw [hmv]
            dsimp only
            simp only [ctB, es, decide_eq_true_eq, decide_eq_false_iff_not] at h57
            try rw [eT] at h67
            split
            all_goals first | rfl | (simp (disch := omega) only [upN_n]; rfl) | (simp_all; done) | omega
def ask1 (w : Nat → Nat) (c : Nat) : Nat → Nat := upN w (8573 + 4 * c) (w (8573 + 4 * c) + 1)
def asA (w : Nat → Nat) (c k v : Nat) : Nat := if anF w c k = 0 ∧ 0 < v ∧ fzK w k = true then 4 else anF w c k
def ask3 (w : Nat → Nat) (c k : Nat) : Nat → Nat := upN (upN (ask1 w c) (8573 + 4 * c + 2) (w (8573 + 4 * c + 2) + 1)) (8573 + 4 * c + 3) (w (74 + spW w k))
def askW (w : Nat → Nat) (c k v : Nat) : Nat → Nat :=
  if asA w c k v = 0 then
    (if 0 < v then wrW (upN (ask1 w c) (8573 + 4 * c + 1) (w (8573 + 4 * c + 1) + 1)) k v
     else upN (upN (upN (ask1 w c) (8573 + 4 * c + 1) (w (8573 + 4 * c + 1) + 1)) (106 + k) (w (106 + k) + 1)) (8558 + 0) (w (8558 + 0) + 1))
  else if asA w c k v = 3 then upN (ask3 w c k) (8558 + (1 + 3)) (w (8558 + (1 + 3)) + 1)
  else upN (ask1 w c) (8558 + (1 + asA w c k v)) (w (8558 + (1 + asA w c k v)) + 1)
def askF (fi : FI) (w : Nat → Nat) (c k v : Nat) (sc : Bool) : FI := if asA w c k v = 0 then forF fi sc else fi
theorem ask1_fr (w : Nat → Nat) (c q : Nat) (h : q < 8558) : ask1 w c q = w q := upN_n (by omega)
theorem ct_X11_asks {fi : FI} {fr : FR} {ai : FI} {ar : FR} {N : Nat} {w : Nat → Nat} (sm : SM fr) (iv : Inv w) {c k v : Nat} (hc : c < 6) (hk : k < 1000) (hv : v ≤ 99999) (hw2 : w (106 + k) + 2 ≤ 100000) {sc : Bool} (hsc : fi (32 * 11 + 8) (rf 11 80) = bI sc) : CP mX11_asks 4 0 0 [.ref (rf 11 80), .int (nI c), .int (nI k), .int (nI v)] fi fr (mW ai w) ar N (xQ (some (.int (nI (asA w c k v)))) (askF fi w c k v sc) fr (mW ai (askW w c k v)) ar N) := by
  obtain ⟨sW, sA, sK, sU, sC, sKC, sT, sCl⟩ := id sm
  have h1 := iv_n iv
  have h3 := iv_mm iv
  have hsp := spW_lt iv k
  have hso := iv_own iv hsp
  have han := anF_le w c k
  have iv1 : Inv (ask1 w c) := Inv_fr (fun q hq => ask1_fr w c q hq) iv
  have hs1 : spW (ask1 w c) k = spW w k := spW_fr (ask1_fr w c 1 (by omega)) (fun j hj => ask1_fr w c _ (by omega)) iv k
  change EV mX11_asks 4 0 0 0 [some (.ref (rf 11 80)), some (.int (nI c)), some (.int (nI k)), some (.int (nI v)), none] [] fi fr (mW ai w) ar N (xQ (some (.int (nI (asA w c k v)))) (askF fi w c k v sc) fr (mW ai (askW w c k v)) ar N)
  have KK : ∀ a, a = asA w c k v → EV mX11_asks 4 0 0 44 [some (.ref (rf 11 80)), some (.int (nI c)), some (.int (nI k)), some (.int (nI v)), some (.int (nI a))] [] fi fr (mW ai (ask1 w c)) ar N (xQ (some (.int (nI (asA w c k v)))) (askF fi w c k v sc) fr (mW ai (askW w c k v)) ar N) := by
    intro a ha
    have ha4 : a ≤ 4 := by rw [ha]; unfold asA; split <;> omega
    have ivX : Inv (upN (ask1 w c) (8573 + 4 * c + 2) (w (8573 + 4 * c + 2) + 1)) := Inv_fr (fun q hq => by rw [upN_n (by omega)]; exact ask1_fr w c q hq) iv
    have hsX : spW (upN (ask1 w c) (8573 + 4 * c + 2) (w (8573 + 4 * c + 2) + 1)) k = spW w k := spW_fr (by rw [upN_n (by omega)]; exact ask1_fr w c 1 (by omega)) (fun j hj => by rw [upN_n (by omega)]; exact ask1_fr w c _ (by omega)) iv k
    have ivY : Inv (upN (ask1 w c) (8573 + 4 * c + 1) (w (8573 + 4 * c + 1) + 1)) := Inv_fr (fun q hq => by rw [upN_n (by omega)]; exact ask1_fr w c q hq) iv
    have r2 : ask1 w c (8573 + 4 * c + 2) = w (8573 + 4 * c + 2) := upN_n (by omega)
    have r1 : ask1 w c (8573 + 4 * c + 1) = w (8573 + 4 * c + 1) := upN_n (by omega)
    have r7 : ask1 w c (74 + spW w k) = w (74 + spW w k) := upN_n (by omega)
    have rw6 : ask1 w c (106 + k) = w (106 + k) := upN_n (by omega)
    have rcn : ∀ q, q < 15 → ask1 w c (8558 + q) = w (8558 + q) := fun q hq => upN_n (by omega)
    refine e_iload dX11_asks_44 rfl ?_
    refine e_iconst (v := nI 3) dX11_asks_46 rfl ?_
    first | ((with_reducible refine mk_mo ?_); refine p_icmp_ne (tgt := 95) dX11_asks_47 (by decide) (fun h47 => ?_) (fun h47 => ?_)) | ((with_reducible refine mk_ms ?_); refine s_icmp_ne (tgt := 95) dX11_asks_47 (by decide) (by omega) (fun h47 => ?_) (fun h47 => ?_)) | ((with_reducible refine mk_mn ?_); refine q_icmp_ne (tgt := 95) dX11_asks_47 (by decide) (by omega) (fun h47 => ?_) (fun h47 => ?_)) | ((with_reducible refine mk_nn ?_); refine n_icmp_ne (tgt := 95) dX11_asks_47 (by decide) (by omega) (by omega) (fun h47 => ?_) (fun h47 => ?_)) | refine e_icmp_ne (tgt := 95) dX11_asks_47 (by decide) (fun h47 => ?_) (fun h47 => ?_)
    · try first | contradiction | omega
      all_goals
        refine e_iload dX11_asks_95 rfl ?_
        first | ((with_reducible refine mk_ll ?_); refine m_if_le (tgt := 112) dX11_asks_97 (by decide) (by omega) (by omega) (fun h97 => ?_) (fun h97 => ?_)) | ((with_reducible refine mk_lc ?_); refine l_if_le (tgt := 112) dX11_asks_97 (by decide) (fun h97 => ?_) (fun h97 => ?_)) | ((with_reducible refine mk_n ?_); refine n_if_le (tgt := 112) dX11_asks_97 (by decide) (by omega) (fun h97 => ?_) (fun h97 => ?_)) | refine e_if_le (tgt := 112) dX11_asks_97 (by decide) (fun h97 => ?_) (fun h97 => ?_)
        · try first | contradiction | omega
          all_goals
            refine e_aload_n dX11_asks_112 rfl rfl ?_
            refine e_getR dX11_asks_113 fl_X11_7 rfl (by assumption) ?_
            refine e_sipush (v := nI 8573) dX11_asks_116 rfl ?_
            refine e_iconst (v := nI 4) dX11_asks_119 rfl ?_
            refine e_iload_n dX11_asks_120 rfl rfl ?_
            first | ((with_reducible refine mk_nn ?_); refine n_imul dX11_asks_121 ?_) | refine e_imul dX11_asks_121 ?_
            first | ((with_reducible refine mk_nn ?_); refine n_iadd dX11_asks_122 ?_) | refine e_iadd dX11_asks_122 ?_
            refine e_iconst (v := nI 1) dX11_asks_123 rfl ?_
            first | ((with_reducible refine mk_nn ?_); refine n_iadd dX11_asks_124 ?_) | refine e_iadd dX11_asks_124 ?_
            refine e_dup2 dX11_asks_125 rfl rfl ?_
            first | ((with_reducible refine mk_ldw ?_); refine e_ldw dX11_asks_126 (by omega) ?_) | refine e_iald _ dX11_asks_126 ⟨by decide, by decide⟩ rfl rfl (by simp only [lenK]; omega) ?_
            refine e_iconst (v := nI 1) dX11_asks_127 rfl ?_
            first | ((with_reducible refine mk_nn ?_); refine n_iadd dX11_asks_128 ?_) | refine e_iadd dX11_asks_128 ?_
            first | ((with_reducible refine mk_stw ?_); refine e_stw dX11_asks_129 (by omega) ?_) | refine e_iast _ dX11_asks_129 ⟨by decide, by decide⟩ rfl rfl (by simp only [lenK]; omega) ?_
            refine e_aload_n dX11_asks_130 rfl rfl ?_
            refine y_V0 (M' := mX11_forgets) dX11_asks_131 ml_X11_124 ok_X11_forgets (by decide) rfl im_X11_forgets se_X11_forgets (ct_X11_forgets ‹_› hsc) (Nat.le_of_ble_eq_true rfl) (by decide) (Nat.le_of_ble_eq_true rfl) ?_
            refine e_iload_n dX11_asks_134 rfl rfl ?_
            try simp only [r1]
            first | ((with_reducible refine mk_ll ?_); refine m_if_le (tgt := 147) dX11_asks_135 (by decide) (by omega) (by omega) (fun h135 => ?_) (fun h135 => ?_)) | ((with_reducible refine mk_lc ?_); refine l_if_le (tgt := 147) dX11_asks_135 (by decide) (fun h135 => ?_) (fun h135 => ?_)) | ((with_reducible refine mk_n ?_); refine n_if_le (tgt := 147) dX11_asks_135 (by decide) (by omega) (fun h135 => ?_) (fun h135 => ?_)) | refine e_if_le (tgt := 147) dX11_asks_135 (by decide) (fun h135 => ?_) (fun h135 => ?_)
            · try first | contradiction | omega
              all_goals
                refine e_aload_n dX11_asks_147 rfl rfl ?_
                refine e_getR dX11_asks_148 fl_X11_7 rfl (by assumption) ?_
                refine e_bipush (v := nI 106) dX11_asks_151 rfl ?_
                refine e_iload_n dX11_asks_153 rfl rfl ?_
                first | ((with_reducible refine mk_nn ?_); refine n_iadd dX11_asks_154 ?_) | refine e_iadd dX11_asks_154 ?_
                refine e_dup2 dX11_asks_155 rfl rfl ?_
                first | ((with_reducible refine mk_ldw ?_); refine e_ldw dX11_asks_156 (by omega) ?_) | refine e_iald _ dX11_asks_156 ⟨by decide, by decide⟩ rfl rfl (by simp only [lenK]; omega) ?_
                refine e_iconst (v := nI 1) dX11_asks_157 rfl ?_
                first | ((with_reducible refine mk_nn ?_); refine n_iadd dX11_asks_158 ?_) | refine e_iadd dX11_asks_158 ?_
                first | ((with_reducible refine mk_stw ?_); refine e_stw dX11_asks_159 (by omega) ?_) | refine e_iast _ dX11_asks_159 ⟨by decide, by decide⟩ rfl rfl (by simp only [lenK]; omega) ?_
                refine e_aload_n dX11_asks_160 rfl rfl ?_
                refine e_iconst (v := nI 0) dX11_asks_161 rfl ?_
                refine e_iconst (v := nI 1) dX11_asks_162 rfl ?_
                refine y_V2 (M' := mX11_counts) dX11_asks_163 ml_X11_97 ok_X11_counts (by decide) rfl im_X11_counts se_X11_counts (ct_X11_counts ‹_› (by omega)) (Nat.le_of_ble_eq_true rfl) (by decide) (Nat.le_of_ble_eq_true rfl) ?_
                refine e_iconst (v := nI 0) dX11_asks_166 rfl ?_
                refine e_ret (some _) rfl (r_int dX11_asks_167 rfl) ?_
                refine xq (by first | (rw [← ha]; done) | (rw [← ha]; congr 3; omega)) ?_ rfl ?_ rfl rfl
                · unfold askF; rw [← ha]; first | rw [if_pos (by omega)] | rw [if_neg (by omega)]
                · try simp (disch := omega) only [upN_n, r1, r2, r7, rw6, rcn]
                  unfold askW; rw [← ha]; repeat' split
                  all_goals first | rfl | omega | (subst_vars; rfl) | (unfold ask3; subst_vars; rfl) | (unfold ask3; grind)
            · try first | contradiction | omega
              all_goals
                refine e_aload_n dX11_asks_138 rfl rfl ?_
                refine e_iload_n dX11_asks_139 rfl rfl ?_
                refine e_iload_n dX11_asks_140 rfl rfl ?_
                refine y_V2 (M' := mX11_isWritten) dX11_asks_141 ml_X11_146 ok_X11_isWritten (by decide) rfl im_X11_isWritten se_X11_isWritten (ct_X11_isWritten ‹_› ivY (by omega) (by omega) (by rw [upN_n (by omega), rw6]; omega)) (Nat.le_of_ble_eq_true rfl) (by decide) (Nat.le_of_ble_eq_true rfl) ?_
                refine e_goto (tgt := 166) dX11_asks_144 (by decide) ?_
                refine e_iconst (v := nI 0) dX11_asks_166 rfl ?_
                refine e_ret (some _) rfl (r_int dX11_asks_167 rfl) ?_
                refine xq (by first | (rw [← ha]; done) | (rw [← ha]; congr 3; omega)) ?_ rfl ?_ rfl rfl
                · unfold askF; rw [← ha]; first | rw [if_pos (by omega)] | rw [if_neg (by omega)]
                · try simp (disch := omega) only [upN_n, r1, r2, r7, rw6, rcn]
                  unfold askW; rw [← ha]; repeat' split
                  all_goals first | rfl | omega | (subst_vars; rfl) | (unfold ask3; subst_vars; rfl) | (unfold ask3; grind)
        · try first | contradiction | omega
          all_goals
            refine e_aload_n dX11_asks_100 rfl rfl ?_
            refine e_iconst (v := nI 1) dX11_asks_101 rfl ?_
            refine e_iload dX11_asks_102 rfl ?_
            first | ((with_reducible refine mk_nn ?_); refine n_iadd dX11_asks_104 ?_) | refine e_iadd dX11_asks_104 ?_
            refine e_iconst (v := nI 1) dX11_asks_105 rfl ?_
            refine y_V2 (M' := mX11_counts) dX11_asks_106 ml_X11_97 ok_X11_counts (by decide) rfl im_X11_counts se_X11_counts (ct_X11_counts ‹_› (by omega)) (Nat.le_of_ble_eq_true rfl) (by decide) (Nat.le_of_ble_eq_true rfl) ?_
            refine e_iload dX11_asks_109 rfl ?_
            refine e_ret (some _) rfl (r_int dX11_asks_111 rfl) ?_
            refine xq (by first | (rw [← ha]; done) | (rw [← ha]; congr 3; omega)) ?_ rfl ?_ rfl rfl
            · unfold askF; rw [← ha]; first | rw [if_pos (by omega)] | rw [if_neg (by omega)]
            · try simp (disch := omega) only [upN_n, r1, r2, r7, rw6, rcn]
              unfold askW; rw [← ha]; repeat' split
              all_goals first | rfl | omega | (subst_vars; rfl) | (unfold ask3; subst_vars; rfl) | (unfold ask3; grind)
    · try first | contradiction | omega
      all_goals
        refine e_aload_n dX11_asks_50 rfl rfl ?_
        refine e_getR dX11_asks_51 fl_X11_7 rfl (by assumption) ?_
        refine e_sipush (v := nI 8573) dX11_asks_54 rfl ?_
        refine e_iconst (v := nI 4) dX11_asks_57 rfl ?_
        refine e_iload_n dX11_asks_58 rfl rfl ?_
        first | ((with_reducible refine mk_nn ?_); refine n_imul dX11_asks_59 ?_) | refine e_imul dX11_asks_59 ?_
        first | ((with_reducible refine mk_nn ?_); refine n_iadd dX11_asks_60 ?_) | refine e_iadd dX11_asks_60 ?_
        refine e_iconst (v := nI 2) dX11_asks_61 rfl ?_
        first | ((with_reducible refine mk_nn ?_); refine n_iadd dX11_asks_62 ?_) | refine e_iadd dX11_asks_62 ?_
        refine e_dup2 dX11_asks_63 rfl rfl ?_
        first | ((with_reducible refine mk_ldw ?_); refine e_ldw dX11_asks_64 (by omega) ?_) | refine e_iald _ dX11_asks_64 ⟨by decide, by decide⟩ rfl rfl (by simp only [lenK]; omega) ?_
        refine e_iconst (v := nI 1) dX11_asks_65 rfl ?_
        first | ((with_reducible refine mk_nn ?_); refine n_iadd dX11_asks_66 ?_) | refine e_iadd dX11_asks_66 ?_
        first | ((with_reducible refine mk_stw ?_); refine e_stw dX11_asks_67 (by omega) ?_) | refine e_iast _ dX11_asks_67 ⟨by decide, by decide⟩ rfl rfl (by simp only [lenK]; omega) ?_
        refine e_aload_n dX11_asks_68 rfl rfl ?_
        refine e_getR dX11_asks_69 fl_X11_7 rfl (by assumption) ?_
        try simp (disch := omega) only [r2]
        refine e_sipush (v := nI 8573) dX11_asks_72 rfl ?_
        refine e_iconst (v := nI 4) dX11_asks_75 rfl ?_
        refine e_iload_n dX11_asks_76 rfl rfl ?_
        first | ((with_reducible refine mk_nn ?_); refine n_imul dX11_asks_77 ?_) | refine e_imul dX11_asks_77 ?_
        first | ((with_reducible refine mk_nn ?_); refine n_iadd dX11_asks_78 ?_) | refine e_iadd dX11_asks_78 ?_
        refine e_iconst (v := nI 3) dX11_asks_79 rfl ?_
        first | ((with_reducible refine mk_nn ?_); refine n_iadd dX11_asks_80 ?_) | refine e_iadd dX11_asks_80 ?_
        refine e_aload_n dX11_asks_81 rfl rfl ?_
        refine e_getR dX11_asks_82 fl_X11_7 rfl (by assumption) ?_
        refine e_bipush (v := nI 74) dX11_asks_85 rfl ?_
        refine e_aload_n dX11_asks_87 rfl rfl ?_
        refine e_iload_n dX11_asks_88 rfl rfl ?_
        refine x_V1 (M' := mX11_spanWith) dX11_asks_89 ml_X11_58 ok_X11_spanWith (by decide) rfl im_X11_spanWith se_X11_spanWith (ct_X11_spanWith ‹_› ivX (by omega)) (Nat.le_of_ble_eq_true rfl) (by decide) (Nat.le_of_ble_eq_true rfl) ?_
        rw [hsX]
        first | ((with_reducible refine mk_nn ?_); refine n_iadd dX11_asks_92 ?_) | refine e_iadd dX11_asks_92 ?_
        first | ((with_reducible refine mk_ldw ?_); refine e_ldw dX11_asks_93 (by omega) ?_) | refine e_iald _ dX11_asks_93 ⟨by decide, by decide⟩ rfl rfl (by simp only [lenK]; omega) ?_
        first | ((with_reducible refine mk_stw ?_); refine e_stw dX11_asks_94 (by omega) ?_) | refine e_iast _ dX11_asks_94 ⟨by decide, by decide⟩ rfl rfl (by simp only [lenK]; omega) ?_
        refine e_iload dX11_asks_95 rfl ?_
        first | ((with_reducible refine mk_ll ?_); refine m_if_le (tgt := 112) dX11_asks_97 (by decide) (by omega) (by omega) (fun h97 => ?_) (fun h97 => ?_)) | ((with_reducible refine mk_lc ?_); refine l_if_le (tgt := 112) dX11_asks_97 (by decide) (fun h97 => ?_) (fun h97 => ?_)) | ((with_reducible refine mk_n ?_); refine n_if_le (tgt := 112) dX11_asks_97 (by decide) (by omega) (fun h97 => ?_) (fun h97 => ?_)) | refine e_if_le (tgt := 112) dX11_asks_97 (by decide) (fun h97 => ?_) (fun h97 => ?_)
        · try first | contradiction | omega
          all_goals
            refine e_aload_n dX11_asks_112 rfl rfl ?_
            refine e_getR dX11_asks_113 fl_X11_7 rfl (by assumption) ?_
            refine e_sipush (v := nI 8573) dX11_asks_116 rfl ?_
            refine e_iconst (v := nI 4) dX11_asks_119 rfl ?_
            refine e_iload_n dX11_asks_120 rfl rfl ?_
            first | ((with_reducible refine mk_nn ?_); refine n_imul dX11_asks_121 ?_) | refine e_imul dX11_asks_121 ?_
            first | ((with_reducible refine mk_nn ?_); refine n_iadd dX11_asks_122 ?_) | refine e_iadd dX11_asks_122 ?_
            refine e_iconst (v := nI 1) dX11_asks_123 rfl ?_
            first | ((with_reducible refine mk_nn ?_); refine n_iadd dX11_asks_124 ?_) | refine e_iadd dX11_asks_124 ?_
            refine e_dup2 dX11_asks_125 rfl rfl ?_
            first | ((with_reducible refine mk_ldw ?_); refine e_ldw dX11_asks_126 (by omega) ?_) | refine e_iald _ dX11_asks_126 ⟨by decide, by decide⟩ rfl rfl (by simp only [lenK]; omega) ?_
            refine e_iconst (v := nI 1) dX11_asks_127 rfl ?_
            first | ((with_reducible refine mk_nn ?_); refine n_iadd dX11_asks_128 ?_) | refine e_iadd dX11_asks_128 ?_
            first | ((with_reducible refine mk_stw ?_); refine e_stw dX11_asks_129 (by omega) ?_) | refine e_iast _ dX11_asks_129 ⟨by decide, by decide⟩ rfl rfl (by simp only [lenK]; omega) ?_
            refine e_aload_n dX11_asks_130 rfl rfl ?_
            refine y_V0 (M' := mX11_forgets) dX11_asks_131 ml_X11_124 ok_X11_forgets (by decide) rfl im_X11_forgets se_X11_forgets (ct_X11_forgets ‹_› hsc) (Nat.le_of_ble_eq_true rfl) (by decide) (Nat.le_of_ble_eq_true rfl) ?_
            refine e_iload_n dX11_asks_134 rfl rfl ?_
            try simp only [r1]
            first | ((with_reducible refine mk_ll ?_); refine m_if_le (tgt := 147) dX11_asks_135 (by decide) (by omega) (by omega) (fun h135 => ?_) (fun h135 => ?_)) | ((with_reducible refine mk_lc ?_); refine l_if_le (tgt := 147) dX11_asks_135 (by decide) (fun h135 => ?_) (fun h135 => ?_)) | ((with_reducible refine mk_n ?_); refine n_if_le (tgt := 147) dX11_asks_135 (by decide) (by omega) (fun h135 => ?_) (fun h135 => ?_)) | refine e_if_le (tgt := 147) dX11_asks_135 (by decide) (fun h135 => ?_) (fun h135 => ?_)
            · try first | contradiction | omega
              all_goals
                refine e_aload_n dX11_asks_147 rfl rfl ?_
                refine e_getR dX11_asks_148 fl_X11_7 rfl (by assumption) ?_
                refine e_bipush (v := nI 106) dX11_asks_151 rfl ?_
                refine e_iload_n dX11_asks_153 rfl rfl ?_
                first | ((with_reducible refine mk_nn ?_); refine n_iadd dX11_asks_154 ?_) | refine e_iadd dX11_asks_154 ?_
                refine e_dup2 dX11_asks_155 rfl rfl ?_
                first | ((with_reducible refine mk_ldw ?_); refine e_ldw dX11_asks_156 (by omega) ?_) | refine e_iald _ dX11_asks_156 ⟨by decide, by decide⟩ rfl rfl (by simp only [lenK]; omega) ?_
                refine e_iconst (v := nI 1) dX11_asks_157 rfl ?_
                first | ((with_reducible refine mk_nn ?_); refine n_iadd dX11_asks_158 ?_) | refine e_iadd dX11_asks_158 ?_
                first | ((with_reducible refine mk_stw ?_); refine e_stw dX11_asks_159 (by omega) ?_) | refine e_iast _ dX11_asks_159 ⟨by decide, by decide⟩ rfl rfl (by simp only [lenK]; omega) ?_
                refine e_aload_n dX11_asks_160 rfl rfl ?_
                refine e_iconst (v := nI 0) dX11_asks_161 rfl ?_
                refine e_iconst (v := nI 1) dX11_asks_162 rfl ?_
                refine y_V2 (M' := mX11_counts) dX11_asks_163 ml_X11_97 ok_X11_counts (by decide) rfl im_X11_counts se_X11_counts (ct_X11_counts ‹_› (by omega)) (Nat.le_of_ble_eq_true rfl) (by decide) (Nat.le_of_ble_eq_true rfl) ?_
                refine e_iconst (v := nI 0) dX11_asks_166 rfl ?_
                refine e_ret (some _) rfl (r_int dX11_asks_167 rfl) ?_
                refine xq (by first | (rw [← ha]; done) | (rw [← ha]; congr 3; omega)) ?_ rfl ?_ rfl rfl
                · unfold askF; rw [← ha]; first | rw [if_pos (by omega)] | rw [if_neg (by omega)]
                · try simp (disch := omega) only [upN_n, r1, r2, r7, rw6, rcn]
                  unfold askW; rw [← ha]; repeat' split
                  all_goals first | rfl | omega | (subst_vars; rfl) | (unfold ask3; subst_vars; rfl) | (unfold ask3; grind)
            · try first | contradiction | omega
              all_goals
                refine e_aload_n dX11_asks_138 rfl rfl ?_
                refine e_iload_n dX11_asks_139 rfl rfl ?_
                refine e_iload_n dX11_asks_140 rfl rfl ?_
                refine y_V2 (M' := mX11_isWritten) dX11_asks_141 ml_X11_146 ok_X11_isWritten (by decide) rfl im_X11_isWritten se_X11_isWritten (ct_X11_isWritten ‹_› ivY (by omega) (by omega) (by rw [upN_n (by omega), rw6]; omega)) (Nat.le_of_ble_eq_true rfl) (by decide) (Nat.le_of_ble_eq_true rfl) ?_
                refine e_goto (tgt := 166) dX11_asks_144 (by decide) ?_
                refine e_iconst (v := nI 0) dX11_asks_166 rfl ?_
                refine e_ret (some _) rfl (r_int dX11_asks_167 rfl) ?_
                refine xq (by first | (rw [← ha]; done) | (rw [← ha]; congr 3; omega)) ?_ rfl ?_ rfl rfl
                · unfold askF; rw [← ha]; first | rw [if_pos (by omega)] | rw [if_neg (by omega)]
                · try simp (disch := omega) only [upN_n, r1, r2, r7, rw6, rcn]
                  unfold askW; rw [← ha]; repeat' split
                  all_goals first | rfl | omega | (subst_vars; rfl) | (unfold ask3; subst_vars; rfl) | (unfold ask3; grind)
        · try first | contradiction | omega
          all_goals
            refine e_aload_n dX11_asks_100 rfl rfl ?_
            refine e_iconst (v := nI 1) dX11_asks_101 rfl ?_
            refine e_iload dX11_asks_102 rfl ?_
            first | ((with_reducible refine mk_nn ?_); refine n_iadd dX11_asks_104 ?_) | refine e_iadd dX11_asks_104 ?_
            refine e_iconst (v := nI 1) dX11_asks_105 rfl ?_
            refine y_V2 (M' := mX11_counts) dX11_asks_106 ml_X11_97 ok_X11_counts (by decide) rfl im_X11_counts se_X11_counts (ct_X11_counts ‹_› (by omega)) (Nat.le_of_ble_eq_true rfl) (by decide) (Nat.le_of_ble_eq_true rfl) ?_
            refine e_iload dX11_asks_109 rfl ?_
            refine e_ret (some _) rfl (r_int dX11_asks_111 rfl) ?_
            refine xq (by first | (rw [← ha]; done) | (rw [← ha]; congr 3; omega)) ?_ rfl ?_ rfl rfl
            · unfold askF; rw [← ha]; first | rw [if_pos (by omega)] | rw [if_neg (by omega)]
            · try simp (disch := omega) only [upN_n, r1, r2, r7, rw6, rcn]
              unfold askW; rw [← ha]; repeat' split
              all_goals first | rfl | omega | (subst_vars; rfl) | (unfold ask3; subst_vars; rfl) | (unfold ask3; grind)
  refine e_aload_n dX11_asks_0 rfl rfl ?_
  refine e_iload_n dX11_asks_1 rfl rfl ?_
  refine e_iload_n dX11_asks_2 rfl rfl ?_
  refine x_V2 (M' := mX11_answerBy) dX11_asks_3 ml_X11_140 ok_X11_answerBy (by decide) rfl im_X11_answerBy se_X11_answerBy (ct_X11_answerBy ‹_› ‹_› (by omega) (by omega)) (Nat.le_of_ble_eq_true rfl) (by decide) (Nat.le_of_ble_eq_true rfl) ?_
  refine e_istore dX11_asks_6 (Nat.le_of_ble_eq_true rfl) rfl ?_
  refine e_iload dX11_asks_8 rfl ?_
  first | ((with_reducible refine mk_b ?_); refine b_if_ne (tgt := 28) dX11_asks_10 (by decide) (fun h10 => ?_) (fun h10 => ?_)) | ((with_reducible refine mk_ll ?_); refine m_if_ne (tgt := 28) dX11_asks_10 (by decide) (by omega) (by omega) (fun h10 => ?_) (fun h10 => ?_)) | ((with_reducible refine mk_lc ?_); refine l_if_ne (tgt := 28) dX11_asks_10 (by decide) (fun h10 => ?_) (fun h10 => ?_)) | ((with_reducible refine mk_n ?_); refine n_if_ne (tgt := 28) dX11_asks_10 (by decide) (by omega) (fun h10 => ?_) (fun h10 => ?_)) | refine e_if_ne (tgt := 28) dX11_asks_10 (by decide) (fun h10 => ?_) (fun h10 => ?_)
  · try first | contradiction | omega | (simp only [decide_eq_true_eq, decide_eq_false_iff_not] at h10; omega)
    all_goals
      refine e_aload_n dX11_asks_28 rfl rfl ?_
      refine e_getR dX11_asks_29 fl_X11_7 rfl (by assumption) ?_
      refine e_sipush (v := nI 8573) dX11_asks_32 rfl ?_
      refine e_iconst (v := nI 4) dX11_asks_35 rfl ?_
      refine e_iload_n dX11_asks_36 rfl rfl ?_
      first | ((with_reducible refine mk_nn ?_); refine n_imul dX11_asks_37 ?_) | refine e_imul dX11_asks_37 ?_
      first | ((with_reducible refine mk_nn ?_); refine n_iadd dX11_asks_38 ?_) | refine e_iadd dX11_asks_38 ?_
      refine e_dup2 dX11_asks_39 rfl rfl ?_
      first | ((with_reducible refine mk_ldw ?_); refine e_ldw dX11_asks_40 (by omega) ?_) | refine e_iald _ dX11_asks_40 ⟨by decide, by decide⟩ rfl rfl (by simp only [lenK]; omega) ?_
      refine e_iconst (v := nI 1) dX11_asks_41 rfl ?_
      first | ((with_reducible refine mk_nn ?_); refine n_iadd dX11_asks_42 ?_) | refine e_iadd dX11_asks_42 ?_
      first | ((with_reducible refine mk_stw ?_); refine e_stw dX11_asks_43 (by omega) ?_) | refine e_iast _ dX11_asks_43 ⟨by decide, by decide⟩ rfl rfl (by simp only [lenK]; omega) ?_
      refine KK _ ?_
      clear KK
      unfold asA
      split
      all_goals first | omega | (simp_all; done) | (simp_all; omega)
  · try first | contradiction | omega | (simp only [decide_eq_true_eq, decide_eq_false_iff_not] at h10; omega)
    all_goals
      refine e_iload_n dX11_asks_13 rfl rfl ?_
      first | ((with_reducible refine mk_ll ?_); refine m_if_le (tgt := 28) dX11_asks_14 (by decide) (by omega) (by omega) (fun h14 => ?_) (fun h14 => ?_)) | ((with_reducible refine mk_lc ?_); refine l_if_le (tgt := 28) dX11_asks_14 (by decide) (fun h14 => ?_) (fun h14 => ?_)) | ((with_reducible refine mk_n ?_); refine n_if_le (tgt := 28) dX11_asks_14 (by decide) (by omega) (fun h14 => ?_) (fun h14 => ?_)) | refine e_if_le (tgt := 28) dX11_asks_14 (by decide) (fun h14 => ?_) (fun h14 => ?_)
      · try first | contradiction | omega
        all_goals
          refine e_aload_n dX11_asks_28 rfl rfl ?_
          refine e_getR dX11_asks_29 fl_X11_7 rfl (by assumption) ?_
          refine e_sipush (v := nI 8573) dX11_asks_32 rfl ?_
          refine e_iconst (v := nI 4) dX11_asks_35 rfl ?_
          refine e_iload_n dX11_asks_36 rfl rfl ?_
          first | ((with_reducible refine mk_nn ?_); refine n_imul dX11_asks_37 ?_) | refine e_imul dX11_asks_37 ?_
          first | ((with_reducible refine mk_nn ?_); refine n_iadd dX11_asks_38 ?_) | refine e_iadd dX11_asks_38 ?_
          refine e_dup2 dX11_asks_39 rfl rfl ?_
          first | ((with_reducible refine mk_ldw ?_); refine e_ldw dX11_asks_40 (by omega) ?_) | refine e_iald _ dX11_asks_40 ⟨by decide, by decide⟩ rfl rfl (by simp only [lenK]; omega) ?_
          refine e_iconst (v := nI 1) dX11_asks_41 rfl ?_
          first | ((with_reducible refine mk_nn ?_); refine n_iadd dX11_asks_42 ?_) | refine e_iadd dX11_asks_42 ?_
          first | ((with_reducible refine mk_stw ?_); refine e_stw dX11_asks_43 (by omega) ?_) | refine e_iast _ dX11_asks_43 ⟨by decide, by decide⟩ rfl rfl (by simp only [lenK]; omega) ?_
          refine KK _ ?_
          clear KK
          unfold asA
          split
          all_goals first | omega | (simp_all; done) | (simp_all; omega)
      · try first | contradiction | omega
        all_goals
          refine e_aload_n dX11_asks_17 rfl rfl ?_
          refine e_iload_n dX11_asks_18 rfl rfl ?_
          refine x_V1 (M' := mX11_isFrozen) dX11_asks_19 ml_X11_143 ok_X11_isFrozen (by decide) rfl im_X11_isFrozen se_X11_isFrozen (ct_X11_isFrozen ‹_› ‹_› (by omega)) (Nat.le_of_ble_eq_true rfl) (by decide) (Nat.le_of_ble_eq_true rfl) ?_
          first | ((with_reducible refine mk_b ?_); refine b_if_eq (tgt := 28) dX11_asks_22 (by decide) (fun h22 => ?_) (fun h22 => ?_)) | ((with_reducible refine mk_ll ?_); refine m_if_eq (tgt := 28) dX11_asks_22 (by decide) (by omega) (by omega) (fun h22 => ?_) (fun h22 => ?_)) | ((with_reducible refine mk_lc ?_); refine l_if_eq (tgt := 28) dX11_asks_22 (by decide) (fun h22 => ?_) (fun h22 => ?_)) | ((with_reducible refine mk_n ?_); refine n_if_eq (tgt := 28) dX11_asks_22 (by decide) (by omega) (fun h22 => ?_) (fun h22 => ?_)) | refine e_if_eq (tgt := 28) dX11_asks_22 (by decide) (fun h22 => ?_) (fun h22 => ?_)
          · try first | contradiction | omega | (simp only [decide_eq_true_eq, decide_eq_false_iff_not] at h22; omega)
            all_goals
              refine e_aload_n dX11_asks_28 rfl rfl ?_
              refine e_getR dX11_asks_29 fl_X11_7 rfl (by assumption) ?_
              refine e_sipush (v := nI 8573) dX11_asks_32 rfl ?_
              refine e_iconst (v := nI 4) dX11_asks_35 rfl ?_
              refine e_iload_n dX11_asks_36 rfl rfl ?_
              first | ((with_reducible refine mk_nn ?_); refine n_imul dX11_asks_37 ?_) | refine e_imul dX11_asks_37 ?_
              first | ((with_reducible refine mk_nn ?_); refine n_iadd dX11_asks_38 ?_) | refine e_iadd dX11_asks_38 ?_
              refine e_dup2 dX11_asks_39 rfl rfl ?_
              first | ((with_reducible refine mk_ldw ?_); refine e_ldw dX11_asks_40 (by omega) ?_) | refine e_iald _ dX11_asks_40 ⟨by decide, by decide⟩ rfl rfl (by simp only [lenK]; omega) ?_
              refine e_iconst (v := nI 1) dX11_asks_41 rfl ?_
              first | ((with_reducible refine mk_nn ?_); refine n_iadd dX11_asks_42 ?_) | refine e_iadd dX11_asks_42 ?_
              first | ((with_reducible refine mk_stw ?_); refine e_stw dX11_asks_43 (by omega) ?_) | refine e_iast _ dX11_asks_43 ⟨by decide, by decide⟩ rfl rfl (by simp only [lenK]; omega) ?_
              refine KK _ ?_
              clear KK
              unfold asA
              split
              all_goals first | omega | (simp_all; done) | (simp_all; omega)
          · try first | contradiction | omega | (simp only [decide_eq_true_eq, decide_eq_false_iff_not] at h22; omega)
            all_goals
              refine e_iconst (v := nI 4) dX11_asks_25 rfl ?_
              refine e_istore dX11_asks_26 (Nat.le_of_ble_eq_true rfl) rfl ?_
              refine e_aload_n dX11_asks_28 rfl rfl ?_
              refine e_getR dX11_asks_29 fl_X11_7 rfl (by assumption) ?_
              refine e_sipush (v := nI 8573) dX11_asks_32 rfl ?_
              refine e_iconst (v := nI 4) dX11_asks_35 rfl ?_
              refine e_iload_n dX11_asks_36 rfl rfl ?_
              first | ((with_reducible refine mk_nn ?_); refine n_imul dX11_asks_37 ?_) | refine e_imul dX11_asks_37 ?_
              first | ((with_reducible refine mk_nn ?_); refine n_iadd dX11_asks_38 ?_) | refine e_iadd dX11_asks_38 ?_
              refine e_dup2 dX11_asks_39 rfl rfl ?_
              first | ((with_reducible refine mk_ldw ?_); refine e_ldw dX11_asks_40 (by omega) ?_) | refine e_iald _ dX11_asks_40 ⟨by decide, by decide⟩ rfl rfl (by simp only [lenK]; omega) ?_
              refine e_iconst (v := nI 1) dX11_asks_41 rfl ?_
              first | ((with_reducible refine mk_nn ?_); refine n_iadd dX11_asks_42 ?_) | refine e_iadd dX11_asks_42 ?_
              first | ((with_reducible refine mk_stw ?_); refine e_stw dX11_asks_43 (by omega) ?_) | refine e_iast _ dX11_asks_43 ⟨by decide, by decide⟩ rfl rfl (by simp only [lenK]; omega) ?_
              refine KK _ ?_
              clear KK
              unfold asA
              split
              all_goals first | omega | (simp_all; done) | (simp_all; omega)
