theorem upN_s (w : Nat → Nat) (j v : Nat) : upN w j v j = v := if_pos rfl
theorem upN_n {w : Nat → Nat} {j v q : Nat} (h : q ≠ j) : upN w j v q = w q := if_neg h
theorem mvL_fr {w w' : Nat → Nat} (h3 : w' 3 = w 3) (h : ∀ m, m < w 3 → w' (7694 + 72 * m + 0) = w (7694 + 72 * m + 0) ∧ w' (7694 + 72 * m + 1) = w (7694 + 72 * m + 1)) (l : Nat) : mvL w' l = mvL w l := by
  unfold mvL
  rw [h3]
  have : ∀ n, n ≤ w 3 → ff (fun m => goB w' m && decide (w' (7694 + 72 * m + 1) = l)) n = ff (fun m => goB w m && decide (w (7694 + 72 * m + 1) = l)) n := by
    intro n
    induction n with
    | zero => intro _; rfl
    | succ n ih =>
      intro hn
      unfold ff
      rw [ih (by omega)]
      have e := h n (by omega)
      unfold goB
      rw [e.1, e.2]
  unfold fO
  rw [this _ (Nat.le_refl _)]
theorem spF_fr {w w' : Nat → Nat} {k : Nat} : ∀ i, (∀ j, j ≤ i → w' (10 + j) = w (10 + j)) → spF w' k i = spF w k i
  | 0, _ => rfl
  | i + 1, h => by rw [spF_s, spF_s, h (i + 1) (Nat.le_refl _), spF_fr i (fun j hj => h j (by omega))]
theorem spW_fr {w w' : Nat → Nat} (h1 : w' 1 = w 1) (h : ∀ j, j < 32 → w' (10 + j) = w (10 + j)) (iv : Inv w) (k : Nat) : spW w' k = spW w k := by
  unfold spW
  rw [h1]
  have := iv_n iv
  exact spF_fr _ (fun j hj => h j (by omega))
theorem Inv_fr {w w' : Nat → Nat} (h : ∀ q, q < 8558 → w' q = w q) (iv : Inv w) : Inv w' := by
  obtain ⟨a1, a2, a3, a4, a5, a6, a7, a8, a9, a10, a11, a12, a13⟩ := iv
  have e0 := h 0 (by omega); have e1 := h 1 (by omega); have e2 := h 2 (by omega); have e3 := h 3 (by omega); have e10 := h 10 (by omega)
  refine ⟨by rw [e1]; exact a1, by rw [e10]; exact a2, fun i hi => ?_, fun i hi => ?_, fun i hi => ?_, ⟨by rw [e0]; exact a6.1, fun i hi => ?_⟩, by rw [e2]; exact a7, by rw [e3]; exact a8, fun s hs => ?_, fun k hk => ?_, fun i hi => ?_, fun c hc => ?_, fun m hm => ?_⟩
  · rw [e1] at hi; rw [h _ (by omega), h _ (by omega)]; exact a3 i hi
  · rw [e1] at hi; rw [h _ (by omega)]; exact a4 i hi
  · rw [e1] at hi; rw [h _ (by omega)]; exact a5 i hi
  · rw [e1] at hi; rw [h _ (by omega), e0]; exact a6.2 i hi
  · rw [h _ (by omega)]; exact a9 s hs
  · rw [h _ (by omega)]; exact a10 k hk
  · rw [h _ (by omega)]; exact a11 i hi
  · have q := a12 c hc
    rw [h (7106 + 98 * c + 1) (by omega), h (7106 + 98 * c + 0) (by omega), h (7106 + 98 * c + 2) (by omega)]
    exact ⟨q.1, q.2.1, q.2.2.1, q.2.2.2.1, fun j hj => by rw [h _ (by omega), h _ (by omega), h _ (by omega)]; exact q.2.2.2.2 j hj⟩
  · rw [e3] at hm
    have q := a13 m hm
    rw [h (7694 + 72 * m + 0) (by omega), h (7694 + 72 * m + 1) (by omega), h (7694 + 72 * m + 2) (by omega), h (7694 + 72 * m + 3) (by omega), h (7694 + 72 * m + 4) (by omega), h (7694 + 72 * m + 5) (by omega), h (7694 + 72 * m + 6) (by omega), h (7694 + 72 * m + 7) (by omega), h (7694 + 72 * m + 10) (by omega), h (7694 + 72 * m + 11) (by omega)]
    exact ⟨q.1, q.2.1, q.2.2.1, q.2.2.2.1, q.2.2.2.2.1, q.2.2.2.2.2.1, q.2.2.2.2.2.2.1, q.2.2.2.2.2.2.2.1, q.2.2.2.2.2.2.2.2.1, q.2.2.2.2.2.2.2.2.2.1, q.2.2.2.2.2.2.2.2.2.2.1, fun i hi => by rw [h _ (by omega)]; exact q.2.2.2.2.2.2.2.2.2.2.2 i hi⟩
/-- values and weights may change -/
theorem Inv_vw {w w' : Nat → Nat} (h : ∀ q, q < 8558 → (q < 106 ∨ 7106 ≤ q) → w' q = w q) (hw : ∀ k, k < 1000 → w' (106 + k) ≤ 100000) (hv : ∀ i, i < 6000 → w' (1106 + i) ≤ 99999) (iv : Inv w) : Inv w' := by
  obtain ⟨a1, a2, a3, a4, a5, a6, a7, a8, a9, a10, a11, a12, a13⟩ := iv
  have e0 := h 0 (by omega) (by omega); have e1 := h 1 (by omega) (by omega); have e2 := h 2 (by omega) (by omega); have e3 := h 3 (by omega) (by omega); have e10 := h 10 (by omega) (by omega)
  refine ⟨by rw [e1]; exact a1, by rw [e10]; exact a2, fun i hi => ?_, fun i hi => ?_, fun i hi => ?_, ⟨by rw [e0]; exact a6.1, fun i hi => ?_⟩, by rw [e2]; exact a7, by rw [e3]; exact a8, fun s hs => ?_, hw, hv, fun c hc => ?_, fun m hm => ?_⟩
  · rw [e1] at hi; rw [h _ (by omega) (by omega), h _ (by omega) (by omega)]; exact a3 i hi
  · rw [e1] at hi; rw [h _ (by omega) (by omega)]; exact a4 i hi
  · rw [e1] at hi; rw [h _ (by omega) (by omega)]; exact a5 i hi
  · rw [e1] at hi; rw [h _ (by omega) (by omega), e0]; exact a6.2 i hi
  · rw [h _ (by omega) (by omega)]; exact a9 s hs
  · have q := a12 c hc
    rw [h (7106 + 98 * c + 1) (by omega) (by omega), h (7106 + 98 * c + 0) (by omega) (by omega), h (7106 + 98 * c + 2) (by omega) (by omega)]
    exact ⟨q.1, q.2.1, q.2.2.1, q.2.2.2.1, fun j hj => by rw [h _ (by omega) (by omega), h _ (by omega) (by omega), h _ (by omega) (by omega)]; exact q.2.2.2.2 j hj⟩
  · rw [e3] at hm
    have q := a13 m hm
    rw [h (7694 + 72 * m + 0) (by omega) (by omega), h (7694 + 72 * m + 1) (by omega) (by omega), h (7694 + 72 * m + 2) (by omega) (by omega), h (7694 + 72 * m + 3) (by omega) (by omega), h (7694 + 72 * m + 4) (by omega) (by omega), h (7694 + 72 * m + 5) (by omega) (by omega), h (7694 + 72 * m + 6) (by omega) (by omega), h (7694 + 72 * m + 7) (by omega) (by omega), h (7694 + 72 * m + 10) (by omega) (by omega), h (7694 + 72 * m + 11) (by omega) (by omega)]
    exact ⟨q.1, q.2.1, q.2.2.1, q.2.2.2.1, q.2.2.2.2.1, q.2.2.2.2.2.1, q.2.2.2.2.2.2.1, q.2.2.2.2.2.2.2.1, q.2.2.2.2.2.2.2.2.1, q.2.2.2.2.2.2.2.2.2.1, q.2.2.2.2.2.2.2.2.2.2.1, fun i hi => by rw [h _ (by omega) (by omega)]; exact q.2.2.2.2.2.2.2.2.2.2.2 i hi⟩
/-- a client's map: what it is behind j spans of the fetching -/
def fcF (w : Nat → Nat) (c j : Nat) : Nat → Nat := fun q => if q = 7106 + 98 * c + 0 then w 0 else if q = 7106 + 98 * c + 1 then w 1 else if 7106 + 98 * c + 2 ≤ q ∧ q < 7106 + 98 * c + 2 + j then w (10 + (q - (7106 + 98 * c + 2))) else if 7106 + 98 * c + 34 ≤ q ∧ q < 7106 + 98 * c + 34 + j then w (42 + (q - (7106 + 98 * c + 34))) else if 7106 + 98 * c + 66 ≤ q ∧ q < 7106 + 98 * c + 66 + j then w (74 + (q - (7106 + 98 * c + 66))) else w q
def fetW (w : Nat → Nat) (c : Nat) : Nat → Nat := fcF w c (w 1)
theorem fcF_lo (w : Nat → Nat) (c j q : Nat) (h : q < 7106) : fcF w c j q = w q := by unfold fcF; rw [if_neg (by omega), if_neg (by omega), if_neg (by omega), if_neg (by omega), if_neg (by omega)]
theorem fcF_0 (w : Nat → Nat) (c : Nat) : upN (upN w (7106 + 98 * c + 0) (w 0)) (7106 + 98 * c + 1) (w 1) = fcF w c 0 := by
  funext q
  unfold upN fcF
  by_cases h1 : q = 7106 + 98 * c + 1
  · rw [if_pos h1, if_neg (by omega), if_pos h1]
  · rw [if_neg h1]
    by_cases h0 : q = 7106 + 98 * c + 0
    · rw [if_pos h0, if_pos h0]
    · rw [if_neg h0, if_neg h0, if_neg h1, if_neg (by omega), if_neg (by omega), if_neg (by omega)]
theorem fcF_s (w : Nat → Nat) (c j : Nat) (hj : j < 32) : upN (upN (upN (fcF w c j) (7106 + 98 * c + 2 + j) (w (10 + j))) (7106 + 98 * c + 34 + j) (w (42 + j))) (7106 + 98 * c + 66 + j) (w (74 + j)) = fcF w c (j + 1) := by
  funext q
  unfold upN fcF
  repeat' split
  all_goals first | rfl | omega | (congr 1; omega)
theorem ct_X11_fetches {fi : FI} {fr : FR} {ai : FI} {ar : FR} {N : Nat} {w : Nat → Nat} (sm : SM fr) (iv : Inv w) {c : Nat} (hc : c < 6) : CP mX11_fetches 1 0 0 [.ref (rf 11 80), .int (nI c)] fi fr (mW ai w) ar N (xQ (some (.int (nI (w 0)))) fi fr (mW ai (fetW w c)) ar N) := by
  obtain ⟨sW, sA, sK, sU, sC, sKC, sT, sCl⟩ := id sm
  have h1 := iv_n iv
  have h3 := iv_mm iv
  change EV mX11_fetches 1 0 0 0 [some (.ref (rf 11 80)), some (.int (nI c)), none, none] [] fi fr (mW ai w) ar N (xQ (some (.int (nI (w 0)))) fi fr (mW ai (fetW w c)) ar N)
  have key := ev_up (P := (fun j => EV mX11_fetches 1 0 0 35 [some (.ref (rf 11 80)), some (.int (nI c)), some (.int (nI (7106 + 98 * c))), some (.int (nI j))] [] fi fr (mW ai (fcF w c j)) ar N (xQ (some (.int (nI (w 0)))) fi fr (mW ai (fetW w c)) ar N))) (w 1) (fun j hj ih => by
    have r1 := fcF_lo w c j 1 (by omega)
    have ra := fcF_lo w c j (10 + j) (by omega)
    have rb := fcF_lo w c j (42 + j) (by omega)
    have rc := fcF_lo w c j (74 + j) (by omega)
    refine e_iload_n dX11_fetches_35 rfl rfl ?_
    refine e_aload_n dX11_fetches_36 rfl rfl ?_
    refine e_getR dX11_fetches_37 fl_X11_7 rfl (by assumption) ?_
    refine e_iconst (v := nI 1) dX11_fetches_40 rfl ?_
    first | ((with_reducible refine mk_ldw ?_); refine e_ldw dX11_fetches_41 (by omega) ?_) | refine e_iald _ dX11_fetches_41 ⟨by decide, by decide⟩ rfl rfl (by simp only [lenK]; omega) ?_
    try rw [r1]
    first | ((with_reducible refine mk_nn ?_); refine n_icmp_ge (tgt := 110) dX11_fetches_42 (by decide) (by omega) (by omega) (fun h42 => ?_) (fun h42 => ?_)) | refine e_icmp_ge (tgt := 110) dX11_fetches_42 (by decide) (fun h42 => ?_) (fun h42 => ?_)
    · try first | contradiction | omega
      all_goals
        refine e_aload_n dX11_fetches_110 rfl rfl ?_
        refine e_getR dX11_fetches_111 fl_X11_7 rfl (by assumption) ?_
        refine e_iconst (v := nI 0) dX11_fetches_114 rfl ?_
        first | ((with_reducible refine mk_ldw ?_); refine e_ldw dX11_fetches_115 (by omega) ?_) | refine e_iald _ dX11_fetches_115 ⟨by decide, by decide⟩ rfl rfl (by simp only [lenK]; omega) ?_
        refine e_ret (some _) rfl (r_int dX11_fetches_116 rfl) ?_
        exact xq (by first | rfl | simp_all [bI_t, bI_f]) rfl rfl rfl rfl rfl
    · try first | contradiction | omega
      all_goals
        refine e_aload_n dX11_fetches_45 rfl rfl ?_
        refine e_getR dX11_fetches_46 fl_X11_7 rfl (by assumption) ?_
        refine e_iload_n dX11_fetches_49 rfl rfl ?_
        refine e_iconst (v := nI 2) dX11_fetches_50 rfl ?_
        first | ((with_reducible refine mk_nn ?_); refine n_iadd dX11_fetches_51 ?_) | refine e_iadd dX11_fetches_51 ?_
        refine e_iload_n dX11_fetches_52 rfl rfl ?_
        first | ((with_reducible refine mk_nn ?_); refine n_iadd dX11_fetches_53 ?_) | refine e_iadd dX11_fetches_53 ?_
        refine e_aload_n dX11_fetches_54 rfl rfl ?_
        refine e_getR dX11_fetches_55 fl_X11_7 rfl (by assumption) ?_
        refine e_bipush (v := nI 10) dX11_fetches_58 rfl ?_
        refine e_iload_n dX11_fetches_60 rfl rfl ?_
        first | ((with_reducible refine mk_nn ?_); refine n_iadd dX11_fetches_61 ?_) | refine e_iadd dX11_fetches_61 ?_
        first | ((with_reducible refine mk_ldw ?_); refine e_ldw dX11_fetches_62 (by omega) ?_) | refine e_iald _ dX11_fetches_62 ⟨by decide, by decide⟩ rfl rfl (by simp only [lenK]; omega) ?_
        first | ((with_reducible refine mk_stw ?_); refine e_stw dX11_fetches_63 (by omega) ?_) | refine e_iast _ dX11_fetches_63 ⟨by decide, by decide⟩ rfl rfl (by simp only [lenK]; omega) ?_
        refine e_aload_n dX11_fetches_64 rfl rfl ?_
        refine e_getR dX11_fetches_65 fl_X11_7 rfl (by assumption) ?_
        refine e_iload_n dX11_fetches_68 rfl rfl ?_
        refine e_bipush (v := nI 34) dX11_fetches_69 rfl ?_
        first | ((with_reducible refine mk_nn ?_); refine n_iadd dX11_fetches_71 ?_) | refine e_iadd dX11_fetches_71 ?_
        refine e_iload_n dX11_fetches_72 rfl rfl ?_
        first | ((with_reducible refine mk_nn ?_); refine n_iadd dX11_fetches_73 ?_) | refine e_iadd dX11_fetches_73 ?_
        refine e_aload_n dX11_fetches_74 rfl rfl ?_
        refine e_getR dX11_fetches_75 fl_X11_7 rfl (by assumption) ?_
        refine e_bipush (v := nI 42) dX11_fetches_78 rfl ?_
        refine e_iload_n dX11_fetches_80 rfl rfl ?_
        first | ((with_reducible refine mk_nn ?_); refine n_iadd dX11_fetches_81 ?_) | refine e_iadd dX11_fetches_81 ?_
        first | ((with_reducible refine mk_ldw ?_); refine e_ldw dX11_fetches_82 (by omega) ?_) | refine e_iald _ dX11_fetches_82 ⟨by decide, by decide⟩ rfl rfl (by simp only [lenK]; omega) ?_
        first | ((with_reducible refine mk_stw ?_); refine e_stw dX11_fetches_83 (by omega) ?_) | refine e_iast _ dX11_fetches_83 ⟨by decide, by decide⟩ rfl rfl (by simp only [lenK]; omega) ?_
        refine e_aload_n dX11_fetches_84 rfl rfl ?_
        refine e_getR dX11_fetches_85 fl_X11_7 rfl (by assumption) ?_
        refine e_iload_n dX11_fetches_88 rfl rfl ?_
        refine e_bipush (v := nI 66) dX11_fetches_89 rfl ?_
        first | ((with_reducible refine mk_nn ?_); refine n_iadd dX11_fetches_91 ?_) | refine e_iadd dX11_fetches_91 ?_
        refine e_iload_n dX11_fetches_92 rfl rfl ?_
        first | ((with_reducible refine mk_nn ?_); refine n_iadd dX11_fetches_93 ?_) | refine e_iadd dX11_fetches_93 ?_
        refine e_aload_n dX11_fetches_94 rfl rfl ?_
        refine e_getR dX11_fetches_95 fl_X11_7 rfl (by assumption) ?_
        refine e_bipush (v := nI 74) dX11_fetches_98 rfl ?_
        refine e_iload_n dX11_fetches_100 rfl rfl ?_
        first | ((with_reducible refine mk_nn ?_); refine n_iadd dX11_fetches_101 ?_) | refine e_iadd dX11_fetches_101 ?_
        first | ((with_reducible refine mk_ldw ?_); refine e_ldw dX11_fetches_102 (by omega) ?_) | refine e_iald _ dX11_fetches_102 ⟨by decide, by decide⟩ rfl rfl (by simp only [lenK]; omega) ?_
        first | ((with_reducible refine mk_stw ?_); refine e_stw dX11_fetches_103 (by omega) ?_) | refine e_iast _ dX11_fetches_103 ⟨by decide, by decide⟩ rfl rfl (by simp only [lenK]; omega) ?_
        first | refine n_inc dX11_fetches_104 rfl (Nat.le_of_ble_eq_true rfl) rfl ?_ | refine e_iinc dX11_fetches_104 rfl rfl (Nat.le_of_ble_eq_true rfl) rfl ?_
        refine e_goto (tgt := 35) dX11_fetches_107 (by decide) ?_
        simp (disch := omega) only [upN_n, ra, rb, rc]
        rw [fcF_s w c j (by omega)]
        exact ih
    ) (by
    have r0 := fcF_lo w c (w 1) 0 (by omega)
    have r1 := fcF_lo w c (w 1) 1 (by omega)
    refine e_iload_n dX11_fetches_35 rfl rfl ?_
    refine e_aload_n dX11_fetches_36 rfl rfl ?_
    refine e_getR dX11_fetches_37 fl_X11_7 rfl (by assumption) ?_
    refine e_iconst (v := nI 1) dX11_fetches_40 rfl ?_
    first | ((with_reducible refine mk_ldw ?_); refine e_ldw dX11_fetches_41 (by omega) ?_) | refine e_iald _ dX11_fetches_41 ⟨by decide, by decide⟩ rfl rfl (by simp only [lenK]; omega) ?_
    try rw [r1]
    first | ((with_reducible refine mk_nn ?_); refine n_icmp_ge (tgt := 110) dX11_fetches_42 (by decide) (by omega) (by omega) (fun h42 => ?_) (fun h42 => ?_)) | refine e_icmp_ge (tgt := 110) dX11_fetches_42 (by decide) (fun h42 => ?_) (fun h42 => ?_)
    · try first | contradiction | omega
      all_goals
        refine e_aload_n dX11_fetches_110 rfl rfl ?_
        refine e_getR dX11_fetches_111 fl_X11_7 rfl (by assumption) ?_
        refine e_iconst (v := nI 0) dX11_fetches_114 rfl ?_
        first | ((with_reducible refine mk_ldw ?_); refine e_ldw dX11_fetches_115 (by omega) ?_) | refine e_iald _ dX11_fetches_115 ⟨by decide, by decide⟩ rfl rfl (by simp only [lenK]; omega) ?_
        refine e_ret (some _) rfl (r_int dX11_fetches_116 rfl) ?_
        refine xq ?_ rfl rfl rfl rfl rfl
        rw [r0]
    · try first | contradiction | omega
      all_goals
        refine e_aload_n dX11_fetches_45 rfl rfl ?_
        refine e_getR dX11_fetches_46 fl_X11_7 rfl (by assumption) ?_
        refine e_iload_n dX11_fetches_49 rfl rfl ?_
        refine e_iconst (v := nI 2) dX11_fetches_50 rfl ?_
        first | ((with_reducible refine mk_nn ?_); refine n_iadd dX11_fetches_51 ?_) | refine e_iadd dX11_fetches_51 ?_
        refine e_iload_n dX11_fetches_52 rfl rfl ?_
        first | ((with_reducible refine mk_nn ?_); refine n_iadd dX11_fetches_53 ?_) | refine e_iadd dX11_fetches_53 ?_
        refine e_aload_n dX11_fetches_54 rfl rfl ?_
        refine e_getR dX11_fetches_55 fl_X11_7 rfl (by assumption) ?_
        refine e_bipush (v := nI 10) dX11_fetches_58 rfl ?_
        refine e_iload_n dX11_fetches_60 rfl rfl ?_
        first | ((with_reducible refine mk_nn ?_); refine n_iadd dX11_fetches_61 ?_) | refine e_iadd dX11_fetches_61 ?_
        first | ((with_reducible refine mk_ldw ?_); refine e_ldw dX11_fetches_62 (by omega) ?_) | refine e_iald _ dX11_fetches_62 ⟨by decide, by decide⟩ rfl rfl (by simp only [lenK]; omega) ?_
        first | ((with_reducible refine mk_stw ?_); refine e_stw dX11_fetches_63 (by omega) ?_) | refine e_iast _ dX11_fetches_63 ⟨by decide, by decide⟩ rfl rfl (by simp only [lenK]; omega) ?_
        refine e_aload_n dX11_fetches_64 rfl rfl ?_
        refine e_getR dX11_fetches_65 fl_X11_7 rfl (by assumption) ?_
        refine e_iload_n dX11_fetches_68 rfl rfl ?_
        refine e_bipush (v := nI 34) dX11_fetches_69 rfl ?_
        first | ((with_reducible refine mk_nn ?_); refine n_iadd dX11_fetches_71 ?_) | refine e_iadd dX11_fetches_71 ?_
        refine e_iload_n dX11_fetches_72 rfl rfl ?_
        first | ((with_reducible refine mk_nn ?_); refine n_iadd dX11_fetches_73 ?_) | refine e_iadd dX11_fetches_73 ?_
        refine e_aload_n dX11_fetches_74 rfl rfl ?_
        refine e_getR dX11_fetches_75 fl_X11_7 rfl (by assumption) ?_
        refine e_bipush (v := nI 42) dX11_fetches_78 rfl ?_
        refine e_iload_n dX11_fetches_80 rfl rfl ?_
        first | ((with_reducible refine mk_nn ?_); refine n_iadd dX11_fetches_81 ?_) | refine e_iadd dX11_fetches_81 ?_
        first | ((with_reducible refine mk_ldw ?_); refine e_ldw dX11_fetches_82 (by omega) ?_) | refine e_iald _ dX11_fetches_82 ⟨by decide, by decide⟩ rfl rfl (by simp only [lenK]; omega) ?_
        first | ((with_reducible refine mk_stw ?_); refine e_stw dX11_fetches_83 (by omega) ?_) | refine e_iast _ dX11_fetches_83 ⟨by decide, by decide⟩ rfl rfl (by simp only [lenK]; omega) ?_
        refine e_aload_n dX11_fetches_84 rfl rfl ?_
        refine e_getR dX11_fetches_85 fl_X11_7 rfl (by assumption) ?_
        refine e_iload_n dX11_fetches_88 rfl rfl ?_
        refine e_bipush (v := nI 66) dX11_fetches_89 rfl ?_
        first | ((with_reducible refine mk_nn ?_); refine n_iadd dX11_fetches_91 ?_) | refine e_iadd dX11_fetches_91 ?_
        refine e_iload_n dX11_fetches_92 rfl rfl ?_
        first | ((with_reducible refine mk_nn ?_); refine n_iadd dX11_fetches_93 ?_) | refine e_iadd dX11_fetches_93 ?_
        refine e_aload_n dX11_fetches_94 rfl rfl ?_
        refine e_getR dX11_fetches_95 fl_X11_7 rfl (by assumption) ?_
        refine e_bipush (v := nI 74) dX11_fetches_98 rfl ?_
        refine e_iload_n dX11_fetches_100 rfl rfl ?_
        first | ((with_reducible refine mk_nn ?_); refine n_iadd dX11_fetches_101 ?_) | refine e_iadd dX11_fetches_101 ?_
        first | ((with_reducible refine mk_ldw ?_); refine e_ldw dX11_fetches_102 (by omega) ?_) | refine e_iald _ dX11_fetches_102 ⟨by decide, by decide⟩ rfl rfl (by simp only [lenK]; omega) ?_
        first | ((with_reducible refine mk_stw ?_); refine e_stw dX11_fetches_103 (by omega) ?_) | refine e_iast _ dX11_fetches_103 ⟨by decide, by decide⟩ rfl rfl (by simp only [lenK]; omega) ?_
        first | refine n_inc dX11_fetches_104 rfl (Nat.le_of_ble_eq_true rfl) rfl ?_ | refine e_iinc dX11_fetches_104 rfl rfl (Nat.le_of_ble_eq_true rfl) rfl ?_
        refine e_goto (tgt := 35) dX11_fetches_107 (by decide) ?_
        simp (disch := omega) only [upN_n, ra, rb, rc]
        rw [fcF_s w c j (by omega)]
        exact ih
    )
  refine e_iload_n dX11_fetches_0 rfl rfl ?_
  refine x_S1 (M' := mX11_clientAt) dX11_fetches_1 ml_X11_118 ok_X11_clientAt rfl sc_X11_clientAt (ct_X11_clientAt) (Nat.le_of_ble_eq_true rfl) (by decide) (Nat.le_of_ble_eq_true rfl) ?_
  refine e_istore_n dX11_fetches_4 rfl (Nat.le_of_ble_eq_true rfl) rfl ?_
  refine e_aload_n dX11_fetches_5 rfl rfl ?_
  refine e_getR dX11_fetches_6 fl_X11_7 rfl (by assumption) ?_
  refine e_iload_n dX11_fetches_9 rfl rfl ?_
  refine e_iconst (v := nI 0) dX11_fetches_10 rfl ?_
  first | ((with_reducible refine mk_nn ?_); refine n_iadd dX11_fetches_11 ?_) | refine e_iadd dX11_fetches_11 ?_
  refine e_aload_n dX11_fetches_12 rfl rfl ?_
  refine e_getR dX11_fetches_13 fl_X11_7 rfl (by assumption) ?_
  refine e_iconst (v := nI 0) dX11_fetches_16 rfl ?_
  first | ((with_reducible refine mk_ldw ?_); refine e_ldw dX11_fetches_17 (by omega) ?_) | refine e_iald _ dX11_fetches_17 ⟨by decide, by decide⟩ rfl rfl (by simp only [lenK]; omega) ?_
  first | ((with_reducible refine mk_stw ?_); refine e_stw dX11_fetches_18 (by omega) ?_) | refine e_iast _ dX11_fetches_18 ⟨by decide, by decide⟩ rfl rfl (by simp only [lenK]; omega) ?_
  refine e_aload_n dX11_fetches_19 rfl rfl ?_
  refine e_getR dX11_fetches_20 fl_X11_7 rfl (by assumption) ?_
  refine e_iload_n dX11_fetches_23 rfl rfl ?_
  refine e_iconst (v := nI 1) dX11_fetches_24 rfl ?_
  first | ((with_reducible refine mk_nn ?_); refine n_iadd dX11_fetches_25 ?_) | refine e_iadd dX11_fetches_25 ?_
  refine e_aload_n dX11_fetches_26 rfl rfl ?_
  refine e_getR dX11_fetches_27 fl_X11_7 rfl (by assumption) ?_
  refine e_iconst (v := nI 1) dX11_fetches_30 rfl ?_
  first | ((with_reducible refine mk_ldw ?_); refine e_ldw dX11_fetches_31 (by omega) ?_) | refine e_iald _ dX11_fetches_31 ⟨by decide, by decide⟩ rfl rfl (by simp only [lenK]; omega) ?_
  first | ((with_reducible refine mk_stw ?_); refine e_stw dX11_fetches_32 (by omega) ?_) | refine e_iast _ dX11_fetches_32 ⟨by decide, by decide⟩ rfl rfl (by simp only [lenK]; omega) ?_
  refine e_iconst (v := nI 0) dX11_fetches_33 rfl ?_
  refine e_istore_n dX11_fetches_34 rfl (Nat.le_of_ble_eq_true rfl) rfl ?_
  simp (disch := omega) only [upN_n]
  rw [fcF_0 w c]
  exact key 0 (by omega)
theorem ct_X11_fetch {fi : FI} {fr : FR} {ai : FI} {ar : FR} {N : Nat} {w : Nat → Nat} (sm : SM fr) (iv : Inv w) (y0 : Int32) {sc : Bool} (hsc : fi (32 * 11 + 8) (rf 11 80) = bI sc) : CP mX11_fetch 2 0 0 [.ref (rf 11 80), .int y0] fi fr (mW ai w) ar N (xQ (some (.int (if inR y0 6 then nI (w 0) else -1))) (if inR y0 6 then forF fi sc else fi) fr (mW ai (if inR y0 6 then fetW w y0.toNatClampNeg else w)) ar N) := by
  obtain ⟨sW, sA, sK, sU, sC, sKC, sT, sCl⟩ := id sm
  have h1 := iv_n iv
  have h3 := iv_mm iv
  change EV mX11_fetch 2 0 0 0 [some (.ref (rf 11 80)), some (.int y0)] [] fi fr (mW ai w) ar N (xQ (some (.int (if inR y0 6 then nI (w 0) else -1))) (if inR y0 6 then forF fi sc else fi) fr (mW ai (if inR y0 6 then fetW w y0.toNatClampNeg else w)) ar N)
  cases hx : inR y0 6 with
  | false =>
    refine e_iload_n dX11_fetch_0 rfl rfl ?_
    refine x_S1 (M' := mX11_isClient) dX11_fetch_1 ml_X11_121 ok_X11_isClient rfl sc_X11_isClient (ct_X11_isClient _) (Nat.le_of_ble_eq_true rfl) (by decide) (Nat.le_of_ble_eq_true rfl) ?_
    rw [hx]
    first | ((with_reducible refine mk_b ?_); refine b_if_ne (tgt := 9) dX11_fetch_4 (by decide) (fun h4 => ?_) (fun h4 => ?_)) | ((with_reducible refine mk_ll ?_); refine m_if_ne (tgt := 9) dX11_fetch_4 (by decide) (by omega) (by omega) (fun h4 => ?_) (fun h4 => ?_)) | ((with_reducible refine mk_lc ?_); refine l_if_ne (tgt := 9) dX11_fetch_4 (by decide) (fun h4 => ?_) (fun h4 => ?_)) | ((with_reducible refine mk_n ?_); refine n_if_ne (tgt := 9) dX11_fetch_4 (by decide) (by omega) (fun h4 => ?_) (fun h4 => ?_)) | refine e_if_ne (tgt := 9) dX11_fetch_4 (by decide) (fun h4 => ?_) (fun h4 => ?_)
    · try first | contradiction | omega | (simp only [decide_eq_true_eq, decide_eq_false_iff_not] at h4; omega)
      all_goals
        refine e_aload_n dX11_fetch_9 rfl rfl ?_
        refine y_V0 (M' := mX11_forgets) dX11_fetch_10 ml_X11_124 ok_X11_forgets (by decide) rfl im_X11_forgets se_X11_forgets (ct_X11_forgets ‹_› (by assumption)) (Nat.le_of_ble_eq_true rfl) (by decide) (Nat.le_of_ble_eq_true rfl) ?_
        refine e_aload_n dX11_fetch_13 rfl rfl ?_
        refine e_iload_n dX11_fetch_14 rfl rfl ?_
        refine x_V1 (M' := mX11_fetches) dX11_fetch_15 ml_X11_127 ok_X11_fetches (by decide) rfl im_X11_fetches se_X11_fetches (ct_X11_fetches ‹_› ‹_› (by omega)) (Nat.le_of_ble_eq_true rfl) (by decide) (Nat.le_of_ble_eq_true rfl) ?_
        refine e_ret (some _) rfl (r_int dX11_fetch_18 rfl) ?_
        exact xq rfl rfl rfl rfl rfl rfl
    · try first | contradiction | omega | (simp only [decide_eq_true_eq, decide_eq_false_iff_not] at h4; omega)
      all_goals
        refine e_iconst (v := -1) dX11_fetch_7 rfl ?_
        refine e_ret (some _) rfl (r_int dX11_fetch_8 rfl) ?_
        exact xq rfl rfl rfl rfl rfl rfl
  | true =>
    obtain ⟨a, ha, ha2, rfl⟩ := inR_ex hx
    have hcl : (nI a).toNatClampNeg = a := nI_clamp ha2
    rw [hcl]
    refine e_iload_n dX11_fetch_0 rfl rfl ?_
    refine x_S1 (M' := mX11_isClient) dX11_fetch_1 ml_X11_121 ok_X11_isClient rfl sc_X11_isClient (ct_X11_isClient _) (Nat.le_of_ble_eq_true rfl) (by decide) (Nat.le_of_ble_eq_true rfl) ?_
    rw [hx]
    first | ((with_reducible refine mk_b ?_); refine b_if_ne (tgt := 9) dX11_fetch_4 (by decide) (fun h4 => ?_) (fun h4 => ?_)) | ((with_reducible refine mk_ll ?_); refine m_if_ne (tgt := 9) dX11_fetch_4 (by decide) (by omega) (by omega) (fun h4 => ?_) (fun h4 => ?_)) | ((with_reducible refine mk_lc ?_); refine l_if_ne (tgt := 9) dX11_fetch_4 (by decide) (fun h4 => ?_) (fun h4 => ?_)) | ((with_reducible refine mk_n ?_); refine n_if_ne (tgt := 9) dX11_fetch_4 (by decide) (by omega) (fun h4 => ?_) (fun h4 => ?_)) | refine e_if_ne (tgt := 9) dX11_fetch_4 (by decide) (fun h4 => ?_) (fun h4 => ?_)
    · try first | contradiction | omega | (simp only [decide_eq_true_eq, decide_eq_false_iff_not] at h4; omega)
      all_goals
        refine e_aload_n dX11_fetch_9 rfl rfl ?_
        refine y_V0 (M' := mX11_forgets) dX11_fetch_10 ml_X11_124 ok_X11_forgets (by decide) rfl im_X11_forgets se_X11_forgets (ct_X11_forgets ‹_› (by assumption)) (Nat.le_of_ble_eq_true rfl) (by decide) (Nat.le_of_ble_eq_true rfl) ?_
        refine e_aload_n dX11_fetch_13 rfl rfl ?_
        refine e_iload_n dX11_fetch_14 rfl rfl ?_
        refine x_V1 (M' := mX11_fetches) dX11_fetch_15 ml_X11_127 ok_X11_fetches (by decide) rfl im_X11_fetches se_X11_fetches (ct_X11_fetches ‹_› ‹_› (by omega)) (Nat.le_of_ble_eq_true rfl) (by decide) (Nat.le_of_ble_eq_true rfl) ?_
        refine e_ret (some _) rfl (r_int dX11_fetch_18 rfl) ?_
        exact xq rfl rfl rfl rfl rfl rfl
    · try first | contradiction | omega | (simp only [decide_eq_true_eq, decide_eq_false_iff_not] at h4; omega)
      all_goals
        refine e_iconst (v := -1) dX11_fetch_7 rfl ?_
        refine e_ret (some _) rfl (r_int dX11_fetch_8 rfl) ?_
        exact xq rfl rfl rfl rfl rfl rfl
def cwB (x y v : Int32) : Bool := inR x 6 && inR y 1000 && decide (1 ≤ v.toInt ∧ v.toInt ≤ 99999)
theorem ct_X11_canWrite {fi : FI} {fr : FR} {ai : FI} {ar : FR} {N : Nat} (y0 y1 y2 : Int32) : CP mX11_canWrite 2 0 0 [.int y0, .int y1, .int y2] fi fr ai ar N (xQ (some (.int (bI (cwB y0 y1 y2)))) fi fr ai ar N) := by
  change EV mX11_canWrite 2 0 0 0 [some (.int y0), some (.int y1), some (.int y2)] [] fi fr ai ar N _
  refine e_iload_n dX11_canWrite_0 rfl rfl ?_
  refine x_S1 (M' := mX11_isClient) dX11_canWrite_1 ml_X11_121 ok_X11_isClient rfl sc_X11_isClient (ct_X11_isClient _) (Nat.le_of_ble_eq_true rfl) (by decide) (Nat.le_of_ble_eq_true rfl) ?_
  first | ((with_reducible refine mk_b ?_); refine b_if_eq (tgt := 30) dX11_canWrite_4 (by decide) (fun h4 => ?_) (fun h4 => ?_)) | ((with_reducible refine mk_ll ?_); refine m_if_eq (tgt := 30) dX11_canWrite_4 (by decide) (by omega) (by omega) (fun h4 => ?_) (fun h4 => ?_)) | ((with_reducible refine mk_lc ?_); refine l_if_eq (tgt := 30) dX11_canWrite_4 (by decide) (fun h4 => ?_) (fun h4 => ?_)) | ((with_reducible refine mk_n ?_); refine n_if_eq (tgt := 30) dX11_canWrite_4 (by decide) (by omega) (fun h4 => ?_) (fun h4 => ?_)) | refine e_if_eq (tgt := 30) dX11_canWrite_4 (by decide) (fun h4 => ?_) (fun h4 => ?_)
  · try first | contradiction | omega | (simp only [decide_eq_true_eq, decide_eq_false_iff_not] at h4; omega)
    all_goals
      refine e_iconst (v := nI 0) dX11_canWrite_30 rfl ?_
      first | ((with_reducible refine mk_b ?_); refine e_ret (some _) rfl (r_bool dX11_canWrite_31 rfl) ?_) | ((with_reducible refine mk_n1 ?_); refine e_ret (some _) rfl (r_b1 dX11_canWrite_31 rfl) ?_) | ((with_reducible refine mk_n0 ?_); refine e_ret (some _) rfl (r_b0 dX11_canWrite_31 rfl) ?_)
      first | (refine xq (bl0 ?_) rfl rfl rfl rfl rfl; grind [cwB]) | (refine xq (bl1 ?_) rfl rfl rfl rfl rfl; grind [cwB])
  · try first | contradiction | omega | (simp only [decide_eq_true_eq, decide_eq_false_iff_not] at h4; omega)
    all_goals
      refine e_iload_n dX11_canWrite_7 rfl rfl ?_
      refine x_S1 (M' := mX11_isKey) dX11_canWrite_8 ml_X11_54 ok_X11_isKey rfl sc_X11_isKey (ct_X11_isKey _) (Nat.le_of_ble_eq_true rfl) (by decide) (Nat.le_of_ble_eq_true rfl) ?_
      first | ((with_reducible refine mk_b ?_); refine b_if_eq (tgt := 30) dX11_canWrite_11 (by decide) (fun h11 => ?_) (fun h11 => ?_)) | ((with_reducible refine mk_ll ?_); refine m_if_eq (tgt := 30) dX11_canWrite_11 (by decide) (by omega) (by omega) (fun h11 => ?_) (fun h11 => ?_)) | ((with_reducible refine mk_lc ?_); refine l_if_eq (tgt := 30) dX11_canWrite_11 (by decide) (fun h11 => ?_) (fun h11 => ?_)) | ((with_reducible refine mk_n ?_); refine n_if_eq (tgt := 30) dX11_canWrite_11 (by decide) (by omega) (fun h11 => ?_) (fun h11 => ?_)) | refine e_if_eq (tgt := 30) dX11_canWrite_11 (by decide) (fun h11 => ?_) (fun h11 => ?_)
      · try first | contradiction | omega | (simp only [decide_eq_true_eq, decide_eq_false_iff_not] at h11; omega)
        all_goals
          refine e_iconst (v := nI 0) dX11_canWrite_30 rfl ?_
          first | ((with_reducible refine mk_b ?_); refine e_ret (some _) rfl (r_bool dX11_canWrite_31 rfl) ?_) | ((with_reducible refine mk_n1 ?_); refine e_ret (some _) rfl (r_b1 dX11_canWrite_31 rfl) ?_) | ((with_reducible refine mk_n0 ?_); refine e_ret (some _) rfl (r_b0 dX11_canWrite_31 rfl) ?_)
          first | (refine xq (bl0 ?_) rfl rfl rfl rfl rfl; grind [cwB]) | (refine xq (bl1 ?_) rfl rfl rfl rfl rfl; grind [cwB])
      · try first | contradiction | omega | (simp only [decide_eq_true_eq, decide_eq_false_iff_not] at h11; omega)
        all_goals
          refine e_iload_n dX11_canWrite_14 rfl rfl ?_
          first | ((with_reducible refine mk_n ?_); refine n_i2l dX11_canWrite_15 (by omega) ?_) | refine e_i2l dX11_canWrite_15 ?_
          refine e_lconst (v := lN 1) dX11_canWrite_16 rfl ?_
          refine e_ldc2 dX11_canWrite_17 co_X11_152 ?_
          refine x_S3 (M' := mX11_isIn) dX11_canWrite_20 ml_X11_45 ok_X11_isIn rfl sc_X11_isIn (by first | ((with_reducible refine ct_isInN ?_ ?_ ?_) <;> omega) | ((with_reducible refine ct_isInX ?_ ?_) <;> omega) | exact ct_X11_isIn _ _ _) (Nat.le_of_ble_eq_true rfl) (by decide) (Nat.le_of_ble_eq_true rfl) ?_
          first | ((with_reducible refine mk_b ?_); refine b_if_eq (tgt := 30) dX11_canWrite_23 (by decide) (fun h23 => ?_) (fun h23 => ?_)) | ((with_reducible refine mk_ll ?_); refine m_if_eq (tgt := 30) dX11_canWrite_23 (by decide) (by omega) (by omega) (fun h23 => ?_) (fun h23 => ?_)) | ((with_reducible refine mk_lc ?_); refine l_if_eq (tgt := 30) dX11_canWrite_23 (by decide) (fun h23 => ?_) (fun h23 => ?_)) | ((with_reducible refine mk_n ?_); refine n_if_eq (tgt := 30) dX11_canWrite_23 (by decide) (by omega) (fun h23 => ?_) (fun h23 => ?_)) | refine e_if_eq (tgt := 30) dX11_canWrite_23 (by decide) (fun h23 => ?_) (fun h23 => ?_)
          · try first | contradiction | omega | (simp only [decide_eq_true_eq, decide_eq_false_iff_not] at h23; omega)
            all_goals
              refine e_iconst (v := nI 0) dX11_canWrite_30 rfl ?_
              first | ((with_reducible refine mk_b ?_); refine e_ret (some _) rfl (r_bool dX11_canWrite_31 rfl) ?_) | ((with_reducible refine mk_n1 ?_); refine e_ret (some _) rfl (r_b1 dX11_canWrite_31 rfl) ?_) | ((with_reducible refine mk_n0 ?_); refine e_ret (some _) rfl (r_b0 dX11_canWrite_31 rfl) ?_)
              first | (refine xq (bl0 ?_) rfl rfl rfl rfl rfl; grind [cwB]) | (refine xq (bl1 ?_) rfl rfl rfl rfl rfl; grind [cwB])
          · try first | contradiction | omega | (simp only [decide_eq_true_eq, decide_eq_false_iff_not] at h23; omega)
            all_goals
              refine e_iconst (v := nI 1) dX11_canWrite_26 rfl ?_
              refine e_goto (tgt := 31) dX11_canWrite_27 (by decide) ?_
              first | ((with_reducible refine mk_b ?_); refine e_ret (some _) rfl (r_bool dX11_canWrite_31 rfl) ?_) | ((with_reducible refine mk_n1 ?_); refine e_ret (some _) rfl (r_b1 dX11_canWrite_31 rfl) ?_) | ((with_reducible refine mk_n0 ?_); refine e_ret (some _) rfl (r_b0 dX11_canWrite_31 rfl) ?_)
              first | (refine xq (bl0 ?_) rfl rfl rfl rfl rfl; grind [cwB]) | (refine xq (bl1 ?_) rfl rfl rfl rfl rfl; grind [cwB])
