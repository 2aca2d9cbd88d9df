theorem StP_tr {w w1 w2 : Nat → Nat} {m : Nat} (h : ∀ q, q < 8558 → ¬ stO m q → w1 q = w q) (g : StP w1 w2 m) : StP w w2 m := ⟨fun q a b => by rw [g.1 q a b, h q a b], g.2⟩
theorem so3_o {w : Nat → Nat} {m : Nat} (hm : m < 12) : ∀ q, q < 8558 → ¬ stO m q → so3 w m q = w q := fun q a b => by unfold stO at b; exact so3_fr (by omega) (by omega) (by omega)
theorem fa2_o {w : Nat → Nat} {m : Nat} (hm : m < 12) : ∀ q, q < 8558 → ¬ stO m q → fa2 w m q = w q := fun q a b => by unfold stO at b; exact fa2_fr (by omega) (by omega)
theorem steW_St {w : Nat → Nat} (iv : Inv w) {m : Nat} (hm : m < w 3) (h0 : w (7694 + 72 * m + 0) = 3 → w 0 < 1999) : StP w (steW w m) m := by
  have hq := iv_mv iv hm
  have hmm := iv_mm iv
  have c0 : catW w m (w 2) (7694 + 72 * m + 0) = w (7694 + 72 * m + 0) := by unfold catW; rw [upN_n (by omega), upN_n (by omega), tsF_fr (by omega)]; exact (cuS_in iv hm _ (by unfold cuN; split <;> omega)).1 _ (by omega)
  have c7 : catW w m (w 2) (7694 + 72 * m + 7) = w (7694 + 72 * m + 7) := by unfold catW; rw [upN_n (by omega), upN_n (by omega), tsF_fr (by omega)]; exact (cuS_in iv hm _ (by unfold cuN; split <;> omega)).1 _ (by omega)
  unfold steW
  split
  · exact gonW_St iv hm
  · split
    · split
      · exact cat_Inv iv (ch := w 2) hm (fun q a b c d => upN_n b) (by rw [upN_s]; omega) (by rw [upN_n (by omega), c7]; omega)
      · exact cat_Inv iv (ch := w 2) hm (fun q a b c d => rfl) (by rw [c0]; omega) (by rw [c7]; omega)
    · split
      · rename_i h3; exact swiW_St iv hm (h0 h3)
      · exact gonW_St iv hm
theorem faiW_St {w : Nat → Nat} (iv : Inv w) {m : Nat} (hm : m < w 3) : StP w (faiW w m) m := by
  have hq := iv_mv iv hm
  have hmm := iv_mm iv
  have iv2 := fa2_Inv iv hm
  have f : ∀ q, q ≠ 7694 + 72 * m + 8 → q ≠ 8558 + 12 → fa2 w m q = w q := fun q a b => fa2_fr a b
  have hm2 : m < fa2 w m 3 := by rw [f 3 (by omega) (by omega)]; exact hm
  have c0 : catW (fa2 w m) m (w 2 / 2) (7694 + 72 * m + 0) = w (7694 + 72 * m + 0) := by unfold catW; rw [upN_n (by omega), upN_n (by omega), tsF_fr (by omega), (cuS_in iv2 hm2 _ (by unfold cuN; split <;> omega)).1 _ (by omega)]; exact f _ (by omega) (by omega)
  have gv : ∀ cl, govW (fa2 w m) m (w 2 / 2) cl (7694 + 72 * m + 0) = w (7694 + 72 * m + 0) := fun cl => by rw [govW_g iv2 hm2 (by omega) (by omega) (by omega)]; exact f _ (by omega) (by omega)
  have r1 := f (7694 + 72 * m + 1) (by omega) (by omega)
  have r2 := f (7694 + 72 * m + 2) (by omega) (by omega)
  have gi : ∀ cl, StP (fa2 w m) (upN (govW (fa2 w m) m (w 2 / 2) cl) (7694 + 72 * m + 7) 1) m := fun cl => by
    obtain ⟨v1, v2, v3⟩ := govW_v iv2 (ch := w 2 / 2) (cl := cl) hm2
    exact gov_Inv iv2 (ch := w 2 / 2) (cl := cl) hm2 (fun q a b c d e => upN_n d) (by rw [upN_n (by omega), gv]; omega) (by rw [upN_n (by omega)]; exact ⟨v2, v3⟩) (by rw [upN_s]; omega)
  unfold faiW
  split
  · exact StP_tr (fa2_o (by omega)) (cat_Inv iv2 (ch := w 2 / 2) hm2 (fun q a b c d => upN_n c) (by rw [upN_n (by omega), c0]; omega) (by rw [upN_s]; omega))
  · split
    · exact StP_tr (fa2_o (by omega)) (gi false)
    · split
      · exact StP_tr (fa2_o (by omega)) (gi true)
      · refine StP_tr (fa2_o (by omega)) ⟨fun q a b => ?_, Inv_m8 iv2 hm2 7 (by omega)⟩
        unfold stO at b
        exact upN_n (by omega)
theorem sonW_St {w : Nat → Nat} (iv : Inv w) {m : Nat} (hm : m < w 3) (h0 : w (7694 + 72 * m + 0) = 3 → w 0 < 1999) : StP w (sonW w m) m := by
  have hmm := iv_mm iv
  have iv3 := so3_Inv iv hm
  have hm3 : m < so3 w m 3 := by rw [so3_fr (by omega) (by omega) (by omega)]; exact hm
  unfold sonW
  split
  · exact StP_tr (so3_o (by omega)) (faiW_St iv3 hm3)
  · exact StP_tr (so3_o (by omega)) (steW_St iv3 hm3 (fun h => by rw [so3_fr (by omega) (by omega) (by omega)] at h ⊢; exact h0 h))
/-- the epoch: a step changes it only as it switches -/
theorem sonW_0 {w : Nat → Nat} (iv : Inv w) {m : Nat} (hm : m < w 3) (hst : 1 ≤ w (7694 + 72 * m + 0) ∧ w (7694 + 72 * m + 0) ≤ 4) : sonW w m (7694 + 72 * m + 0) ≤ 3 → sonW w m 0 = w 0 ∧ w (7694 + 72 * m + 0) ≤ 3 := by
  have hmm := iv_mm iv
  have iv3 := so3_Inv iv hm
  have hm3 : m < so3 w m 3 := by rw [so3_fr (by omega) (by omega) (by omega)]; exact hm
  have a0 : so3 w m 0 = w 0 := so3_fr (by omega) (by omega) (by omega)
  have as0 : so3 w m (7694 + 72 * m + 0) = w (7694 + 72 * m + 0) := so3_fr (by omega) (by omega) (by omega)
  have cf : ∀ (x : Nat → Nat) (ch q : Nat), Inv x → m < x 3 → (q = 0 ∨ q = 7694 + 72 * m + 0) → catW x m ch q = x q := fun x ch q ix hx hq => by
    have h6 := (iv_mv ix hx).2.2.2.2.2.2.2.1
    unfold catW
    rw [upN_n (by omega), upN_n (by omega), tsF_fr (by omega)]
    exact (cuS_in ix hx _ (by unfold cuN; split <;> omega)).1 _ (by omega)
  have gf : ∀ (x : Nat → Nat) (ch q : Nat) (cl : Bool), Inv x → m < x 3 → (q = 0 ∨ q = 7694 + 72 * m + 0) → govW x m ch cl q = x q := fun x ch q cl ix hx hq => govW_g ix hx (by omega) (by omega) (by omega)
  have iv4 := fa2_Inv iv3 hm3
  have b0 : fa2 (so3 w m) m 0 = w 0 := by rw [fa2_fr (by omega) (by omega)]; exact a0
  have bs0 : fa2 (so3 w m) m (7694 + 72 * m + 0) = w (7694 + 72 * m + 0) := by rw [fa2_fr (by omega) (by omega)]; exact as0
  have hm4 : m < fa2 (so3 w m) m 3 := by rw [fa2_fr (by omega) (by omega)]; exact hm3
  unfold sonW
  split
  · unfold faiW
    repeat' split
    all_goals (simp (disch := first | omega | assumption) only [upN_n, cf, gf, b0, bs0]; intro h; exact ⟨trivial, h⟩)
  · unfold steW gonW
    repeat' split
    all_goals (try (simp (disch := first | omega | assumption) only [upN_n, upN_s, cf, gf, a0, as0])); (try (intro h; exact ⟨trivial, by omega⟩)); (try omega); (try (rename_i hh; exact absurd rfl hh))
    all_goals (unfold swiW; simp (disch := omega) only [upN_n, upN_s]; omega)
def csN (w : Nat → Nat) (m : Nat) : Bool := goB w m && decide (w (7694 + 72 * m + 7) = 0)
def stS (w : Nat → Nat) (ai : FI) (m : Nat) : Nat → (Nat → Nat) × FI
  | 0 => (w, ai)
  | k + 1 => if csN (stS w ai m k).1 m then (sonW (stS w ai m k).1 m, sonA (stS w ai m k).2 (stS w ai m k).1 m) else stS w ai m k
theorem stS_t {w : Nat → Nat} {ai : FI} {m k : Nat} (h : csN (stS w ai m k).1 m = true) : stS w ai m (k + 1) = (sonW (stS w ai m k).1 m, sonA (stS w ai m k).2 (stS w ai m k).1 m) := by show (if _ then _ else _) = _; rw [h]; rfl
theorem stS_f {w : Nat → Nat} {ai : FI} {m k : Nat} (h : csN (stS w ai m k).1 m = false) : ∀ i, stS w ai m (k + i) = stS w ai m k
  | 0 => rfl
  | i + 1 => by
    have ih := stS_f h i
    show (if csN (stS w ai m (k + i)).1 m then _ else stS w ai m (k + i)) = _
    rw [ih, h]
    rfl
theorem stS_in {w : Nat → Nat} (iv : Inv w) {ai : FI} {m : Nat} (hm : m < w 3) (h0 : w (7694 + 72 * m + 0) ≤ 3 → w 0 < 1999) : ∀ k, Inv (stS w ai m k).1 ∧ (stS w ai m k).1 3 = w 3 ∧ ((stS w ai m k).1 (7694 + 72 * m + 0) ≤ 3 → (stS w ai m k).1 0 < 1999)
  | 0 => ⟨iv, rfl, h0⟩
  | k + 1 => by
    obtain ⟨i1, i2, i3⟩ := stS_in iv (ai := ai) hm h0 k
    have hmm := iv_mm iv
    cases hc : csN (stS w ai m k).1 m with
    | false => rw [stS_f hc 1]; exact ⟨i1, i2, i3⟩
    | true =>
      rw [stS_t hc]
      have hg : 1 ≤ (stS w ai m k).1 (7694 + 72 * m + 0) ∧ (stS w ai m k).1 (7694 + 72 * m + 0) ≤ 4 := by unfold csN goB at hc; grind
      have hm2 : m < (stS w ai m k).1 3 := by rw [i2]; exact hm
      have hS := sonW_St i1 hm2 (fun h => i3 (by omega))
      refine ⟨hS.2, ?_, fun h => ?_⟩
      · show sonW _ m 3 = _
        rw [hS.1 3 (by omega) (by unfold stO; omega)]
        exact i2
      · have := sonW_0 i1 hm2 hg h
        show sonW _ m 0 < 1999
        rw [this.1]
        exact i3 this.2
def stpB (w : Nat → Nat) (x y : Int32) : Bool := decide (1 ≤ y.toInt ∧ y.toInt ≤ 100) && csT w x
def stpR (w : Nat → Nat) (ai : FI) (x y : Int32) : Int32 := if stpB w x y then nI ((stS w ai x.toNatClampNeg y.toNatClampNeg).1 (7694 + 72 * x.toNatClampNeg + 0)) else -1
theorem ct_X11_step {fi : FI} {fr : FR} {ai : FI} {ar : FR} {N : Nat} {w : Nat → Nat} (sm : SM fr) (iv : Inv w) (y0 y1 : Int32) {u : Nat} (hu : fi (32 * 11 + 4) (rf 11 80) = nI u) (hu6 : u ≤ 6) {sc : Bool} (hsc : fi (32 * 11 + 8) (rf 11 80) = bI sc) (h0 : w 0 < 1999) : CP mX11_step 5 0 0 [.ref (rf 11 80), .int y0, .int y1] fi fr (mW ai w) ar N (xQ (some (.int (stpR w (actA ai u sc w) y0 y1))) (if stpB w y0 y1 then actF fi u sc else fi) fr (if stpB w y0 y1 then mW (stS w (actA ai u sc w) y0.toNatClampNeg y1.toNatClampNeg).2 (stS w (actA ai u sc w) y0.toNatClampNeg y1.toNatClampNeg).1 else mW ai w) ar N) := by
  obtain ⟨sW, sA, sK, sU, sC, sKC, sT, sCl⟩ := id sm
  have h1 := iv_n iv
  have h3 := iv_mm iv
  change EV mX11_step 5 0 0 0 [some (.ref (rf 11 80)), some (.int y0), some (.int y1), none] [] fi fr (mW ai w) ar N (xQ (some (.int (stpR w (actA ai u sc w) y0 y1))) (if stpB w y0 y1 then actF fi u sc else fi) fr (if stpB w y0 y1 then mW (stS w (actA ai u sc w) y0.toNatClampNeg y1.toNatClampNeg).2 (stS w (actA ai u sc w) y0.toNatClampNeg y1.toNatClampNeg).1 else mW ai w) ar N)
  by_cases hy : 1 ≤ y1.toInt ∧ y1.toInt ≤ 100
  · obtain ⟨b, hb, rfl, hbi, hbc⟩ := int_ex (x := y1) (by omega)
    cases hx : csT w y0 with
    | false =>
      have eb : stpB w y0 (nI b) = false := by unfold stpB; rw [hx, Bool.and_false]
      have e1 : stpR w (actA ai u sc w) y0 (nI b) = -1 := by unfold stpR; rw [eb]; rfl
      rw [e1, eb]
      refine e_iload_n dX11_step_0 rfl rfl ?_
      first | ((with_reducible refine mk_n ?_); refine n_i2l dX11_step_1 (by omega) ?_) | refine e_i2l dX11_step_1 ?_
      refine e_lconst (v := lN 1) dX11_step_2 rfl ?_
      refine e_ldc2 dX11_step_3 co_X11_192 ?_
      refine x_S3 (M' := mX11_isIn) dX11_step_6 ml_X11_45 ok_X11_isIn rfl sc_X11_isIn (by first | ((with_reducible refine ct_isInN ?_ ?_ ?_) <;> omega) | ((with_reducible refine ct_isInX ?_ ?_) <;> omega) | exact ct_X11_isIn _ _ _) (Nat.le_of_ble_eq_true rfl) (by decide) (Nat.le_of_ble_eq_true rfl) ?_
      first | ((with_reducible refine mk_b ?_); refine b_if_eq (tgt := 20) dX11_step_9 (by decide) (fun h9 => ?_) (fun h9 => ?_)) | ((with_reducible refine mk_ll ?_); refine m_if_eq (tgt := 20) dX11_step_9 (by decide) (by omega) (by omega) (fun h9 => ?_) (fun h9 => ?_)) | ((with_reducible refine mk_lc ?_); refine l_if_eq (tgt := 20) dX11_step_9 (by decide) (fun h9 => ?_) (fun h9 => ?_)) | ((with_reducible refine mk_n ?_); refine n_if_eq (tgt := 20) dX11_step_9 (by decide) (by omega) (fun h9 => ?_) (fun h9 => ?_)) | refine e_if_eq (tgt := 20) dX11_step_9 (by decide) (fun h9 => ?_) (fun h9 => ?_)
      · try first | contradiction | omega | (simp only [decide_eq_true_eq, decide_eq_false_iff_not] at h9; omega)
        all_goals
          refine e_iconst (v := -1) dX11_step_20 rfl ?_
          refine e_ret (some _) rfl (r_int dX11_step_21 rfl) ?_
          exact xq rfl rfl rfl rfl rfl rfl
      · try first | contradiction | omega | (simp only [decide_eq_true_eq, decide_eq_false_iff_not] at h9; omega)
        all_goals
          refine e_aload_n dX11_step_12 rfl rfl ?_
          refine e_iload_n dX11_step_13 rfl rfl ?_
          refine x_V1 (M' := mX11_canStep) dX11_step_14 ml_X11_194 ok_X11_canStep (by decide) rfl im_X11_canStep se_X11_canStep (ct_X11_canStep ‹_› ‹_› _) (Nat.le_of_ble_eq_true rfl) (by decide) (Nat.le_of_ble_eq_true rfl) ?_
          rw [hx]
          first | ((with_reducible refine mk_b ?_); refine b_if_ne (tgt := 22) dX11_step_17 (by decide) (fun h17 => ?_) (fun h17 => ?_)) | ((with_reducible refine mk_ll ?_); refine m_if_ne (tgt := 22) dX11_step_17 (by decide) (by omega) (by omega) (fun h17 => ?_) (fun h17 => ?_)) | ((with_reducible refine mk_lc ?_); refine l_if_ne (tgt := 22) dX11_step_17 (by decide) (fun h17 => ?_) (fun h17 => ?_)) | ((with_reducible refine mk_n ?_); refine n_if_ne (tgt := 22) dX11_step_17 (by decide) (by omega) (fun h17 => ?_) (fun h17 => ?_)) | refine e_if_ne (tgt := 22) dX11_step_17 (by decide) (fun h17 => ?_) (fun h17 => ?_)
          · try first | contradiction | omega | (simp only [decide_eq_true_eq, decide_eq_false_iff_not] at h17; omega)
            all_goals
              contradiction
          · try first | contradiction | omega | (simp only [decide_eq_true_eq, decide_eq_false_iff_not] at h17; omega)
            all_goals
              refine e_iconst (v := -1) dX11_step_20 rfl ?_
              refine e_ret (some _) rfl (r_int dX11_step_21 rfl) ?_
              exact xq rfl rfl rfl rfl rfl rfl
    | true =>
      have hx2 : inR y0 (w 3) = true := by unfold csT at hx; grind
      obtain ⟨a, ha, ha2, rfl⟩ := inR_ex hx2
      have hcl : (nI a).toNatClampNeg = a := nI_clamp ha2
      have eb : stpB w (nI a) (nI b) = true := by unfold stpB; rw [hx, decide_eq_true hy]; rfl
      have e1 : stpR w (actA ai u sc w) (nI a) (nI b) = nI ((stS w (actA ai u sc w) a b).1 (7694 + 72 * a + 0)) := by unfold stpR; rw [eb, hcl, hbc]; rfl
      rw [e1, eb, hcl, hbc, if_pos rfl, if_pos rfl]
      have key := ev_up (P := fun j => EV mX11_step 5 0 0 28 [some (.ref (rf 11 80)), some (.int (nI a)), some (.int (nI b)), some (.int (nI j))] [] (actF fi u sc) fr (mW (stS w (actA ai u sc w) a j).2 (stS w (actA ai u sc w) a j).1) ar N (xQ (some (.int (nI ((stS w (actA ai u sc w) a b).1 (7694 + 72 * a + 0))))) (actF fi u sc) fr (mW (stS w (actA ai u sc w) a b).2 (stS w (actA ai u sc w) a b).1) ar N)) b (fun j hj ih => by
        obtain ⟨i1, i2, i3⟩ := stS_in iv (ai := actA ai u sc w) ha (fun _ => h0) j
        have hal : a < (stS w (actA ai u sc w) a j).1 3 := by rw [i2]; exact ha
        have hqj := iv_mv i1 hal
        have hcs : csT (stS w (actA ai u sc w) a j).1 (nI a) = csN (stS w (actA ai u sc w) a j).1 a := by unfold csT csN; rw [inR_nI ha2, decide_eq_true hal, hcl]; rfl
        cases hc : csN (stS w (actA ai u sc w) a j).1 a with
        | false =>
          have hst := stS_f hc (b - j)
          rw [show j + (b - j) = b by omega] at hst
          refine e_iload_n dX11_step_28 rfl rfl ?_
          refine e_iload_n dX11_step_29 rfl rfl ?_
          first | ((with_reducible refine mk_nn ?_); refine n_icmp_ge (tgt := 55) dX11_step_30 (by decide) (by omega) (by omega) (fun h30 => ?_) (fun h30 => ?_)) | refine e_icmp_ge (tgt := 55) dX11_step_30 (by decide) (fun h30 => ?_) (fun h30 => ?_)
          · try first | contradiction | omega
            all_goals
              refine e_aload_n dX11_step_55 rfl rfl ?_
              refine e_getR dX11_step_56 fl_X11_7 rfl (by assumption) ?_
              refine e_iload_n dX11_step_59 rfl rfl ?_
              refine x_S1 (M' := mX11_moveAt) dX11_step_60 ml_X11_62 ok_X11_moveAt rfl sc_X11_moveAt (ct_X11_moveAt) (Nat.le_of_ble_eq_true rfl) (by decide) (Nat.le_of_ble_eq_true rfl) ?_
              refine e_iconst (v := nI 0) dX11_step_63 rfl ?_
              first | ((with_reducible refine mk_nn ?_); refine n_iadd dX11_step_64 ?_) | refine e_iadd dX11_step_64 ?_
              first | ((with_reducible refine mk_ldw ?_); refine e_ldw dX11_step_65 (by omega) ?_) | refine e_iald _ dX11_step_65 ⟨by decide, by decide⟩ rfl rfl (by simp only [lenK]; omega) ?_
              refine e_ret (some _) rfl (r_int dX11_step_66 rfl) ?_
              refine xq ?_ rfl rfl ?_ rfl rfl <;> rw [hst]
          · try first | contradiction | omega
            all_goals
              refine e_aload_n dX11_step_33 rfl rfl ?_
              refine e_iload_n dX11_step_34 rfl rfl ?_
              refine x_V1 (M' := mX11_canStep) dX11_step_35 ml_X11_194 ok_X11_canStep (by decide) rfl im_X11_canStep se_X11_canStep (ct_X11_canStep ‹_› i1 _) (Nat.le_of_ble_eq_true rfl) (by decide) (Nat.le_of_ble_eq_true rfl) ?_
              rw [hcs, hc]
              first | ((with_reducible refine mk_b ?_); refine b_if_eq (tgt := 55) dX11_step_38 (by decide) (fun h38 => ?_) (fun h38 => ?_)) | ((with_reducible refine mk_ll ?_); refine m_if_eq (tgt := 55) dX11_step_38 (by decide) (by omega) (by omega) (fun h38 => ?_) (fun h38 => ?_)) | ((with_reducible refine mk_lc ?_); refine l_if_eq (tgt := 55) dX11_step_38 (by decide) (fun h38 => ?_) (fun h38 => ?_)) | ((with_reducible refine mk_n ?_); refine n_if_eq (tgt := 55) dX11_step_38 (by decide) (by omega) (fun h38 => ?_) (fun h38 => ?_)) | refine e_if_eq (tgt := 55) dX11_step_38 (by decide) (fun h38 => ?_) (fun h38 => ?_)
              · try first | contradiction | omega | (simp only [decide_eq_true_eq, decide_eq_false_iff_not] at h38; omega)
                all_goals
                  refine e_aload_n dX11_step_55 rfl rfl ?_
                  refine e_getR dX11_step_56 fl_X11_7 rfl (by assumption) ?_
                  refine e_iload_n dX11_step_59 rfl rfl ?_
                  refine x_S1 (M' := mX11_moveAt) dX11_step_60 ml_X11_62 ok_X11_moveAt rfl sc_X11_moveAt (ct_X11_moveAt) (Nat.le_of_ble_eq_true rfl) (by decide) (Nat.le_of_ble_eq_true rfl) ?_
                  refine e_iconst (v := nI 0) dX11_step_63 rfl ?_
                  first | ((with_reducible refine mk_nn ?_); refine n_iadd dX11_step_64 ?_) | refine e_iadd dX11_step_64 ?_
                  first | ((with_reducible refine mk_ldw ?_); refine e_ldw dX11_step_65 (by omega) ?_) | refine e_iald _ dX11_step_65 ⟨by decide, by decide⟩ rfl rfl (by simp only [lenK]; omega) ?_
                  refine e_ret (some _) rfl (r_int dX11_step_66 rfl) ?_
                  refine xq ?_ rfl rfl ?_ rfl rfl <;> rw [hst]
              · try first | contradiction | omega | (simp only [decide_eq_true_eq, decide_eq_false_iff_not] at h38; omega)
                all_goals
                  contradiction
        | true =>
          have hg : 1 ≤ (stS w (actA ai u sc w) a j).1 (7694 + 72 * a + 0) ∧ (stS w (actA ai u sc w) a j).1 (7694 + 72 * a + 0) ≤ 4 := by unfold csN goB at hc; grind
          rw [stS_t hc] at ih
          refine e_iload_n dX11_step_28 rfl rfl ?_
          refine e_iload_n dX11_step_29 rfl rfl ?_
          first | ((with_reducible refine mk_nn ?_); refine n_icmp_ge (tgt := 55) dX11_step_30 (by decide) (by omega) (by omega) (fun h30 => ?_) (fun h30 => ?_)) | refine e_icmp_ge (tgt := 55) dX11_step_30 (by decide) (fun h30 => ?_) (fun h30 => ?_)
          · try first | contradiction | omega
            all_goals
              contradiction
          · try first | contradiction | omega
            all_goals
              refine e_aload_n dX11_step_33 rfl rfl ?_
              refine e_iload_n dX11_step_34 rfl rfl ?_
              refine x_V1 (M' := mX11_canStep) dX11_step_35 ml_X11_194 ok_X11_canStep (by decide) rfl im_X11_canStep se_X11_canStep (ct_X11_canStep ‹_› i1 _) (Nat.le_of_ble_eq_true rfl) (by decide) (Nat.le_of_ble_eq_true rfl) ?_
              rw [hcs, hc]
              first | ((with_reducible refine mk_b ?_); refine b_if_eq (tgt := 55) dX11_step_38 (by decide) (fun h38 => ?_) (fun h38 => ?_)) | ((with_reducible refine mk_ll ?_); refine m_if_eq (tgt := 55) dX11_step_38 (by decide) (by omega) (by omega) (fun h38 => ?_) (fun h38 => ?_)) | ((with_reducible refine mk_lc ?_); refine l_if_eq (tgt := 55) dX11_step_38 (by decide) (fun h38 => ?_) (fun h38 => ?_)) | ((with_reducible refine mk_n ?_); refine n_if_eq (tgt := 55) dX11_step_38 (by decide) (by omega) (fun h38 => ?_) (fun h38 => ?_)) | refine e_if_eq (tgt := 55) dX11_step_38 (by decide) (fun h38 => ?_) (fun h38 => ?_)
              · try first | contradiction | omega | (simp only [decide_eq_true_eq, decide_eq_false_iff_not] at h38; omega)
                all_goals
                  contradiction
              · try first | contradiction | omega | (simp only [decide_eq_true_eq, decide_eq_false_iff_not] at h38; omega)
                all_goals
                  refine e_aload_n dX11_step_41 rfl rfl ?_
                  refine e_iload_n dX11_step_42 rfl rfl ?_
                  refine x_S1 (M' := mX11_moveAt) dX11_step_43 ml_X11_62 ok_X11_moveAt rfl sc_X11_moveAt (ct_X11_moveAt) (Nat.le_of_ble_eq_true rfl) (by decide) (Nat.le_of_ble_eq_true rfl) ?_
                  refine y_V1 (M' := mX11_stepsOnce) dX11_step_46 ml_X11_197 ok_X11_stepsOnce (by decide) rfl im_X11_stepsOnce se_X11_stepsOnce (ct_X11_stepsOnce ‹_› i1 hal hg) (Nat.le_of_ble_eq_true rfl) (by decide) (Nat.le_of_ble_eq_true rfl) ?_
                  first | refine n_inc dX11_step_49 rfl (Nat.le_of_ble_eq_true rfl) rfl ?_ | refine e_iinc dX11_step_49 rfl rfl (Nat.le_of_ble_eq_true rfl) rfl ?_
                  refine e_goto (tgt := 28) dX11_step_52 (by decide) ?_
                  exact ih
        ) (by
        obtain ⟨i1, i2, i3⟩ := stS_in iv (ai := actA ai u sc w) ha (fun _ => h0) b
        have hal : a < (stS w (actA ai u sc w) a b).1 3 := by rw [i2]; exact ha
        have hqj := iv_mv i1 hal
        refine e_iload_n dX11_step_28 rfl rfl ?_
        refine e_iload_n dX11_step_29 rfl rfl ?_
        first | ((with_reducible refine mk_nn ?_); refine n_icmp_ge (tgt := 55) dX11_step_30 (by decide) (by omega) (by omega) (fun h30 => ?_) (fun h30 => ?_)) | refine e_icmp_ge (tgt := 55) dX11_step_30 (by decide) (fun h30 => ?_) (fun h30 => ?_)
        · try first | contradiction | omega
          all_goals
            refine e_aload_n dX11_step_55 rfl rfl ?_
            refine e_getR dX11_step_56 fl_X11_7 rfl (by assumption) ?_
            refine e_iload_n dX11_step_59 rfl rfl ?_
            refine x_S1 (M' := mX11_moveAt) dX11_step_60 ml_X11_62 ok_X11_moveAt rfl sc_X11_moveAt (ct_X11_moveAt) (Nat.le_of_ble_eq_true rfl) (by decide) (Nat.le_of_ble_eq_true rfl) ?_
            refine e_iconst (v := nI 0) dX11_step_63 rfl ?_
            first | ((with_reducible refine mk_nn ?_); refine n_iadd dX11_step_64 ?_) | refine e_iadd dX11_step_64 ?_
            first | ((with_reducible refine mk_ldw ?_); refine e_ldw dX11_step_65 (by omega) ?_) | refine e_iald _ dX11_step_65 ⟨by decide, by decide⟩ rfl rfl (by simp only [lenK]; omega) ?_
            refine e_ret (some _) rfl (r_int dX11_step_66 rfl) ?_
            exact xq rfl rfl rfl rfl rfl rfl
        · try first | contradiction | omega
          all_goals
            contradiction
        )
      refine e_iload_n dX11_step_0 rfl rfl ?_
      first | ((with_reducible refine mk_n ?_); refine n_i2l dX11_step_1 (by omega) ?_) | refine e_i2l dX11_step_1 ?_
      refine e_lconst (v := lN 1) dX11_step_2 rfl ?_
      refine e_ldc2 dX11_step_3 co_X11_192 ?_
      refine x_S3 (M' := mX11_isIn) dX11_step_6 ml_X11_45 ok_X11_isIn rfl sc_X11_isIn (by first | ((with_reducible refine ct_isInN ?_ ?_ ?_) <;> omega) | ((with_reducible refine ct_isInX ?_ ?_) <;> omega) | exact ct_X11_isIn _ _ _) (Nat.le_of_ble_eq_true rfl) (by decide) (Nat.le_of_ble_eq_true rfl) ?_
      first | ((with_reducible refine mk_b ?_); refine b_if_eq (tgt := 20) dX11_step_9 (by decide) (fun h9 => ?_) (fun h9 => ?_)) | ((with_reducible refine mk_ll ?_); refine m_if_eq (tgt := 20) dX11_step_9 (by decide) (by omega) (by omega) (fun h9 => ?_) (fun h9 => ?_)) | ((with_reducible refine mk_lc ?_); refine l_if_eq (tgt := 20) dX11_step_9 (by decide) (fun h9 => ?_) (fun h9 => ?_)) | ((with_reducible refine mk_n ?_); refine n_if_eq (tgt := 20) dX11_step_9 (by decide) (by omega) (fun h9 => ?_) (fun h9 => ?_)) | refine e_if_eq (tgt := 20) dX11_step_9 (by decide) (fun h9 => ?_) (fun h9 => ?_)
      · try first | contradiction | omega | (simp only [decide_eq_true_eq, decide_eq_false_iff_not] at h9; omega)
        all_goals
          contradiction
      · try first | contradiction | omega | (simp only [decide_eq_true_eq, decide_eq_false_iff_not] at h9; omega)
        all_goals
          refine e_aload_n dX11_step_12 rfl rfl ?_
          refine e_iload_n dX11_step_13 rfl rfl ?_
          refine x_V1 (M' := mX11_canStep) dX11_step_14 ml_X11_194 ok_X11_canStep (by decide) rfl im_X11_canStep se_X11_canStep (ct_X11_canStep ‹_› ‹_› _) (Nat.le_of_ble_eq_true rfl) (by decide) (Nat.le_of_ble_eq_true rfl) ?_
          rw [hx]
          first | ((with_reducible refine mk_b ?_); refine b_if_ne (tgt := 22) dX11_step_17 (by decide) (fun h17 => ?_) (fun h17 => ?_)) | ((with_reducible refine mk_ll ?_); refine m_if_ne (tgt := 22) dX11_step_17 (by decide) (by omega) (by omega) (fun h17 => ?_) (fun h17 => ?_)) | ((with_reducible refine mk_lc ?_); refine l_if_ne (tgt := 22) dX11_step_17 (by decide) (fun h17 => ?_) (fun h17 => ?_)) | ((with_reducible refine mk_n ?_); refine n_if_ne (tgt := 22) dX11_step_17 (by decide) (by omega) (fun h17 => ?_) (fun h17 => ?_)) | refine e_if_ne (tgt := 22) dX11_step_17 (by decide) (fun h17 => ?_) (fun h17 => ?_)
          · try first | contradiction | omega | (simp only [decide_eq_true_eq, decide_eq_false_iff_not] at h17; omega)
            all_goals
              refine e_aload_n dX11_step_22 rfl rfl ?_
              refine y_V0 (M' := mX11_acts) dX11_step_23 ml_X11_86 ok_X11_acts (by decide) rfl im_X11_acts se_X11_acts (ct_X11_acts ‹_› hu hu6 hsc) (Nat.le_of_ble_eq_true rfl) (by decide) (Nat.le_of_ble_eq_true rfl) ?_
              refine e_iconst (v := nI 0) dX11_step_26 rfl ?_
              refine e_istore_n dX11_step_27 rfl (Nat.le_of_ble_eq_true rfl) rfl ?_
              exact key 0 (by omega)
          · try first | contradiction | omega | (simp only [decide_eq_true_eq, decide_eq_false_iff_not] at h17; omega)
            all_goals
              contradiction
  · have eb : stpB w y0 y1 = false := by unfold stpB; rw [decide_eq_false hy]; rfl
    have e1 : stpR w (actA ai u sc w) y0 y1 = -1 := by unfold stpR; rw [eb]; rfl
    rw [e1, eb]
    refine e_iload_n dX11_step_0 rfl rfl ?_
    first | ((with_reducible refine mk_n ?_); refine n_i2l dX11_step_1 (by omega) ?_) | refine e_i2l dX11_step_1 ?_
    refine e_lconst (v := lN 1) dX11_step_2 rfl ?_
    refine e_ldc2 dX11_step_3 co_X11_192 ?_
    refine x_S3 (M' := mX11_isIn) dX11_step_6 ml_X11_45 ok_X11_isIn rfl sc_X11_isIn (by first | ((with_reducible refine ct_isInN ?_ ?_ ?_) <;> omega) | ((with_reducible refine ct_isInX ?_ ?_) <;> omega) | exact ct_X11_isIn _ _ _) (Nat.le_of_ble_eq_true rfl) (by decide) (Nat.le_of_ble_eq_true rfl) ?_
    first | ((with_reducible refine mk_b ?_); refine b_if_eq (tgt := 20) dX11_step_9 (by decide) (fun h9 => ?_) (fun h9 => ?_)) | ((with_reducible refine mk_ll ?_); refine m_if_eq (tgt := 20) dX11_step_9 (by decide) (by omega) (by omega) (fun h9 => ?_) (fun h9 => ?_)) | ((with_reducible refine mk_lc ?_); refine l_if_eq (tgt := 20) dX11_step_9 (by decide) (fun h9 => ?_) (fun h9 => ?_)) | ((with_reducible refine mk_n ?_); refine n_if_eq (tgt := 20) dX11_step_9 (by decide) (by omega) (fun h9 => ?_) (fun h9 => ?_)) | refine e_if_eq (tgt := 20) dX11_step_9 (by decide) (fun h9 => ?_) (fun h9 => ?_)
    · try first | contradiction | omega | (simp only [decide_eq_true_eq, decide_eq_false_iff_not] at h9; omega)
      all_goals
        refine e_iconst (v := -1) dX11_step_20 rfl ?_
        refine e_ret (some _) rfl (r_int dX11_step_21 rfl) ?_
        exact xq rfl rfl rfl rfl rfl rfl
    · try first | contradiction | omega | (simp only [decide_eq_true_eq, decide_eq_false_iff_not] at h9; omega)
      all_goals
        omega
