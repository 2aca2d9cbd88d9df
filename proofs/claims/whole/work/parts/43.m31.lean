/-- the row of changes may be written beyond the epoch -/
def lQ (fi : FI) (fr : FR) (ai : FI) (ar : FR) (N : Nat) (w : Nat → Nat) (R : Value) : EQ := fun r1 fi1 fr1 ai1 ar1 N1 => r1 = some R ∧ fi1 = fi ∧ fr1 = fr ∧ (∃ g h, ai1 = mW (sA (sA ai (rf 32 82) g) (rf 34 85) h) w ∧ ∀ i, i < 3 * (w 0 + 1) → h i = ai (rf 34 85) i) ∧ ar1 = ar ∧ N1 = N
theorem notA_sA {ai : FI} {h : Nat → Int32} {e a b c : Nat} : notA (sA ai (rf 34 85) h) e a b c = sA ai (rf 34 85) (upd (upd (upd h (3 * e) (nI a)) (3 * e + 1) (nI b)) (3 * e + 2) (nI c)) := by unfold notA; rw [sA_up, sA_up, sA_up]
theorem steW_hi {w : Nat → Nat} (iv : Inv w) {m : Nat} (hm : m < w 3) {q : Nat} (hq : 8597 ≤ q) : steW w m q = w q := by
  have hmm := iv_mm iv
  have hmv := iv_mv iv hm
  have h1 := iv_n iv
  have gv : ∀ ch cl, govW w m ch cl q = w q := fun ch cl => govW_f iv hm hmv.2.2.2.2.2.2.1 (by omega) (by omega) (by omega)
  have hc : catW w m (w 2) q = w q := by
    unfold catW
    rw [upN_n (by omega), upN_n (by omega), tsF_fr (by omega)]
    exact (cuS_in iv hm _ (by unfold cuN; split <;> omega)).1 _ (by omega)
  have hs := spW_lt iv (w (7694 + 72 * m + 1))
  unfold steW gonW swiW
  repeat' split
  all_goals (simp (disch := omega) only [upN_n, gv, hc])
theorem steW_0 {w : Nat → Nat} (iv : Inv w) {m : Nat} (hm : m < w 3) : steW w m 0 ≤ w 0 + 1 ∧ w 0 ≤ steW w m 0 ∧ (steW w m 0 ≠ w 0 → steW w m (7694 + 72 * m + 0) = 4) ∧ (w (7694 + 72 * m + 0) = 4 → steW w m (7694 + 72 * m + 0) = 4 ∨ steW w m (7694 + 72 * m + 0) = 5) := by
  have hmm := iv_mm iv
  have hmv := iv_mv iv hm
  have h1 := iv_n iv
  have gv : ∀ ch cl, govW w m ch cl 0 = w 0 := fun ch cl => govW_g iv hm (by omega) (by omega) (by omega)
  have gs : ∀ ch cl, govW w m ch cl (7694 + 72 * m + 0) = w (7694 + 72 * m + 0) := fun ch cl => govW_g iv hm (by omega) (by omega) (by omega)
  have hc : catW w m (w 2) 0 = w 0 := by
    unfold catW
    rw [upN_n (by omega), upN_n (by omega), tsF_fr (by omega)]
    exact (cuS_in iv hm _ (by unfold cuN; split <;> omega)).1 _ (by omega)
  have hs := spW_lt iv (w (7694 + 72 * m + 1))
  unfold steW gonW swiW
  repeat' split
  all_goals (simp (disch := omega) only [upN_n, upN_s, gv, gs, hc]; grind)
def lasR (w : Nat → Nat) (y0 : Int32) : Int32 := if csT w y0 && auB w y0.toNatClampNeg then nI (lsN w y0.toNatClampNeg) else -1
theorem ct_X11_lasts {fi : FI} {fr : FR} {ai : FI} {ar : FR} {N : Nat} {w : Nat → Nat} (sm : SM fr) (iv : Inv w) (y0 : Int32) (h0 : w 0 < 1998) (hft : ∀ m, m < w 3 → w (7694 + 72 * m + 3) ≠ w (7694 + 72 * m + 4)) : CP mX11_lasts 4 0 0 [.ref (rf 11 80), .int y0] fi fr (mW ai w) ar N (lQ fi fr ai ar N w (.int (lasR w y0))) := by
  obtain ⟨sW, sA0, sK, sU, sC, sKC, sT, sCl⟩ := id sm
  have h1 := iv_n iv
  have h3 := iv_mm iv
  change EV mX11_lasts 4 0 0 0 [some (.ref (rf 11 80)), some (.int y0), none] [] fi fr (mW ai w) ar N (lQ fi fr ai ar N w (.int (lasR w y0)))
  cases hx : csT w y0 with
  | false =>
    have e1 : lasR w y0 = -1 := by unfold lasR; rw [hx]; rfl
    rw [e1]
    refine e_aload_n dX11_lasts_0 rfl rfl ?_
    refine e_iload_n dX11_lasts_1 rfl rfl ?_
    refine x_V1 (M' := mX11_canStep) dX11_lasts_2 ml_X11_194 ok_X11_canStep (by decide) rfl im_X11_canStep se_X11_canStep (ct_X11_canStep ‹_› ‹_› _) (Nat.le_of_ble_eq_true rfl) (by decide) (Nat.le_of_ble_eq_true rfl) ?_
    rw [hx]
    first | ((with_reducible refine mk_b ?_); refine b_if_eq (tgt := 19) dX11_lasts_5 (by decide) (fun h5 => ?_) (fun h5 => ?_)) | ((with_reducible refine mk_ll ?_); refine m_if_eq (tgt := 19) dX11_lasts_5 (by decide) (by omega) (by omega) (fun h5 => ?_) (fun h5 => ?_)) | ((with_reducible refine mk_lc ?_); refine l_if_eq (tgt := 19) dX11_lasts_5 (by decide) (fun h5 => ?_) (fun h5 => ?_)) | ((with_reducible refine mk_n ?_); refine n_if_eq (tgt := 19) dX11_lasts_5 (by decide) (by omega) (fun h5 => ?_) (fun h5 => ?_)) | refine e_if_eq (tgt := 19) dX11_lasts_5 (by decide) (fun h5 => ?_) (fun h5 => ?_)
    · try first | contradiction | omega | (simp only [decide_eq_true_eq, decide_eq_false_iff_not] at h5; omega)
      all_goals
        refine e_iconst (v := -1) dX11_lasts_19 rfl ?_
        refine e_ret (some _) rfl (r_int dX11_lasts_20 rfl) ?_
        exact ⟨rfl, rfl, rfl, ⟨ai (rf 32 82), ai (rf 34 85), by rw [sA_self, sA_self], fun _ _ => rfl⟩, rfl, rfl⟩
    · try first | contradiction | omega | (simp only [decide_eq_true_eq, decide_eq_false_iff_not] at h5; omega)
      all_goals
        contradiction
  | true =>
    have hx2 : inR y0 (w 3) = true ∧ goB w y0.toNatClampNeg = true := by unfold csT at hx; grind
    obtain ⟨a, ha, ha2, rfl⟩ := inR_ex hx2.1
    have hcl : (nI a).toNatClampNeg = a := nI_clamp ha2
    rw [hcl] at hx2
    cases hb : auB w a with
    | false =>
      have e1 : lasR w (nI a) = -1 := by unfold lasR; rw [hx, hcl, hb]; rfl
      rw [e1]
      refine e_aload_n dX11_lasts_0 rfl rfl ?_
      refine e_iload_n dX11_lasts_1 rfl rfl ?_
      refine x_V1 (M' := mX11_canStep) dX11_lasts_2 ml_X11_194 ok_X11_canStep (by decide) rfl im_X11_canStep se_X11_canStep (ct_X11_canStep ‹_› ‹_› _) (Nat.le_of_ble_eq_true rfl) (by decide) (Nat.le_of_ble_eq_true rfl) ?_
      rw [hx]
      first | ((with_reducible refine mk_b ?_); refine b_if_eq (tgt := 19) dX11_lasts_5 (by decide) (fun h5 => ?_) (fun h5 => ?_)) | ((with_reducible refine mk_ll ?_); refine m_if_eq (tgt := 19) dX11_lasts_5 (by decide) (by omega) (by omega) (fun h5 => ?_) (fun h5 => ?_)) | ((with_reducible refine mk_lc ?_); refine l_if_eq (tgt := 19) dX11_lasts_5 (by decide) (fun h5 => ?_) (fun h5 => ?_)) | ((with_reducible refine mk_n ?_); refine n_if_eq (tgt := 19) dX11_lasts_5 (by decide) (by omega) (fun h5 => ?_) (fun h5 => ?_)) | refine e_if_eq (tgt := 19) dX11_lasts_5 (by decide) (fun h5 => ?_) (fun h5 => ?_)
      · try first | contradiction | omega | (simp only [decide_eq_true_eq, decide_eq_false_iff_not] at h5; omega)
        all_goals
          refine e_iconst (v := -1) dX11_lasts_19 rfl ?_
          refine e_ret (some _) rfl (r_int dX11_lasts_20 rfl) ?_
          exact ⟨rfl, rfl, rfl, ⟨ai (rf 32 82), ai (rf 34 85), by rw [sA_self, sA_self], fun _ _ => rfl⟩, rfl, rfl⟩
      · try first | contradiction | omega | (simp only [decide_eq_true_eq, decide_eq_false_iff_not] at h5; omega)
        all_goals
          refine e_aload_n dX11_lasts_8 rfl rfl ?_
          refine e_iload_n dX11_lasts_9 rfl rfl ?_
          refine x_S1 (M' := mX11_moveAt) dX11_lasts_10 ml_X11_62 ok_X11_moveAt rfl sc_X11_moveAt (ct_X11_moveAt) (Nat.le_of_ble_eq_true rfl) (by decide) (Nat.le_of_ble_eq_true rfl) ?_
          refine x_V1 (M' := mX11_areUp) dX11_lasts_13 ml_X11_205 ok_X11_areUp (by decide) rfl im_X11_areUp se_X11_areUp (ct_X11_areUp ‹_› ‹_› ha) (Nat.le_of_ble_eq_true rfl) (by decide) (Nat.le_of_ble_eq_true rfl) ?_
          rw [hb]
          first | ((with_reducible refine mk_b ?_); refine b_if_ne (tgt := 21) dX11_lasts_16 (by decide) (fun h16 => ?_) (fun h16 => ?_)) | ((with_reducible refine mk_ll ?_); refine m_if_ne (tgt := 21) dX11_lasts_16 (by decide) (by omega) (by omega) (fun h16 => ?_) (fun h16 => ?_)) | ((with_reducible refine mk_lc ?_); refine l_if_ne (tgt := 21) dX11_lasts_16 (by decide) (fun h16 => ?_) (fun h16 => ?_)) | ((with_reducible refine mk_n ?_); refine n_if_ne (tgt := 21) dX11_lasts_16 (by decide) (by omega) (fun h16 => ?_) (fun h16 => ?_)) | refine e_if_ne (tgt := 21) dX11_lasts_16 (by decide) (fun h16 => ?_) (fun h16 => ?_)
          · try first | contradiction | omega | (simp only [decide_eq_true_eq, decide_eq_false_iff_not] at h16; omega)
            all_goals
              contradiction
          · try first | contradiction | omega | (simp only [decide_eq_true_eq, decide_eq_false_iff_not] at h16; omega)
            all_goals
              refine e_iconst (v := -1) dX11_lasts_19 rfl ?_
              refine e_ret (some _) rfl (r_int dX11_lasts_20 rfl) ?_
              exact ⟨rfl, rfl, rfl, ⟨ai (rf 32 82), ai (rf 34 85), by rw [sA_self, sA_self], fun _ _ => rfl⟩, rfl, rfl⟩
    | true =>
      have e1 : lasR w (nI a) = nI (lsN w a) := by unfold lasR; rw [hx, hcl, hb]; rfl
      rw [e1]
      have hv : ∀ h k, k < 8597 → (sA (sA ai (rf 32 82) (cpA (ai (rf 32 82)) (fun i => nI (w i)) 0 8597)) (rf 34 85) h) (rf 32 82) k = nI (w k) := fun h k hk => by rw [sA_o (by decide), sA_s, cpA_in (by omega)]
      have key : ∀ (r : Nat) (h : Nat → Int32) (v : Nat → Nat) (n : Nat), lsN v a = r → Inv v → v 3 = w 3 → v (7694 + 72 * a + 3) ≠ v (7694 + 72 * a + 4) → (v 0 = w 0 ∨ (v 0 = w 0 + 1 ∧ 4 ≤ v (7694 + 72 * a + 0))) → (∀ q, 8597 ≤ q → v q = w q) → (∀ i, i < 3 * (w 0 + 1) → h i = ai (rf 34 85) i) → EV mX11_lasts 4 0 0 27 [some (.ref (rf 11 80)), some (.int (nI a)), some (.int (nI n))] [] fi fr (mW (sA (sA ai (rf 32 82) (cpA (ai (rf 32 82)) (fun i => nI (w i)) 0 8597)) (rf 34 85) h) v) ar N (lQ fi fr ai ar N w (.int (nI (n + r)))) := by
        intro r
        induction r with
        | zero =>
          intro h v n hr hv1 hv3 hvf hv0 hvq hhi
          have hal : a < v 3 := by omega
          have hg : goB v a = false := by
            cases hg : goB v a with
            | false => rfl
            | true =>
              have := (ls_step hv1 hal hvf hg).1
              omega
          refine e_aload_n dX11_lasts_27 rfl rfl ?_
          refine e_iload_n dX11_lasts_28 rfl rfl ?_
          refine x_V1 (M' := mX11_isGoing) dX11_lasts_29 ml_X11_67 ok_X11_isGoing (by decide) rfl im_X11_isGoing se_X11_isGoing (ct_X11_isGoing ‹_› hv1 hal) (Nat.le_of_ble_eq_true rfl) (by decide) (Nat.le_of_ble_eq_true rfl) ?_
          rw [hg]
          first | ((with_reducible refine mk_b ?_); refine b_if_eq (tgt := 49) dX11_lasts_32 (by decide) (fun h32 => ?_) (fun h32 => ?_)) | ((with_reducible refine mk_ll ?_); refine m_if_eq (tgt := 49) dX11_lasts_32 (by decide) (by omega) (by omega) (fun h32 => ?_) (fun h32 => ?_)) | ((with_reducible refine mk_lc ?_); refine l_if_eq (tgt := 49) dX11_lasts_32 (by decide) (fun h32 => ?_) (fun h32 => ?_)) | ((with_reducible refine mk_n ?_); refine n_if_eq (tgt := 49) dX11_lasts_32 (by decide) (by omega) (fun h32 => ?_) (fun h32 => ?_)) | refine e_if_eq (tgt := 49) dX11_lasts_32 (by decide) (fun h32 => ?_) (fun h32 => ?_)
          · try first | contradiction | omega | (simp only [decide_eq_true_eq, decide_eq_false_iff_not] at h32; omega)
            all_goals
              refine e_aload_n dX11_lasts_49 rfl rfl ?_
              refine y_V0 (M' := mX11_comesBack) dX11_lasts_50 ml_X11_386 ok_X11_comesBack (by decide) rfl im_X11_comesBack se_X11_comesBack (ct_X11_comesBack ‹_› (hv h)) (Nat.le_of_ble_eq_true rfl) (by decide) (Nat.le_of_ble_eq_true rfl) ?_
              refine e_iload_n dX11_lasts_53 rfl rfl ?_
              refine e_ret (some _) rfl (r_int dX11_lasts_54 rfl) ?_
              exact ⟨rfl, rfl, rfl, ⟨_, h, by rw [ov_w hvq], hhi⟩, rfl, rfl⟩
          · try first | contradiction | omega | (simp only [decide_eq_true_eq, decide_eq_false_iff_not] at h32; omega)
            all_goals
              contradiction
        | succ r ih =>
          intro h v n hr hv1 hv3 hvf hv0 hvq hhi
          have hal : a < v 3 := by omega
          have hg : goB v a = true := by
            cases hg : goB v a with
            | true => rfl
            | false => have := lsN_0 hg; omega
          have hst : 1 ≤ v (7694 + 72 * a + 0) ∧ v (7694 + 72 * a + 0) ≤ 4 := of_decide_eq_true hg
          obtain ⟨s1, s2, s3⟩ := ls_step hv1 hal hvf hg
          have hS := steW_St hv1 hal (fun z => by omega)
          obtain ⟨t1, t2, t3, t4⟩ := steW_0 hv1 hal
          have hz : steW v a 0 = w 0 ∨ (steW v a 0 = w 0 + 1 ∧ 4 ≤ steW v a (7694 + 72 * a + 0)) := by
            rcases hv0 with hv0 | ⟨hv0, hv4⟩
            · by_cases e : steW v a 0 = v 0
              · left; omega
              · right; have := t3 e; omega
            · right
              have h4 : v (7694 + 72 * a + 0) = 4 := by omega
              have ne3 : ¬ v (7694 + 72 * a + 0) = 3 := by omega
              have e0 : steW v a 0 = v 0 := by
                have hmv := iv_mv hv1 hal
                have gv : ∀ ch cl, govW v a ch cl 0 = v 0 := fun ch cl => govW_g hv1 hal (by omega) (by omega) (by omega)
                unfold steW gonW
                rw [if_neg (by omega), if_neg (by omega), if_neg (by omega)]
                repeat' split
                all_goals (simp (disch := omega) only [upN_n, gv])
              have := t4 h4
              omega
          have ih2 : ∀ h', (∀ i, i < 3 * (w 0 + 1) → h' i = ai (rf 34 85) i) → EV mX11_lasts 4 0 0 27 [some (.ref (rf 11 80)), some (.int (nI a)), some (.int (nI (n + 1)))] [] fi fr (mW (sA (sA ai (rf 32 82) (cpA (ai (rf 32 82)) (fun i => nI (w i)) 0 8597)) (rf 34 85) h') (steW v a)) ar N (lQ fi fr ai ar N w (.int (nI (n + (r + 1))))) := fun h' hh' => by
            have := ih h' (steW v a) (n + 1) (by omega) hS.2 (by rw [hS.1 3 (by omega) (by unfold stO; omega)]; exact hv3) (by rw [s2, s3]; exact hvf) hz (fun q hq => by rw [steW_hi hv1 hal hq]; exact hvq q hq) hh'
            rw [show n + 1 + r = n + (r + 1) by omega] at this
            exact this
          have ih3 : EV mX11_lasts 4 0 0 27 [some (.ref (rf 11 80)), some (.int (nI a)), some (.int (nI (n + 1)))] [] fi fr (mW (steA (sA (sA ai (rf 32 82) (cpA (ai (rf 32 82)) (fun i => nI (w i)) 0 8597)) (rf 34 85) h) v a) (steW v a)) ar N (lQ fi fr ai ar N w (.int (nI (n + (r + 1))))) := by
            unfold steA
            split
            · unfold swiA
              rw [notA_sA]
              refine ih2 _ (fun i hi => ?_)
              have e0 : v 0 = w 0 := by omega
              unfold upd
              rw [if_neg (by omega), if_neg (by omega), if_neg (by omega)]
              exact hhi i hi
            · exact ih2 h hhi
          refine e_aload_n dX11_lasts_27 rfl rfl ?_
          refine e_iload_n dX11_lasts_28 rfl rfl ?_
          refine x_V1 (M' := mX11_isGoing) dX11_lasts_29 ml_X11_67 ok_X11_isGoing (by decide) rfl im_X11_isGoing se_X11_isGoing (ct_X11_isGoing ‹_› hv1 hal) (Nat.le_of_ble_eq_true rfl) (by decide) (Nat.le_of_ble_eq_true rfl) ?_
          rw [hg]
          first | ((with_reducible refine mk_b ?_); refine b_if_eq (tgt := 49) dX11_lasts_32 (by decide) (fun h32 => ?_) (fun h32 => ?_)) | ((with_reducible refine mk_ll ?_); refine m_if_eq (tgt := 49) dX11_lasts_32 (by decide) (by omega) (by omega) (fun h32 => ?_) (fun h32 => ?_)) | ((with_reducible refine mk_lc ?_); refine l_if_eq (tgt := 49) dX11_lasts_32 (by decide) (fun h32 => ?_) (fun h32 => ?_)) | ((with_reducible refine mk_n ?_); refine n_if_eq (tgt := 49) dX11_lasts_32 (by decide) (by omega) (fun h32 => ?_) (fun h32 => ?_)) | refine e_if_eq (tgt := 49) dX11_lasts_32 (by decide) (fun h32 => ?_) (fun h32 => ?_)
          · try first | contradiction | omega | (simp only [decide_eq_true_eq, decide_eq_false_iff_not] at h32; omega)
            all_goals
              contradiction
          · try first | contradiction | omega | (simp only [decide_eq_true_eq, decide_eq_false_iff_not] at h32; omega)
            all_goals
              refine e_aload_n dX11_lasts_35 rfl rfl ?_
              refine e_iload_n dX11_lasts_36 rfl rfl ?_
              refine x_S1 (M' := mX11_moveAt) dX11_lasts_37 ml_X11_62 ok_X11_moveAt rfl sc_X11_moveAt (ct_X11_moveAt) (Nat.le_of_ble_eq_true rfl) (by decide) (Nat.le_of_ble_eq_true rfl) ?_
              refine y_V1 (M' := mX11_steps) dX11_lasts_40 ml_X11_186 ok_X11_steps (by decide) rfl im_X11_steps se_X11_steps (ct_X11_steps ‹_› hv1 hal) (Nat.le_of_ble_eq_true rfl) (by decide) (Nat.le_of_ble_eq_true rfl) ?_
              first | refine n_inc dX11_lasts_43 rfl (Nat.le_of_ble_eq_true rfl) rfl ?_ | refine e_iinc dX11_lasts_43 rfl rfl (Nat.le_of_ble_eq_true rfl) rfl ?_
              refine e_goto (tgt := 27) dX11_lasts_46 (by decide) ?_
              exact ih3
      have kk := key (lsN w a) (ai (rf 34 85)) w 0 rfl iv rfl (hft a ha) (Or.inl rfl) (fun _ _ => rfl) (fun _ _ => rfl)
      have ek : sA (sA ai (rf 32 82) (cpA (ai (rf 32 82)) (fun i => nI (w i)) 0 8597)) (rf 34 85) (ai (rf 34 85)) = (sA ai (rf 32 82) (cpA (ai (rf 32 82)) (fun i => nI (w i)) 0 8597)) := by
        have : (sA ai (rf 32 82) (cpA (ai (rf 32 82)) (fun i => nI (w i)) 0 8597)) (rf 34 85) = ai (rf 34 85) := sA_o (by decide)
        rw [← this]; exact sA_self _ _
      rw [ek, Nat.zero_add] at kk
      refine e_aload_n dX11_lasts_0 rfl rfl ?_
      refine e_iload_n dX11_lasts_1 rfl rfl ?_
      refine x_V1 (M' := mX11_canStep) dX11_lasts_2 ml_X11_194 ok_X11_canStep (by decide) rfl im_X11_canStep se_X11_canStep (ct_X11_canStep ‹_› ‹_› _) (Nat.le_of_ble_eq_true rfl) (by decide) (Nat.le_of_ble_eq_true rfl) ?_
      rw [hx]
      first | ((with_reducible refine mk_b ?_); refine b_if_eq (tgt := 19) dX11_lasts_5 (by decide) (fun h5 => ?_) (fun h5 => ?_)) | ((with_reducible refine mk_ll ?_); refine m_if_eq (tgt := 19) dX11_lasts_5 (by decide) (by omega) (by omega) (fun h5 => ?_) (fun h5 => ?_)) | ((with_reducible refine mk_lc ?_); refine l_if_eq (tgt := 19) dX11_lasts_5 (by decide) (fun h5 => ?_) (fun h5 => ?_)) | ((with_reducible refine mk_n ?_); refine n_if_eq (tgt := 19) dX11_lasts_5 (by decide) (by omega) (fun h5 => ?_) (fun h5 => ?_)) | refine e_if_eq (tgt := 19) dX11_lasts_5 (by decide) (fun h5 => ?_) (fun h5 => ?_)
      · try first | contradiction | omega | (simp only [decide_eq_true_eq, decide_eq_false_iff_not] at h5; omega)
        all_goals
          contradiction
      · try first | contradiction | omega | (simp only [decide_eq_true_eq, decide_eq_false_iff_not] at h5; omega)
        all_goals
          refine e_aload_n dX11_lasts_8 rfl rfl ?_
          refine e_iload_n dX11_lasts_9 rfl rfl ?_
          refine x_S1 (M' := mX11_moveAt) dX11_lasts_10 ml_X11_62 ok_X11_moveAt rfl sc_X11_moveAt (ct_X11_moveAt) (Nat.le_of_ble_eq_true rfl) (by decide) (Nat.le_of_ble_eq_true rfl) ?_
          refine x_V1 (M' := mX11_areUp) dX11_lasts_13 ml_X11_205 ok_X11_areUp (by decide) rfl im_X11_areUp se_X11_areUp (ct_X11_areUp ‹_› ‹_› ha) (Nat.le_of_ble_eq_true rfl) (by decide) (Nat.le_of_ble_eq_true rfl) ?_
          rw [hb]
          first | ((with_reducible refine mk_b ?_); refine b_if_ne (tgt := 21) dX11_lasts_16 (by decide) (fun h16 => ?_) (fun h16 => ?_)) | ((with_reducible refine mk_ll ?_); refine m_if_ne (tgt := 21) dX11_lasts_16 (by decide) (by omega) (by omega) (fun h16 => ?_) (fun h16 => ?_)) | ((with_reducible refine mk_lc ?_); refine l_if_ne (tgt := 21) dX11_lasts_16 (by decide) (fun h16 => ?_) (fun h16 => ?_)) | ((with_reducible refine mk_n ?_); refine n_if_ne (tgt := 21) dX11_lasts_16 (by decide) (by omega) (fun h16 => ?_) (fun h16 => ?_)) | refine e_if_ne (tgt := 21) dX11_lasts_16 (by decide) (fun h16 => ?_) (fun h16 => ?_)
          · try first | contradiction | omega | (simp only [decide_eq_true_eq, decide_eq_false_iff_not] at h16; omega)
            all_goals
              refine e_aload_n dX11_lasts_21 rfl rfl ?_
              refine y_V0 (M' := mX11_laysAside) dX11_lasts_22 ml_X11_311 ok_X11_laysAside (by decide) rfl im_X11_laysAside se_X11_laysAside (ct_X11_laysAside ‹_›) (Nat.le_of_ble_eq_true rfl) (by decide) (Nat.le_of_ble_eq_true rfl) ?_
              refine e_iconst (v := nI 0) dX11_lasts_25 rfl ?_
              refine e_istore_n dX11_lasts_26 rfl (Nat.le_of_ble_eq_true rfl) rfl ?_
              exact kk
          · try first | contradiction | omega | (simp only [decide_eq_true_eq, decide_eq_false_iff_not] at h16; omega)
            all_goals
              contradiction
