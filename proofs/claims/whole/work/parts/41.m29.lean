def tQ (fi : FI) (fr : FR) (ai : FI) (ar : FR) (N : Nat) (w : Nat → Nat) (R : Value) : EQ := fun r1 fi1 fr1 ai1 ar1 N1 => r1 = some R ∧ (∃ a b c, fi1 = nxH fi a b c) ∧ fr1 = fr ∧ (∃ g, ai1 = mW (sA ai (rf 32 82) g) w) ∧ ar1 = ar ∧ N1 = N
def apW (w : Nat → Nat) (q : Nat × Nat × Nat) : Nat → Nat := if q.1 = 1 then upN w (42 + q.2.1) q.2.2 else splW w q.2.1 q.2.2
def rnF (b : Nat) : Nat → (Nat → Nat) → Option Nat
  | 0, w => if evQ (evF w) b = true ∧ (nxO w).isSome = true then none else some 0
  | r + 1, w => if evQ (evF w) b = true then (match nxO w with
    | none => some 0
    | some q => (rnF b r (apW w q)).map (· + 1)) else some 0
def rouR (w : Nat → Nat) (x : Int32) : Int32 := if inR x 1000001 then oI (rnF x.toNatClampNeg 40 w) else -1
theorem own_Inv {w : Nat → Nat} (iv : Inv w) {i s : Nat} (hi : i < w 1) (hs : s < 6) : Inv (upN w (42 + i) s) := by
  have h1 := iv_n iv
  obtain ⟨a1, a2, a3, a4, a5, a6, a7⟩ := iv_ma iv
  have f : ∀ q, q ≠ 42 + i → upN w (42 + i) s q = w q := fun q h => upN_n h
  refine Inv_map iv (fun q _ hq => f q (by omega)) ⟨by rw [f 1 (by omega)]; exact a1, by rw [f 10 (by omega)]; exact a2, fun j hj => ?_, fun j hj => ?_, fun j hj => ?_, by rw [f 0 (by omega)]; exact a6, fun j hj => ?_⟩
  · rw [f 1 (by omega)] at hj; rw [f _ (by omega), f _ (by omega)]; exact a3 j hj
  · rw [f 1 (by omega)] at hj; rw [f _ (by omega)]; exact a4 j hj
  · rw [f 1 (by omega)] at hj
    by_cases e : j = i
    · rw [e, upN_s]; exact hs
    · rw [f _ (by omega)]; exact a5 j hj
  · rw [f 1 (by omega)] at hj; rw [f _ (by omega), f 0 (by omega)]; exact a7 j hj
theorem ap_Inv {w : Nat → Nat} (iv : Inv w) {q : Nat × Nat × Nat} (h : nxO w = some q) (h0 : w 0 < 1999) : Inv (apW w q) ∧ apW w q 0 ≤ w 0 + 1 ∧ ∀ p, 106 ≤ p → apW w q p = w p := by
  obtain ⟨hi, hk⟩ := nxO_in iv h
  have h1 := iv_n iv
  unfold apW
  rcases hk with ⟨k1, k2⟩ | ⟨k1, k2, k3⟩
  · rw [if_pos k1]
    exact ⟨own_Inv iv hi k2, by rw [upN_n (by omega)]; omega, fun p hp => upN_n (by omega)⟩
  · rw [if_neg (by omega)]
    have hm := mdO_in iv hi k3
    obtain ⟨v0, v1, -, -, -, vf⟩ := spl_v (key := q.2.2) hi k2
    exact ⟨spl_Inv iv hi k2 hm h0, by rw [v0]; omega, fun p hp => vf p (by omega)⟩
theorem ov_w {w v : Nat → Nat} {n : Nat} (h : ∀ q, n ≤ q → v q = w q) : ovF v w n = w := by
  funext q
  unfold ovF
  split
  · rfl
  · exact h q (by omega)
theorem cpA_in {u g : Nat → Int32} {lo j k : Nat} (h : lo ≤ k ∧ k < lo + j) : cpA u g lo j k = g k := if_pos h
theorem ct_X11_rounds {fi : FI} {fr : FR} {ai : FI} {ar : FR} {N : Nat} {w : Nat → Nat} (sm : SM fr) (iv : Inv w) (y0 : Int32) (h0 : w 0 + 41 < 1999) : CP mX11_rounds 6 0 0 [.ref (rf 11 80), .int y0] fi fr (mW ai w) ar N (tQ fi fr ai ar N w (.int (rouR w y0))) := by
  obtain ⟨sW, sA0, sK, sU, sC, sKC, sT, sCl⟩ := id sm
  have h1 := iv_n iv
  have h3 := iv_mm iv
  change EV mX11_rounds 6 0 0 0 [some (.ref (rf 11 80)), some (.int y0), none, none, none] [] fi fr (mW ai w) ar N (tQ fi fr ai ar N w (.int (rouR w y0)))
  cases hx : inR y0 1000001 with
  | false =>
    have hx2 := inR_f hx
    have e1 : rouR w y0 = -1 := by unfold rouR; rw [hx]; rfl
    rw [e1]
    refine e_iload_n dX11_rounds_0 rfl rfl ?_
    first | ((with_reducible refine mk_n ?_); refine n_i2l dX11_rounds_1 (by omega) ?_) | refine e_i2l dX11_rounds_1 ?_
    refine e_lconst (v := lN 0) dX11_rounds_2 rfl ?_
    refine e_ldc2 dX11_rounds_3 co_X11_384 ?_
    refine x_S3 (M' := mX11_isIn) dX11_rounds_6 ml_X11_45 ok_X11_isIn rfl sc_X11_isIn (by first | ((with_reducible refine ct_isInN ?_ ?_ ?_) <;> omega) | ((with_reducible refine ct_isInX ?_ ?_) <;> omega) | exact ct_X11_isIn _ _ _) (Nat.le_of_ble_eq_true rfl) (by decide) (Nat.le_of_ble_eq_true rfl) ?_
    first | ((with_reducible refine mk_b ?_); refine b_if_ne (tgt := 14) dX11_rounds_9 (by decide) (fun h9 => ?_) (fun h9 => ?_)) | ((with_reducible refine mk_ll ?_); refine m_if_ne (tgt := 14) dX11_rounds_9 (by decide) (by omega) (by omega) (fun h9 => ?_) (fun h9 => ?_)) | ((with_reducible refine mk_lc ?_); refine l_if_ne (tgt := 14) dX11_rounds_9 (by decide) (fun h9 => ?_) (fun h9 => ?_)) | ((with_reducible refine mk_n ?_); refine n_if_ne (tgt := 14) dX11_rounds_9 (by decide) (by omega) (fun h9 => ?_) (fun h9 => ?_)) | refine e_if_ne (tgt := 14) dX11_rounds_9 (by decide) (fun h9 => ?_) (fun h9 => ?_)
    · try first | contradiction | omega | (simp only [decide_eq_true_eq, decide_eq_false_iff_not] at h9; omega)
      all_goals
        omega
    · try first | contradiction | omega | (simp only [decide_eq_true_eq, decide_eq_false_iff_not] at h9; omega)
      all_goals
        refine e_iconst (v := -1) dX11_rounds_12 rfl ?_
        refine e_ret (some _) rfl (r_int dX11_rounds_13 rfl) ?_
        exact ⟨rfl, ⟨_, _, _, (nxH_id fi).symm⟩, rfl, ⟨ai (rf 32 82), by rw [sA_self]⟩, rfl, rfl⟩
  | true =>
    obtain ⟨b, hb, hb2, rfl⟩ := inR_ex hx
    have hbc : (nI b).toNatClampNeg = b := nI_clamp hb2
    have hbi := nI_toInt (b31 hb2)
    have e1 : rouR w (nI b) = oI (rnF b 40 w) := by unfold rouR; rw [hx, hbc]; rfl
    rw [e1]
    have hv : ∀ k, k < 8597 → (sA ai (rf 32 82) (cpA (ai (rf 32 82)) (fun i => nI (w i)) 0 8597)) (rf 32 82) k = nI (w k) := fun k hk => by rw [sA_s, cpA_in (by omega)]
    have fin0 : ∀ (fi' : FI) (v : Nat → Nat) (n : Nat) (im : Int32), n ≤ 40 → (∃ a b c, fi' = nxH fi a b c) → (∀ q, 8597 ≤ q → v q = w q) → EV mX11_rounds 6 0 0 39 [some (.ref (rf 11 80)), some (.int (nI b)), some (.int (nI n)), some (.int (nI 0)), some (.int (im))] [] fi' fr (mW (sA ai (rf 32 82) (cpA (ai (rf 32 82)) (fun i => nI (w i)) 0 8597)) v) ar N (tQ fi fr ai ar N w (.int (nI n))) := by
      intro fi' v n im hn hfi hvq
      refine e_iload_n dX11_rounds_39 rfl rfl ?_
      first | ((with_reducible refine mk_b ?_); refine b_if_eq (tgt := 175) dX11_rounds_40 (by decide) (fun h40 => ?_) (fun h40 => ?_)) | ((with_reducible refine mk_ll ?_); refine m_if_eq (tgt := 175) dX11_rounds_40 (by decide) (by omega) (by omega) (fun h40 => ?_) (fun h40 => ?_)) | ((with_reducible refine mk_lc ?_); refine l_if_eq (tgt := 175) dX11_rounds_40 (by decide) (fun h40 => ?_) (fun h40 => ?_)) | ((with_reducible refine mk_n ?_); refine n_if_eq (tgt := 175) dX11_rounds_40 (by decide) (by omega) (fun h40 => ?_) (fun h40 => ?_)) | refine e_if_eq (tgt := 175) dX11_rounds_40 (by decide) (fun h40 => ?_) (fun h40 => ?_)
      · try first | contradiction | omega | (simp only [decide_eq_true_eq, decide_eq_false_iff_not] at h40; omega)
        all_goals
          refine e_aload_n dX11_rounds_175 rfl rfl ?_
          refine y_V0 (M' := mX11_comesBack) dX11_rounds_176 ml_X11_386 ok_X11_comesBack (by decide) rfl im_X11_comesBack se_X11_comesBack (ct_X11_comesBack ‹_› hv) (Nat.le_of_ble_eq_true rfl) (by decide) (Nat.le_of_ble_eq_true rfl) ?_
          refine e_iload_n dX11_rounds_179 rfl rfl ?_
          first | ((with_reducible refine mk_b ?_); refine b_if_eq (tgt := 187) dX11_rounds_180 (by decide) (fun h180 => ?_) (fun h180 => ?_)) | ((with_reducible refine mk_ll ?_); refine m_if_eq (tgt := 187) dX11_rounds_180 (by decide) (by omega) (by omega) (fun h180 => ?_) (fun h180 => ?_)) | ((with_reducible refine mk_lc ?_); refine l_if_eq (tgt := 187) dX11_rounds_180 (by decide) (fun h180 => ?_) (fun h180 => ?_)) | ((with_reducible refine mk_n ?_); refine n_if_eq (tgt := 187) dX11_rounds_180 (by decide) (by omega) (fun h180 => ?_) (fun h180 => ?_)) | refine e_if_eq (tgt := 187) dX11_rounds_180 (by decide) (fun h180 => ?_) (fun h180 => ?_)
          · try first | contradiction | omega | (simp only [decide_eq_true_eq, decide_eq_false_iff_not] at h180; omega)
            all_goals
              refine e_iload_n dX11_rounds_187 rfl rfl ?_
              refine e_ret (some _) rfl (r_int dX11_rounds_188 rfl) ?_
              exact ⟨rfl, hfi, rfl, ⟨_, by rw [ov_w hvq]⟩, rfl, rfl⟩
          · try first | contradiction | omega | (simp only [decide_eq_true_eq, decide_eq_false_iff_not] at h180; omega)
            all_goals
              contradiction
      · try first | contradiction | omega | (simp only [decide_eq_true_eq, decide_eq_false_iff_not] at h40; omega)
        all_goals
          contradiction
    have fin1 : ∀ (fi' : FI) (v : Nat → Nat) (n : Nat), n ≤ 40 → (∃ a b c, fi' = nxH fi a b c) → (∀ q, 8597 ≤ q → v q = w q) → EV mX11_rounds 6 0 0 39 [some (.ref (rf 11 80)), some (.int (nI b)), some (.int (nI n)), some (.int (nI 1)), some (.int (nI 1))] [] fi' fr (mW (sA ai (rf 32 82) (cpA (ai (rf 32 82)) (fun i => nI (w i)) 0 8597)) v) ar N (tQ fi fr ai ar N w (.int (-1))) := by
      intro fi' v n hn hfi hvq
      refine e_iload_n dX11_rounds_39 rfl rfl ?_
      first | ((with_reducible refine mk_b ?_); refine b_if_eq (tgt := 175) dX11_rounds_40 (by decide) (fun h40 => ?_) (fun h40 => ?_)) | ((with_reducible refine mk_ll ?_); refine m_if_eq (tgt := 175) dX11_rounds_40 (by decide) (by omega) (by omega) (fun h40 => ?_) (fun h40 => ?_)) | ((with_reducible refine mk_lc ?_); refine l_if_eq (tgt := 175) dX11_rounds_40 (by decide) (fun h40 => ?_) (fun h40 => ?_)) | ((with_reducible refine mk_n ?_); refine n_if_eq (tgt := 175) dX11_rounds_40 (by decide) (by omega) (fun h40 => ?_) (fun h40 => ?_)) | refine e_if_eq (tgt := 175) dX11_rounds_40 (by decide) (fun h40 => ?_) (fun h40 => ?_)
      · try first | contradiction | omega | (simp only [decide_eq_true_eq, decide_eq_false_iff_not] at h40; omega)
        all_goals
          refine e_aload_n dX11_rounds_175 rfl rfl ?_
          refine y_V0 (M' := mX11_comesBack) dX11_rounds_176 ml_X11_386 ok_X11_comesBack (by decide) rfl im_X11_comesBack se_X11_comesBack (ct_X11_comesBack ‹_› hv) (Nat.le_of_ble_eq_true rfl) (by decide) (Nat.le_of_ble_eq_true rfl) ?_
          refine e_iload_n dX11_rounds_179 rfl rfl ?_
          first | ((with_reducible refine mk_b ?_); refine b_if_eq (tgt := 187) dX11_rounds_180 (by decide) (fun h180 => ?_) (fun h180 => ?_)) | ((with_reducible refine mk_ll ?_); refine m_if_eq (tgt := 187) dX11_rounds_180 (by decide) (by omega) (by omega) (fun h180 => ?_) (fun h180 => ?_)) | ((with_reducible refine mk_lc ?_); refine l_if_eq (tgt := 187) dX11_rounds_180 (by decide) (fun h180 => ?_) (fun h180 => ?_)) | ((with_reducible refine mk_n ?_); refine n_if_eq (tgt := 187) dX11_rounds_180 (by decide) (by omega) (fun h180 => ?_) (fun h180 => ?_)) | refine e_if_eq (tgt := 187) dX11_rounds_180 (by decide) (fun h180 => ?_) (fun h180 => ?_)
          · try first | contradiction | omega | (simp only [decide_eq_true_eq, decide_eq_false_iff_not] at h180; omega)
            all_goals
              refine e_iload_n dX11_rounds_187 rfl rfl ?_
              refine e_ret (some _) rfl (r_int dX11_rounds_188 rfl) ?_
              first | contradiction | exact ⟨rfl, hfi, rfl, ⟨_, by rw [ov_w hvq]⟩, rfl, rfl⟩
          · try first | contradiction | omega | (simp only [decide_eq_true_eq, decide_eq_false_iff_not] at h180; omega)
            all_goals
              refine e_iconst (v := -1) dX11_rounds_183 rfl ?_
              refine e_goto (tgt := 188) dX11_rounds_184 (by decide) ?_
              refine e_ret (some _) rfl (r_int dX11_rounds_188 rfl) ?_
              first | contradiction | exact ⟨rfl, hfi, rfl, ⟨_, by rw [ov_w hvq]⟩, rfl, rfl⟩
      · try first | contradiction | omega | (simp only [decide_eq_true_eq, decide_eq_false_iff_not] at h40; omega)
        all_goals
          refine e_iload dX11_rounds_43 rfl ?_
          first | ((with_reducible refine mk_b ?_); refine b_if_ne (tgt := 175) dX11_rounds_45 (by decide) (fun h45 => ?_) (fun h45 => ?_)) | ((with_reducible refine mk_ll ?_); refine m_if_ne (tgt := 175) dX11_rounds_45 (by decide) (by omega) (by omega) (fun h45 => ?_) (fun h45 => ?_)) | ((with_reducible refine mk_lc ?_); refine l_if_ne (tgt := 175) dX11_rounds_45 (by decide) (fun h45 => ?_) (fun h45 => ?_)) | ((with_reducible refine mk_n ?_); refine n_if_ne (tgt := 175) dX11_rounds_45 (by decide) (by omega) (fun h45 => ?_) (fun h45 => ?_)) | refine e_if_ne (tgt := 175) dX11_rounds_45 (by decide) (fun h45 => ?_) (fun h45 => ?_)
          · try first | contradiction | omega | (simp only [decide_eq_true_eq, decide_eq_false_iff_not] at h45; omega)
            all_goals
              refine e_aload_n dX11_rounds_175 rfl rfl ?_
              refine y_V0 (M' := mX11_comesBack) dX11_rounds_176 ml_X11_386 ok_X11_comesBack (by decide) rfl im_X11_comesBack se_X11_comesBack (ct_X11_comesBack ‹_› hv) (Nat.le_of_ble_eq_true rfl) (by decide) (Nat.le_of_ble_eq_true rfl) ?_
              refine e_iload_n dX11_rounds_179 rfl rfl ?_
              first | ((with_reducible refine mk_b ?_); refine b_if_eq (tgt := 187) dX11_rounds_180 (by decide) (fun h180 => ?_) (fun h180 => ?_)) | ((with_reducible refine mk_ll ?_); refine m_if_eq (tgt := 187) dX11_rounds_180 (by decide) (by omega) (by omega) (fun h180 => ?_) (fun h180 => ?_)) | ((with_reducible refine mk_lc ?_); refine l_if_eq (tgt := 187) dX11_rounds_180 (by decide) (fun h180 => ?_) (fun h180 => ?_)) | ((with_reducible refine mk_n ?_); refine n_if_eq (tgt := 187) dX11_rounds_180 (by decide) (by omega) (fun h180 => ?_) (fun h180 => ?_)) | refine e_if_eq (tgt := 187) dX11_rounds_180 (by decide) (fun h180 => ?_) (fun h180 => ?_)
              · try first | contradiction | omega | (simp only [decide_eq_true_eq, decide_eq_false_iff_not] at h180; omega)
                all_goals
                  refine e_iload_n dX11_rounds_187 rfl rfl ?_
                  refine e_ret (some _) rfl (r_int dX11_rounds_188 rfl) ?_
                  first | contradiction | exact ⟨rfl, hfi, rfl, ⟨_, by rw [ov_w hvq]⟩, rfl, rfl⟩
              · try first | contradiction | omega | (simp only [decide_eq_true_eq, decide_eq_false_iff_not] at h180; omega)
                all_goals
                  refine e_iconst (v := -1) dX11_rounds_183 rfl ?_
                  refine e_goto (tgt := 188) dX11_rounds_184 (by decide) ?_
                  refine e_ret (some _) rfl (r_int dX11_rounds_188 rfl) ?_
                  first | contradiction | exact ⟨rfl, hfi, rfl, ⟨_, by rw [ov_w hvq]⟩, rfl, rfl⟩
          · try first | contradiction | omega | (simp only [decide_eq_true_eq, decide_eq_false_iff_not] at h45; omega)
            all_goals
              contradiction
    have key : ∀ (r : Nat) (fi' : FI) (v : Nat → Nat) (n : Nat) (R : Int32), n + r = 40 → Inv v → v 0 + r < 1999 → (∃ a b c, fi' = nxH fi a b c) → (∀ q, 8597 ≤ q → v q = w q) → oI ((rnF b r v).map (· + n)) = R → EV mX11_rounds 6 0 0 39 [some (.ref (rf 11 80)), some (.int (nI b)), some (.int (nI n)), some (.int (bI (evQ (evF v) b))), some (.int (nI 0))] [] fi' fr (mW (sA ai (rf 32 82) (cpA (ai (rf 32 82)) (fun i => nI (w i)) 0 8597)) v) ar N (tQ fi fr ai ar N w (.int R)) := by
      intro r
      induction r with
      | zero =>
        intro fi' v n R hn hv1 hv0 hfi hvq hR
        have hn4 : n = 40 := by omega
        cases hev : evQ (evF v) b with
        | false =>
          have : R = nI n := by rw [← hR]; unfold rnF; rw [if_neg (by rw [hev]; simp)]; show nI (0 + n) = _; rw [Nat.zero_add]
          rw [this]
          exact fin0 fi' v n _ (by omega) hfi hvq
        | true =>
          have hol := evF_le hv1
          obtain ⟨fa, fb, fc, rfl⟩ := hfi
          cases hnx : nxO v with
          | none =>
            have : R = nI n := by rw [← hR]; unfold rnF; rw [if_neg (by rw [hnx]; simp)]; show nI (0 + n) = _; rw [Nat.zero_add]
            rw [this]
            refine e_iload_n dX11_rounds_39 rfl rfl ?_
            first | ((with_reducible refine mk_b ?_); refine b_if_eq (tgt := 175) dX11_rounds_40 (by decide) (fun h40 => ?_) (fun h40 => ?_)) | ((with_reducible refine mk_ll ?_); refine m_if_eq (tgt := 175) dX11_rounds_40 (by decide) (by omega) (by omega) (fun h40 => ?_) (fun h40 => ?_)) | ((with_reducible refine mk_lc ?_); refine l_if_eq (tgt := 175) dX11_rounds_40 (by decide) (fun h40 => ?_) (fun h40 => ?_)) | ((with_reducible refine mk_n ?_); refine n_if_eq (tgt := 175) dX11_rounds_40 (by decide) (by omega) (fun h40 => ?_) (fun h40 => ?_)) | refine e_if_eq (tgt := 175) dX11_rounds_40 (by decide) (fun h40 => ?_) (fun h40 => ?_)
            · try first | contradiction | omega | (simp only [decide_eq_true_eq, decide_eq_false_iff_not] at h40; omega)
              all_goals
                refine e_aload_n dX11_rounds_175 rfl rfl ?_
                refine y_V0 (M' := mX11_comesBack) dX11_rounds_176 ml_X11_386 ok_X11_comesBack (by decide) rfl im_X11_comesBack se_X11_comesBack (ct_X11_comesBack ‹_› hv) (Nat.le_of_ble_eq_true rfl) (by decide) (Nat.le_of_ble_eq_true rfl) ?_
                refine e_iload_n dX11_rounds_179 rfl rfl ?_
                first | ((with_reducible refine mk_b ?_); refine b_if_eq (tgt := 187) dX11_rounds_180 (by decide) (fun h180 => ?_) (fun h180 => ?_)) | ((with_reducible refine mk_ll ?_); refine m_if_eq (tgt := 187) dX11_rounds_180 (by decide) (by omega) (by omega) (fun h180 => ?_) (fun h180 => ?_)) | ((with_reducible refine mk_lc ?_); refine l_if_eq (tgt := 187) dX11_rounds_180 (by decide) (fun h180 => ?_) (fun h180 => ?_)) | ((with_reducible refine mk_n ?_); refine n_if_eq (tgt := 187) dX11_rounds_180 (by decide) (by omega) (fun h180 => ?_) (fun h180 => ?_)) | refine e_if_eq (tgt := 187) dX11_rounds_180 (by decide) (fun h180 => ?_) (fun h180 => ?_)
                · try first | contradiction | omega | (simp only [decide_eq_true_eq, decide_eq_false_iff_not] at h180; omega)
                  all_goals
                    refine e_iload_n dX11_rounds_187 rfl rfl ?_
                    refine e_ret (some _) rfl (r_int dX11_rounds_188 rfl) ?_
                    first | contradiction | exact ⟨rfl, hfi, rfl, ⟨_, by rw [ov_w hvq]⟩, rfl, rfl⟩
                · try first | contradiction | omega | (simp only [decide_eq_true_eq, decide_eq_false_iff_not] at h180; omega)
                  all_goals
                    refine e_iconst (v := -1) dX11_rounds_183 rfl ?_
                    refine e_goto (tgt := 188) dX11_rounds_184 (by decide) ?_
                    refine e_ret (some _) rfl (r_int dX11_rounds_188 rfl) ?_
                    first | contradiction | exact ⟨rfl, hfi, rfl, ⟨_, by rw [ov_w hvq]⟩, rfl, rfl⟩
            · try first | contradiction | omega | (simp only [decide_eq_true_eq, decide_eq_false_iff_not] at h40; omega)
              all_goals
                refine e_iload dX11_rounds_43 rfl ?_
                first | ((with_reducible refine mk_b ?_); refine b_if_ne (tgt := 175) dX11_rounds_45 (by decide) (fun h45 => ?_) (fun h45 => ?_)) | ((with_reducible refine mk_ll ?_); refine m_if_ne (tgt := 175) dX11_rounds_45 (by decide) (by omega) (by omega) (fun h45 => ?_) (fun h45 => ?_)) | ((with_reducible refine mk_lc ?_); refine l_if_ne (tgt := 175) dX11_rounds_45 (by decide) (fun h45 => ?_) (fun h45 => ?_)) | ((with_reducible refine mk_n ?_); refine n_if_ne (tgt := 175) dX11_rounds_45 (by decide) (by omega) (fun h45 => ?_) (fun h45 => ?_)) | refine e_if_ne (tgt := 175) dX11_rounds_45 (by decide) (fun h45 => ?_) (fun h45 => ?_)
                · try first | contradiction | omega | (simp only [decide_eq_true_eq, decide_eq_false_iff_not] at h45; omega)
                  all_goals
                    refine e_aload_n dX11_rounds_175 rfl rfl ?_
                    refine y_V0 (M' := mX11_comesBack) dX11_rounds_176 ml_X11_386 ok_X11_comesBack (by decide) rfl im_X11_comesBack se_X11_comesBack (ct_X11_comesBack ‹_› hv) (Nat.le_of_ble_eq_true rfl) (by decide) (Nat.le_of_ble_eq_true rfl) ?_
                    refine e_iload_n dX11_rounds_179 rfl rfl ?_
                    first | ((with_reducible refine mk_b ?_); refine b_if_eq (tgt := 187) dX11_rounds_180 (by decide) (fun h180 => ?_) (fun h180 => ?_)) | ((with_reducible refine mk_ll ?_); refine m_if_eq (tgt := 187) dX11_rounds_180 (by decide) (by omega) (by omega) (fun h180 => ?_) (fun h180 => ?_)) | ((with_reducible refine mk_lc ?_); refine l_if_eq (tgt := 187) dX11_rounds_180 (by decide) (fun h180 => ?_) (fun h180 => ?_)) | ((with_reducible refine mk_n ?_); refine n_if_eq (tgt := 187) dX11_rounds_180 (by decide) (by omega) (fun h180 => ?_) (fun h180 => ?_)) | refine e_if_eq (tgt := 187) dX11_rounds_180 (by decide) (fun h180 => ?_) (fun h180 => ?_)
                    · try first | contradiction | omega | (simp only [decide_eq_true_eq, decide_eq_false_iff_not] at h180; omega)
                      all_goals
                        refine e_iload_n dX11_rounds_187 rfl rfl ?_
                        refine e_ret (some _) rfl (r_int dX11_rounds_188 rfl) ?_
                        first | contradiction | exact ⟨rfl, hfi, rfl, ⟨_, by rw [ov_w hvq]⟩, rfl, rfl⟩
                    · try first | contradiction | omega | (simp only [decide_eq_true_eq, decide_eq_false_iff_not] at h180; omega)
                      all_goals
                        refine e_iconst (v := -1) dX11_rounds_183 rfl ?_
                        refine e_goto (tgt := 188) dX11_rounds_184 (by decide) ?_
                        refine e_ret (some _) rfl (r_int dX11_rounds_188 rfl) ?_
                        first | contradiction | exact ⟨rfl, hfi, rfl, ⟨_, by rw [ov_w hvq]⟩, rfl, rfl⟩
                · try first | contradiction | omega | (simp only [decide_eq_true_eq, decide_eq_false_iff_not] at h45; omega)
                  all_goals
                    refine e_aload_n dX11_rounds_48 rfl rfl ?_
                    refine y_V0 (M' := mX11_laysNext) dX11_rounds_49 ml_X11_381 ok_X11_laysNext (by decide) rfl im_X11_laysNext se_X11_laysNext (ct_X11_laysNext ‹_› hv1) (Nat.le_of_ble_eq_true rfl) (by decide) (Nat.le_of_ble_eq_true rfl) ?_
                    rw [hnx, nxH_2]
                    refine e_iload_n dX11_rounds_52 rfl rfl ?_
                    refine e_bipush (v := nI 40) dX11_rounds_53 rfl ?_
                    first | ((with_reducible refine mk_mo ?_); refine p_icmp_ne (tgt := 69) dX11_rounds_55 (by decide) (fun h55 => ?_) (fun h55 => ?_)) | ((with_reducible refine mk_ms ?_); refine s_icmp_ne (tgt := 69) dX11_rounds_55 (by decide) (by omega) (fun h55 => ?_) (fun h55 => ?_)) | ((with_reducible refine mk_mn ?_); refine q_icmp_ne (tgt := 69) dX11_rounds_55 (by decide) (by omega) (fun h55 => ?_) (fun h55 => ?_)) | ((with_reducible refine mk_nn ?_); refine n_icmp_ne (tgt := 69) dX11_rounds_55 (by decide) (by omega) (by omega) (fun h55 => ?_) (fun h55 => ?_)) | refine e_icmp_ne (tgt := 69) dX11_rounds_55 (by decide) (fun h55 => ?_) (fun h55 => ?_)
                    · try first | contradiction | omega
                      all_goals
                        refine e_iconst (v := nI 0) dX11_rounds_69 rfl ?_
                        refine e_istore dX11_rounds_70 (Nat.le_of_ble_eq_true rfl) rfl ?_
                        refine e_aload_n dX11_rounds_72 rfl rfl ?_
                        refine e_getI dX11_rounds_73 fl_X11_365 rfl ?_
                        rw [nxH_a]
                        try rw [show nx1 none = nI 0 from rfl]
                        refine e_iconst (v := nI 1) dX11_rounds_76 rfl ?_
                        first | ((with_reducible refine mk_mo ?_); refine p_icmp_ne (tgt := 104) dX11_rounds_77 (by decide) (fun h77 => ?_) (fun h77 => ?_)) | ((with_reducible refine mk_ms ?_); refine s_icmp_ne (tgt := 104) dX11_rounds_77 (by decide) (by omega) (fun h77 => ?_) (fun h77 => ?_)) | ((with_reducible refine mk_mn ?_); refine q_icmp_ne (tgt := 104) dX11_rounds_77 (by decide) (by omega) (fun h77 => ?_) (fun h77 => ?_)) | ((with_reducible refine mk_nn ?_); refine n_icmp_ne (tgt := 104) dX11_rounds_77 (by decide) (by omega) (by omega) (fun h77 => ?_) (fun h77 => ?_)) | refine e_icmp_ne (tgt := 104) dX11_rounds_77 (by decide) (fun h77 => ?_) (fun h77 => ?_)
                        · try first | contradiction | omega
                          all_goals
                            refine e_aload_n dX11_rounds_104 rfl rfl ?_
                            refine e_getI dX11_rounds_105 fl_X11_365 rfl ?_
                            rw [nxH_a]
                            try rw [show nx1 none = nI 0 from rfl]
                            refine e_iconst (v := nI 2) dX11_rounds_108 rfl ?_
                            first | ((with_reducible refine mk_mo ?_); refine p_icmp_ne (tgt := 129) dX11_rounds_109 (by decide) (fun h109 => ?_) (fun h109 => ?_)) | ((with_reducible refine mk_ms ?_); refine s_icmp_ne (tgt := 129) dX11_rounds_109 (by decide) (by omega) (fun h109 => ?_) (fun h109 => ?_)) | ((with_reducible refine mk_mn ?_); refine q_icmp_ne (tgt := 129) dX11_rounds_109 (by decide) (by omega) (fun h109 => ?_) (fun h109 => ?_)) | ((with_reducible refine mk_nn ?_); refine n_icmp_ne (tgt := 129) dX11_rounds_109 (by decide) (by omega) (by omega) (fun h109 => ?_) (fun h109 => ?_)) | refine e_icmp_ne (tgt := 129) dX11_rounds_109 (by decide) (fun h109 => ?_) (fun h109 => ?_)
                            · try first | contradiction | omega
                              all_goals
                                refine e_iload_n dX11_rounds_129 rfl rfl ?_
                                refine e_aload_n dX11_rounds_130 rfl rfl ?_
                                refine e_getI dX11_rounds_131 fl_X11_365 rfl ?_
                                rw [nxH_a]
                                try rw [show nx1 none = nI 0 from rfl]
                                first | ((with_reducible refine mk_b ?_); refine b_if_eq (tgt := 142) dX11_rounds_134 (by decide) (fun h134 => ?_) (fun h134 => ?_)) | ((with_reducible refine mk_ll ?_); refine m_if_eq (tgt := 142) dX11_rounds_134 (by decide) (by omega) (by omega) (fun h134 => ?_) (fun h134 => ?_)) | ((with_reducible refine mk_lc ?_); refine l_if_eq (tgt := 142) dX11_rounds_134 (by decide) (fun h134 => ?_) (fun h134 => ?_)) | ((with_reducible refine mk_n ?_); refine n_if_eq (tgt := 142) dX11_rounds_134 (by decide) (by omega) (fun h134 => ?_) (fun h134 => ?_)) | refine e_if_eq (tgt := 142) dX11_rounds_134 (by decide) (fun h134 => ?_) (fun h134 => ?_)
                                · try first | contradiction | omega | (simp only [decide_eq_true_eq, decide_eq_false_iff_not] at h134; omega)
                                  all_goals
                                    refine e_iconst (v := nI 0) dX11_rounds_142 rfl ?_
                                    refine e_goto (tgt := 147) dX11_rounds_143 (by decide) ?_
                                    first | ((with_reducible refine mk_nn ?_); refine n_iadd dX11_rounds_147 ?_) | refine e_iadd dX11_rounds_147 ?_
                                    refine e_istore_n dX11_rounds_148 rfl (Nat.le_of_ble_eq_true rfl) rfl ?_
                                    refine e_aload_n dX11_rounds_149 rfl rfl ?_
                                    refine e_getI dX11_rounds_150 fl_X11_365 rfl ?_
                                    rw [nxH_a]
                                    try rw [show nx1 none = nI 0 from rfl]
                                    first | ((with_reducible refine mk_b ?_); refine b_if_eq (tgt := 170) dX11_rounds_153 (by decide) (fun h153 => ?_) (fun h153 => ?_)) | ((with_reducible refine mk_ll ?_); refine m_if_eq (tgt := 170) dX11_rounds_153 (by decide) (by omega) (by omega) (fun h153 => ?_) (fun h153 => ?_)) | ((with_reducible refine mk_lc ?_); refine l_if_eq (tgt := 170) dX11_rounds_153 (by decide) (fun h153 => ?_) (fun h153 => ?_)) | ((with_reducible refine mk_n ?_); refine n_if_eq (tgt := 170) dX11_rounds_153 (by decide) (by omega) (fun h153 => ?_) (fun h153 => ?_)) | refine e_if_eq (tgt := 170) dX11_rounds_153 (by decide) (fun h153 => ?_) (fun h153 => ?_)
                                    · try first | contradiction | omega | (simp only [decide_eq_true_eq, decide_eq_false_iff_not] at h153; omega)
                                      all_goals
                                        refine e_iconst (v := nI 0) dX11_rounds_170 rfl ?_
                                        refine e_istore_n dX11_rounds_171 rfl (Nat.le_of_ble_eq_true rfl) rfl ?_
                                        refine e_goto (tgt := 39) dX11_rounds_172 (by decide) ?_
                                        exact fin0 _ v _ _ (by omega) ⟨_, _, _, rfl⟩ hvq
                                    · try first | contradiction | omega | (simp only [decide_eq_true_eq, decide_eq_false_iff_not] at h153; omega)
                                      all_goals
                                        contradiction
                                · try first | contradiction | omega | (simp only [decide_eq_true_eq, decide_eq_false_iff_not] at h134; omega)
                                  all_goals
                                    contradiction
                            · try first | contradiction | omega
                              all_goals
                                contradiction
                        · try first | contradiction | omega
                          all_goals
                            contradiction
                    · try first | contradiction | omega
                      all_goals
                        refine e_aload_n dX11_rounds_58 rfl rfl ?_
                        refine e_getI dX11_rounds_59 fl_X11_365 rfl ?_
                        rw [nxH_a]
                        try rw [show nx1 none = nI 0 from rfl]
                        first | ((with_reducible refine mk_b ?_); refine b_if_eq (tgt := 69) dX11_rounds_62 (by decide) (fun h62 => ?_) (fun h62 => ?_)) | ((with_reducible refine mk_ll ?_); refine m_if_eq (tgt := 69) dX11_rounds_62 (by decide) (by omega) (by omega) (fun h62 => ?_) (fun h62 => ?_)) | ((with_reducible refine mk_lc ?_); refine l_if_eq (tgt := 69) dX11_rounds_62 (by decide) (fun h62 => ?_) (fun h62 => ?_)) | ((with_reducible refine mk_n ?_); refine n_if_eq (tgt := 69) dX11_rounds_62 (by decide) (by omega) (fun h62 => ?_) (fun h62 => ?_)) | refine e_if_eq (tgt := 69) dX11_rounds_62 (by decide) (fun h62 => ?_) (fun h62 => ?_)
                        · try first | contradiction | omega | (simp only [decide_eq_true_eq, decide_eq_false_iff_not] at h62; omega)
                          all_goals
                            refine e_iconst (v := nI 0) dX11_rounds_69 rfl ?_
                            refine e_istore dX11_rounds_70 (Nat.le_of_ble_eq_true rfl) rfl ?_
                            refine e_aload_n dX11_rounds_72 rfl rfl ?_
                            refine e_getI dX11_rounds_73 fl_X11_365 rfl ?_
                            rw [nxH_a]
                            try rw [show nx1 none = nI 0 from rfl]
                            refine e_iconst (v := nI 1) dX11_rounds_76 rfl ?_
                            first | ((with_reducible refine mk_mo ?_); refine p_icmp_ne (tgt := 104) dX11_rounds_77 (by decide) (fun h77 => ?_) (fun h77 => ?_)) | ((with_reducible refine mk_ms ?_); refine s_icmp_ne (tgt := 104) dX11_rounds_77 (by decide) (by omega) (fun h77 => ?_) (fun h77 => ?_)) | ((with_reducible refine mk_mn ?_); refine q_icmp_ne (tgt := 104) dX11_rounds_77 (by decide) (by omega) (fun h77 => ?_) (fun h77 => ?_)) | ((with_reducible refine mk_nn ?_); refine n_icmp_ne (tgt := 104) dX11_rounds_77 (by decide) (by omega) (by omega) (fun h77 => ?_) (fun h77 => ?_)) | refine e_icmp_ne (tgt := 104) dX11_rounds_77 (by decide) (fun h77 => ?_) (fun h77 => ?_)
                            · try first | contradiction | omega
                              all_goals
                                refine e_aload_n dX11_rounds_104 rfl rfl ?_
                                refine e_getI dX11_rounds_105 fl_X11_365 rfl ?_
                                rw [nxH_a]
                                try rw [show nx1 none = nI 0 from rfl]
                                refine e_iconst (v := nI 2) dX11_rounds_108 rfl ?_
                                first | ((with_reducible refine mk_mo ?_); refine p_icmp_ne (tgt := 129) dX11_rounds_109 (by decide) (fun h109 => ?_) (fun h109 => ?_)) | ((with_reducible refine mk_ms ?_); refine s_icmp_ne (tgt := 129) dX11_rounds_109 (by decide) (by omega) (fun h109 => ?_) (fun h109 => ?_)) | ((with_reducible refine mk_mn ?_); refine q_icmp_ne (tgt := 129) dX11_rounds_109 (by decide) (by omega) (fun h109 => ?_) (fun h109 => ?_)) | ((with_reducible refine mk_nn ?_); refine n_icmp_ne (tgt := 129) dX11_rounds_109 (by decide) (by omega) (by omega) (fun h109 => ?_) (fun h109 => ?_)) | refine e_icmp_ne (tgt := 129) dX11_rounds_109 (by decide) (fun h109 => ?_) (fun h109 => ?_)
                                · try first | contradiction | omega
                                  all_goals
                                    refine e_iload_n dX11_rounds_129 rfl rfl ?_
                                    refine e_aload_n dX11_rounds_130 rfl rfl ?_
                                    refine e_getI dX11_rounds_131 fl_X11_365 rfl ?_
                                    rw [nxH_a]
                                    try rw [show nx1 none = nI 0 from rfl]
                                    first | ((with_reducible refine mk_b ?_); refine b_if_eq (tgt := 142) dX11_rounds_134 (by decide) (fun h134 => ?_) (fun h134 => ?_)) | ((with_reducible refine mk_ll ?_); refine m_if_eq (tgt := 142) dX11_rounds_134 (by decide) (by omega) (by omega) (fun h134 => ?_) (fun h134 => ?_)) | ((with_reducible refine mk_lc ?_); refine l_if_eq (tgt := 142) dX11_rounds_134 (by decide) (fun h134 => ?_) (fun h134 => ?_)) | ((with_reducible refine mk_n ?_); refine n_if_eq (tgt := 142) dX11_rounds_134 (by decide) (by omega) (fun h134 => ?_) (fun h134 => ?_)) | refine e_if_eq (tgt := 142) dX11_rounds_134 (by decide) (fun h134 => ?_) (fun h134 => ?_)
                                    · try first | contradiction | omega | (simp only [decide_eq_true_eq, decide_eq_false_iff_not] at h134; omega)
                                      all_goals
                                        refine e_iconst (v := nI 0) dX11_rounds_142 rfl ?_
                                        refine e_goto (tgt := 147) dX11_rounds_143 (by decide) ?_
                                        first | ((with_reducible refine mk_nn ?_); refine n_iadd dX11_rounds_147 ?_) | refine e_iadd dX11_rounds_147 ?_
                                        refine e_istore_n dX11_rounds_148 rfl (Nat.le_of_ble_eq_true rfl) rfl ?_
                                        refine e_aload_n dX11_rounds_149 rfl rfl ?_
                                        refine e_getI dX11_rounds_150 fl_X11_365 rfl ?_
                                        rw [nxH_a]
                                        try rw [show nx1 none = nI 0 from rfl]
                                        first | ((with_reducible refine mk_b ?_); refine b_if_eq (tgt := 170) dX11_rounds_153 (by decide) (fun h153 => ?_) (fun h153 => ?_)) | ((with_reducible refine mk_ll ?_); refine m_if_eq (tgt := 170) dX11_rounds_153 (by decide) (by omega) (by omega) (fun h153 => ?_) (fun h153 => ?_)) | ((with_reducible refine mk_lc ?_); refine l_if_eq (tgt := 170) dX11_rounds_153 (by decide) (fun h153 => ?_) (fun h153 => ?_)) | ((with_reducible refine mk_n ?_); refine n_if_eq (tgt := 170) dX11_rounds_153 (by decide) (by omega) (fun h153 => ?_) (fun h153 => ?_)) | refine e_if_eq (tgt := 170) dX11_rounds_153 (by decide) (fun h153 => ?_) (fun h153 => ?_)
                                        · try first | contradiction | omega | (simp only [decide_eq_true_eq, decide_eq_false_iff_not] at h153; omega)
                                          all_goals
                                            refine e_iconst (v := nI 0) dX11_rounds_170 rfl ?_
                                            refine e_istore_n dX11_rounds_171 rfl (Nat.le_of_ble_eq_true rfl) rfl ?_
                                            refine e_goto (tgt := 39) dX11_rounds_172 (by decide) ?_
                                            exact fin0 _ v _ _ (by omega) ⟨_, _, _, rfl⟩ hvq
                                        · try first | contradiction | omega | (simp only [decide_eq_true_eq, decide_eq_false_iff_not] at h153; omega)
                                          all_goals
                                            contradiction
                                    · try first | contradiction | omega | (simp only [decide_eq_true_eq, decide_eq_false_iff_not] at h134; omega)
                                      all_goals
                                        contradiction
                                · try first | contradiction | omega
                                  all_goals
                                    contradiction
                            · try first | contradiction | omega
                              all_goals
                                contradiction
                        · try first | contradiction | omega | (simp only [decide_eq_true_eq, decide_eq_false_iff_not] at h62; omega)
                          all_goals
                            refine e_iconst (v := nI 1) dX11_rounds_65 rfl ?_
                            refine e_goto (tgt := 70) dX11_rounds_66 (by decide) ?_
                            refine e_istore dX11_rounds_70 (Nat.le_of_ble_eq_true rfl) rfl ?_
                            refine e_aload_n dX11_rounds_72 rfl rfl ?_
                            refine e_getI dX11_rounds_73 fl_X11_365 rfl ?_
                            rw [nxH_a]
                            try rw [show nx1 none = nI 0 from rfl]
                            refine e_iconst (v := nI 1) dX11_rounds_76 rfl ?_
                            first | ((with_reducible refine mk_mo ?_); refine p_icmp_ne (tgt := 104) dX11_rounds_77 (by decide) (fun h77 => ?_) (fun h77 => ?_)) | ((with_reducible refine mk_ms ?_); refine s_icmp_ne (tgt := 104) dX11_rounds_77 (by decide) (by omega) (fun h77 => ?_) (fun h77 => ?_)) | ((with_reducible refine mk_mn ?_); refine q_icmp_ne (tgt := 104) dX11_rounds_77 (by decide) (by omega) (fun h77 => ?_) (fun h77 => ?_)) | ((with_reducible refine mk_nn ?_); refine n_icmp_ne (tgt := 104) dX11_rounds_77 (by decide) (by omega) (by omega) (fun h77 => ?_) (fun h77 => ?_)) | refine e_icmp_ne (tgt := 104) dX11_rounds_77 (by decide) (fun h77 => ?_) (fun h77 => ?_)
                            · try first | contradiction | omega
                              all_goals
                                refine e_aload_n dX11_rounds_104 rfl rfl ?_
                                refine e_getI dX11_rounds_105 fl_X11_365 rfl ?_
                                rw [nxH_a]
                                try rw [show nx1 none = nI 0 from rfl]
                                refine e_iconst (v := nI 2) dX11_rounds_108 rfl ?_
                                first | ((with_reducible refine mk_mo ?_); refine p_icmp_ne (tgt := 129) dX11_rounds_109 (by decide) (fun h109 => ?_) (fun h109 => ?_)) | ((with_reducible refine mk_ms ?_); refine s_icmp_ne (tgt := 129) dX11_rounds_109 (by decide) (by omega) (fun h109 => ?_) (fun h109 => ?_)) | ((with_reducible refine mk_mn ?_); refine q_icmp_ne (tgt := 129) dX11_rounds_109 (by decide) (by omega) (fun h109 => ?_) (fun h109 => ?_)) | ((with_reducible refine mk_nn ?_); refine n_icmp_ne (tgt := 129) dX11_rounds_109 (by decide) (by omega) (by omega) (fun h109 => ?_) (fun h109 => ?_)) | refine e_icmp_ne (tgt := 129) dX11_rounds_109 (by decide) (fun h109 => ?_) (fun h109 => ?_)
                                · try first | contradiction | omega
                                  all_goals
                                    refine e_iload_n dX11_rounds_129 rfl rfl ?_
                                    refine e_aload_n dX11_rounds_130 rfl rfl ?_
                                    refine e_getI dX11_rounds_131 fl_X11_365 rfl ?_
                                    rw [nxH_a]
                                    try rw [show nx1 none = nI 0 from rfl]
                                    first | ((with_reducible refine mk_b ?_); refine b_if_eq (tgt := 142) dX11_rounds_134 (by decide) (fun h134 => ?_) (fun h134 => ?_)) | ((with_reducible refine mk_ll ?_); refine m_if_eq (tgt := 142) dX11_rounds_134 (by decide) (by omega) (by omega) (fun h134 => ?_) (fun h134 => ?_)) | ((with_reducible refine mk_lc ?_); refine l_if_eq (tgt := 142) dX11_rounds_134 (by decide) (fun h134 => ?_) (fun h134 => ?_)) | ((with_reducible refine mk_n ?_); refine n_if_eq (tgt := 142) dX11_rounds_134 (by decide) (by omega) (fun h134 => ?_) (fun h134 => ?_)) | refine e_if_eq (tgt := 142) dX11_rounds_134 (by decide) (fun h134 => ?_) (fun h134 => ?_)
                                    · try first | contradiction | omega | (simp only [decide_eq_true_eq, decide_eq_false_iff_not] at h134; omega)
                                      all_goals
                                        refine e_iconst (v := nI 0) dX11_rounds_142 rfl ?_
                                        refine e_goto (tgt := 147) dX11_rounds_143 (by decide) ?_
                                        first | ((with_reducible refine mk_nn ?_); refine n_iadd dX11_rounds_147 ?_) | refine e_iadd dX11_rounds_147 ?_
                                        refine e_istore_n dX11_rounds_148 rfl (Nat.le_of_ble_eq_true rfl) rfl ?_
                                        refine e_aload_n dX11_rounds_149 rfl rfl ?_
                                        refine e_getI dX11_rounds_150 fl_X11_365 rfl ?_
                                        rw [nxH_a]
                                        try rw [show nx1 none = nI 0 from rfl]
                                        first | ((with_reducible refine mk_b ?_); refine b_if_eq (tgt := 170) dX11_rounds_153 (by decide) (fun h153 => ?_) (fun h153 => ?_)) | ((with_reducible refine mk_ll ?_); refine m_if_eq (tgt := 170) dX11_rounds_153 (by decide) (by omega) (by omega) (fun h153 => ?_) (fun h153 => ?_)) | ((with_reducible refine mk_lc ?_); refine l_if_eq (tgt := 170) dX11_rounds_153 (by decide) (fun h153 => ?_) (fun h153 => ?_)) | ((with_reducible refine mk_n ?_); refine n_if_eq (tgt := 170) dX11_rounds_153 (by decide) (by omega) (fun h153 => ?_) (fun h153 => ?_)) | refine e_if_eq (tgt := 170) dX11_rounds_153 (by decide) (fun h153 => ?_) (fun h153 => ?_)
                                        · try first | contradiction | omega | (simp only [decide_eq_true_eq, decide_eq_false_iff_not] at h153; omega)
                                          all_goals
                                            refine e_iconst (v := nI 0) dX11_rounds_170 rfl ?_
                                            refine e_istore_n dX11_rounds_171 rfl (Nat.le_of_ble_eq_true rfl) rfl ?_
                                            refine e_goto (tgt := 39) dX11_rounds_172 (by decide) ?_
                                            exact fin0 _ v _ _ (by omega) ⟨_, _, _, rfl⟩ hvq
                                        · try first | contradiction | omega | (simp only [decide_eq_true_eq, decide_eq_false_iff_not] at h153; omega)
                                          all_goals
                                            contradiction
                                    · try first | contradiction | omega | (simp only [decide_eq_true_eq, decide_eq_false_iff_not] at h134; omega)
                                      all_goals
                                        contradiction
                                · try first | contradiction | omega
                                  all_goals
                                    contradiction
                            · try first | contradiction | omega
                              all_goals
                                contradiction
          | some q =>
            have hq := nxO_in hv1 hnx
            have : R = -1 := by rw [← hR]; unfold rnF; rw [if_pos ⟨hev, by rw [hnx]; rfl⟩]; rfl
            rw [this]
            subst hn4
            refine e_iload_n dX11_rounds_39 rfl rfl ?_
            first | ((with_reducible refine mk_b ?_); refine b_if_eq (tgt := 175) dX11_rounds_40 (by decide) (fun h40 => ?_) (fun h40 => ?_)) | ((with_reducible refine mk_ll ?_); refine m_if_eq (tgt := 175) dX11_rounds_40 (by decide) (by omega) (by omega) (fun h40 => ?_) (fun h40 => ?_)) | ((with_reducible refine mk_lc ?_); refine l_if_eq (tgt := 175) dX11_rounds_40 (by decide) (fun h40 => ?_) (fun h40 => ?_)) | ((with_reducible refine mk_n ?_); refine n_if_eq (tgt := 175) dX11_rounds_40 (by decide) (by omega) (fun h40 => ?_) (fun h40 => ?_)) | refine e_if_eq (tgt := 175) dX11_rounds_40 (by decide) (fun h40 => ?_) (fun h40 => ?_)
            · try first | contradiction | omega | (simp only [decide_eq_true_eq, decide_eq_false_iff_not] at h40; omega)
              all_goals
                refine e_aload_n dX11_rounds_175 rfl rfl ?_
                refine y_V0 (M' := mX11_comesBack) dX11_rounds_176 ml_X11_386 ok_X11_comesBack (by decide) rfl im_X11_comesBack se_X11_comesBack (ct_X11_comesBack ‹_› hv) (Nat.le_of_ble_eq_true rfl) (by decide) (Nat.le_of_ble_eq_true rfl) ?_
                refine e_iload_n dX11_rounds_179 rfl rfl ?_
                first | ((with_reducible refine mk_b ?_); refine b_if_eq (tgt := 187) dX11_rounds_180 (by decide) (fun h180 => ?_) (fun h180 => ?_)) | ((with_reducible refine mk_ll ?_); refine m_if_eq (tgt := 187) dX11_rounds_180 (by decide) (by omega) (by omega) (fun h180 => ?_) (fun h180 => ?_)) | ((with_reducible refine mk_lc ?_); refine l_if_eq (tgt := 187) dX11_rounds_180 (by decide) (fun h180 => ?_) (fun h180 => ?_)) | ((with_reducible refine mk_n ?_); refine n_if_eq (tgt := 187) dX11_rounds_180 (by decide) (by omega) (fun h180 => ?_) (fun h180 => ?_)) | refine e_if_eq (tgt := 187) dX11_rounds_180 (by decide) (fun h180 => ?_) (fun h180 => ?_)
                · try first | contradiction | omega | (simp only [decide_eq_true_eq, decide_eq_false_iff_not] at h180; omega)
                  all_goals
                    refine e_iload_n dX11_rounds_187 rfl rfl ?_
                    refine e_ret (some _) rfl (r_int dX11_rounds_188 rfl) ?_
                    first | contradiction | exact ⟨rfl, hfi, rfl, ⟨_, by rw [ov_w hvq]⟩, rfl, rfl⟩
                · try first | contradiction | omega | (simp only [decide_eq_true_eq, decide_eq_false_iff_not] at h180; omega)
                  all_goals
                    refine e_iconst (v := -1) dX11_rounds_183 rfl ?_
                    refine e_goto (tgt := 188) dX11_rounds_184 (by decide) ?_
                    refine e_ret (some _) rfl (r_int dX11_rounds_188 rfl) ?_
                    first | contradiction | exact ⟨rfl, hfi, rfl, ⟨_, by rw [ov_w hvq]⟩, rfl, rfl⟩
            · try first | contradiction | omega | (simp only [decide_eq_true_eq, decide_eq_false_iff_not] at h40; omega)
              all_goals
                refine e_iload dX11_rounds_43 rfl ?_
                first | ((with_reducible refine mk_b ?_); refine b_if_ne (tgt := 175) dX11_rounds_45 (by decide) (fun h45 => ?_) (fun h45 => ?_)) | ((with_reducible refine mk_ll ?_); refine m_if_ne (tgt := 175) dX11_rounds_45 (by decide) (by omega) (by omega) (fun h45 => ?_) (fun h45 => ?_)) | ((with_reducible refine mk_lc ?_); refine l_if_ne (tgt := 175) dX11_rounds_45 (by decide) (fun h45 => ?_) (fun h45 => ?_)) | ((with_reducible refine mk_n ?_); refine n_if_ne (tgt := 175) dX11_rounds_45 (by decide) (by omega) (fun h45 => ?_) (fun h45 => ?_)) | refine e_if_ne (tgt := 175) dX11_rounds_45 (by decide) (fun h45 => ?_) (fun h45 => ?_)
                · try first | contradiction | omega | (simp only [decide_eq_true_eq, decide_eq_false_iff_not] at h45; omega)
                  all_goals
                    refine e_aload_n dX11_rounds_175 rfl rfl ?_
                    refine y_V0 (M' := mX11_comesBack) dX11_rounds_176 ml_X11_386 ok_X11_comesBack (by decide) rfl im_X11_comesBack se_X11_comesBack (ct_X11_comesBack ‹_› hv) (Nat.le_of_ble_eq_true rfl) (by decide) (Nat.le_of_ble_eq_true rfl) ?_
                    refine e_iload_n dX11_rounds_179 rfl rfl ?_
                    first | ((with_reducible refine mk_b ?_); refine b_if_eq (tgt := 187) dX11_rounds_180 (by decide) (fun h180 => ?_) (fun h180 => ?_)) | ((with_reducible refine mk_ll ?_); refine m_if_eq (tgt := 187) dX11_rounds_180 (by decide) (by omega) (by omega) (fun h180 => ?_) (fun h180 => ?_)) | ((with_reducible refine mk_lc ?_); refine l_if_eq (tgt := 187) dX11_rounds_180 (by decide) (fun h180 => ?_) (fun h180 => ?_)) | ((with_reducible refine mk_n ?_); refine n_if_eq (tgt := 187) dX11_rounds_180 (by decide) (by omega) (fun h180 => ?_) (fun h180 => ?_)) | refine e_if_eq (tgt := 187) dX11_rounds_180 (by decide) (fun h180 => ?_) (fun h180 => ?_)
                    · try first | contradiction | omega | (simp only [decide_eq_true_eq, decide_eq_false_iff_not] at h180; omega)
                      all_goals
                        refine e_iload_n dX11_rounds_187 rfl rfl ?_
                        refine e_ret (some _) rfl (r_int dX11_rounds_188 rfl) ?_
                        first | contradiction | exact ⟨rfl, hfi, rfl, ⟨_, by rw [ov_w hvq]⟩, rfl, rfl⟩
                    · try first | contradiction | omega | (simp only [decide_eq_true_eq, decide_eq_false_iff_not] at h180; omega)
                      all_goals
                        refine e_iconst (v := -1) dX11_rounds_183 rfl ?_
                        refine e_goto (tgt := 188) dX11_rounds_184 (by decide) ?_
                        refine e_ret (some _) rfl (r_int dX11_rounds_188 rfl) ?_
                        first | contradiction | exact ⟨rfl, hfi, rfl, ⟨_, by rw [ov_w hvq]⟩, rfl, rfl⟩
                · try first | contradiction | omega | (simp only [decide_eq_true_eq, decide_eq_false_iff_not] at h45; omega)
                  all_goals
                    refine e_aload_n dX11_rounds_48 rfl rfl ?_
                    refine y_V0 (M' := mX11_laysNext) dX11_rounds_49 ml_X11_381 ok_X11_laysNext (by decide) rfl im_X11_laysNext se_X11_laysNext (ct_X11_laysNext ‹_› hv1) (Nat.le_of_ble_eq_true rfl) (by decide) (Nat.le_of_ble_eq_true rfl) ?_
                    rw [hnx, nxH_2]
                    refine e_iload_n dX11_rounds_52 rfl rfl ?_
                    refine e_bipush (v := nI 40) dX11_rounds_53 rfl ?_
                    first | ((with_reducible refine mk_mo ?_); refine p_icmp_ne (tgt := 69) dX11_rounds_55 (by decide) (fun h55 => ?_) (fun h55 => ?_)) | ((with_reducible refine mk_ms ?_); refine s_icmp_ne (tgt := 69) dX11_rounds_55 (by decide) (by omega) (fun h55 => ?_) (fun h55 => ?_)) | ((with_reducible refine mk_mn ?_); refine q_icmp_ne (tgt := 69) dX11_rounds_55 (by decide) (by omega) (fun h55 => ?_) (fun h55 => ?_)) | ((with_reducible refine mk_nn ?_); refine n_icmp_ne (tgt := 69) dX11_rounds_55 (by decide) (by omega) (by omega) (fun h55 => ?_) (fun h55 => ?_)) | refine e_icmp_ne (tgt := 69) dX11_rounds_55 (by decide) (fun h55 => ?_) (fun h55 => ?_)
                    · try first | contradiction | omega
                      all_goals
                        first | contradiction | omega
                    · try first | contradiction | omega
                      all_goals
                        refine e_aload_n dX11_rounds_58 rfl rfl ?_
                        refine e_getI dX11_rounds_59 fl_X11_365 rfl ?_
                        rw [nxH_a]
                        try rw [show nx1 (some q) = nI q.1 from rfl]
                        first | ((with_reducible refine mk_b ?_); refine b_if_eq (tgt := 69) dX11_rounds_62 (by decide) (fun h62 => ?_) (fun h62 => ?_)) | ((with_reducible refine mk_ll ?_); refine m_if_eq (tgt := 69) dX11_rounds_62 (by decide) (by omega) (by omega) (fun h62 => ?_) (fun h62 => ?_)) | ((with_reducible refine mk_lc ?_); refine l_if_eq (tgt := 69) dX11_rounds_62 (by decide) (fun h62 => ?_) (fun h62 => ?_)) | ((with_reducible refine mk_n ?_); refine n_if_eq (tgt := 69) dX11_rounds_62 (by decide) (by omega) (fun h62 => ?_) (fun h62 => ?_)) | refine e_if_eq (tgt := 69) dX11_rounds_62 (by decide) (fun h62 => ?_) (fun h62 => ?_)
                        · try first | contradiction | omega | (simp only [decide_eq_true_eq, decide_eq_false_iff_not] at h62; omega)
                          all_goals
                            first | contradiction | omega
                        · try first | contradiction | omega | (simp only [decide_eq_true_eq, decide_eq_false_iff_not] at h62; omega)
                          all_goals
                            refine e_iconst (v := nI 1) dX11_rounds_65 rfl ?_
                            refine e_goto (tgt := 70) dX11_rounds_66 (by decide) ?_
                            refine e_istore dX11_rounds_70 (Nat.le_of_ble_eq_true rfl) rfl ?_
                            refine e_aload_n dX11_rounds_72 rfl rfl ?_
                            refine e_getI dX11_rounds_73 fl_X11_365 rfl ?_
                            rw [nxH_a]
                            try rw [show nx1 (some q) = nI q.1 from rfl]
                            refine e_iconst (v := nI 1) dX11_rounds_76 rfl ?_
                            first | ((with_reducible refine mk_mo ?_); refine p_icmp_ne (tgt := 104) dX11_rounds_77 (by decide) (fun h77 => ?_) (fun h77 => ?_)) | ((with_reducible refine mk_ms ?_); refine s_icmp_ne (tgt := 104) dX11_rounds_77 (by decide) (by omega) (fun h77 => ?_) (fun h77 => ?_)) | ((with_reducible refine mk_mn ?_); refine q_icmp_ne (tgt := 104) dX11_rounds_77 (by decide) (by omega) (fun h77 => ?_) (fun h77 => ?_)) | ((with_reducible refine mk_nn ?_); refine n_icmp_ne (tgt := 104) dX11_rounds_77 (by decide) (by omega) (by omega) (fun h77 => ?_) (fun h77 => ?_)) | refine e_icmp_ne (tgt := 104) dX11_rounds_77 (by decide) (fun h77 => ?_) (fun h77 => ?_)
                            · try first | contradiction | omega
                              all_goals
                                refine e_aload_n dX11_rounds_104 rfl rfl ?_
                                refine e_getI dX11_rounds_105 fl_X11_365 rfl ?_
                                rw [nxH_a]
                                try rw [show nx1 (some q) = nI q.1 from rfl]
                                refine e_iconst (v := nI 2) dX11_rounds_108 rfl ?_
                                first | ((with_reducible refine mk_mo ?_); refine p_icmp_ne (tgt := 129) dX11_rounds_109 (by decide) (fun h109 => ?_) (fun h109 => ?_)) | ((with_reducible refine mk_ms ?_); refine s_icmp_ne (tgt := 129) dX11_rounds_109 (by decide) (by omega) (fun h109 => ?_) (fun h109 => ?_)) | ((with_reducible refine mk_mn ?_); refine q_icmp_ne (tgt := 129) dX11_rounds_109 (by decide) (by omega) (fun h109 => ?_) (fun h109 => ?_)) | ((with_reducible refine mk_nn ?_); refine n_icmp_ne (tgt := 129) dX11_rounds_109 (by decide) (by omega) (by omega) (fun h109 => ?_) (fun h109 => ?_)) | refine e_icmp_ne (tgt := 129) dX11_rounds_109 (by decide) (fun h109 => ?_) (fun h109 => ?_)
                                · try first | contradiction | omega
                                  all_goals
                                    refine e_iload_n dX11_rounds_129 rfl rfl ?_
                                    refine e_aload_n dX11_rounds_130 rfl rfl ?_
                                    refine e_getI dX11_rounds_131 fl_X11_365 rfl ?_
                                    rw [nxH_a]
                                    try rw [show nx1 (some q) = nI q.1 from rfl]
                                    first | ((with_reducible refine mk_b ?_); refine b_if_eq (tgt := 142) dX11_rounds_134 (by decide) (fun h134 => ?_) (fun h134 => ?_)) | ((with_reducible refine mk_ll ?_); refine m_if_eq (tgt := 142) dX11_rounds_134 (by decide) (by omega) (by omega) (fun h134 => ?_) (fun h134 => ?_)) | ((with_reducible refine mk_lc ?_); refine l_if_eq (tgt := 142) dX11_rounds_134 (by decide) (fun h134 => ?_) (fun h134 => ?_)) | ((with_reducible refine mk_n ?_); refine n_if_eq (tgt := 142) dX11_rounds_134 (by decide) (by omega) (fun h134 => ?_) (fun h134 => ?_)) | refine e_if_eq (tgt := 142) dX11_rounds_134 (by decide) (fun h134 => ?_) (fun h134 => ?_)
                                    · try first | contradiction | omega | (simp only [decide_eq_true_eq, decide_eq_false_iff_not] at h134; omega)
                                      all_goals
                                        refine e_iconst (v := nI 0) dX11_rounds_142 rfl ?_
                                        refine e_goto (tgt := 147) dX11_rounds_143 (by decide) ?_
                                        first | ((with_reducible refine mk_nn ?_); refine n_iadd dX11_rounds_147 ?_) | refine e_iadd dX11_rounds_147 ?_
                                        refine e_istore_n dX11_rounds_148 rfl (Nat.le_of_ble_eq_true rfl) rfl ?_
                                        refine e_aload_n dX11_rounds_149 rfl rfl ?_
                                        refine e_getI dX11_rounds_150 fl_X11_365 rfl ?_
                                        rw [nxH_a]
                                        try rw [show nx1 (some q) = nI q.1 from rfl]
                                        first | ((with_reducible refine mk_b ?_); refine b_if_eq (tgt := 170) dX11_rounds_153 (by decide) (fun h153 => ?_) (fun h153 => ?_)) | ((with_reducible refine mk_ll ?_); refine m_if_eq (tgt := 170) dX11_rounds_153 (by decide) (by omega) (by omega) (fun h153 => ?_) (fun h153 => ?_)) | ((with_reducible refine mk_lc ?_); refine l_if_eq (tgt := 170) dX11_rounds_153 (by decide) (fun h153 => ?_) (fun h153 => ?_)) | ((with_reducible refine mk_n ?_); refine n_if_eq (tgt := 170) dX11_rounds_153 (by decide) (by omega) (fun h153 => ?_) (fun h153 => ?_)) | refine e_if_eq (tgt := 170) dX11_rounds_153 (by decide) (fun h153 => ?_) (fun h153 => ?_)
                                        · try first | contradiction | omega | (simp only [decide_eq_true_eq, decide_eq_false_iff_not] at h153; omega)
                                          all_goals
                                            refine e_iconst (v := nI 0) dX11_rounds_170 rfl ?_
                                            refine e_istore_n dX11_rounds_171 rfl (Nat.le_of_ble_eq_true rfl) rfl ?_
                                            refine e_goto (tgt := 39) dX11_rounds_172 (by decide) ?_
                                            first | exact fin1 _ v _ (by omega) ⟨_, _, _, rfl⟩ hvq | (exfalso; simp_all; done) | (exfalso; omega)
                                        · try first | contradiction | omega | (simp only [decide_eq_true_eq, decide_eq_false_iff_not] at h153; omega)
                                          all_goals
                                            refine e_aload_n dX11_rounds_156 rfl rfl ?_
                                            refine x_V0 (M' := mX11_evenOf) dX11_rounds_157 ml_X11_358 ok_X11_evenOf (by decide) rfl im_X11_evenOf se_X11_evenOf (ct_X11_evenOf ‹_› ‹_›) (Nat.le_of_ble_eq_true rfl) (by decide) (Nat.le_of_ble_eq_true rfl) ?_
                                            refine e_iload_n dX11_rounds_160 rfl rfl ?_
                                            first | ((with_reducible refine mk_n ?_); refine n_i2l dX11_rounds_161 (by omega) ?_) | refine e_i2l dX11_rounds_161 ?_
                                            refine e_lcmp dX11_rounds_162 ?_
                                            skip
                                            first | ((with_reducible refine mk_lo ?_); refine o_if_le (tgt := 170) dX11_rounds_163 (by decide) (by omega) (by first | assumption | (intro _ he; cases he; done)) (fun h163 => ?_) (fun h163 => ?_)) | ((with_reducible refine mk_ll ?_); refine m_if_le (tgt := 170) dX11_rounds_163 (by decide) (by omega) (by omega) (fun h163 => ?_) (fun h163 => ?_)) | ((with_reducible refine mk_lc ?_); refine l_if_le (tgt := 170) dX11_rounds_163 (by decide) (fun h163 => ?_) (fun h163 => ?_)) | ((with_reducible refine mk_n ?_); refine n_if_le (tgt := 170) dX11_rounds_163 (by decide) (by omega) (fun h163 => ?_) (fun h163 => ?_)) | refine e_if_le (tgt := 170) dX11_rounds_163 (by decide) (fun h163 => ?_) (fun h163 => ?_)
                                            · try first | contradiction | omega
                                              all_goals
                                                refine e_iconst (v := nI 0) dX11_rounds_170 rfl ?_
                                                refine e_istore_n dX11_rounds_171 rfl (Nat.le_of_ble_eq_true rfl) rfl ?_
                                                refine e_goto (tgt := 39) dX11_rounds_172 (by decide) ?_
                                                first | exact fin1 _ v _ (by omega) ⟨_, _, _, rfl⟩ hvq | (exfalso; simp_all; done) | (exfalso; omega)
                                            · try first | contradiction | omega
                                              all_goals
                                                refine e_iconst (v := nI 1) dX11_rounds_166 rfl ?_
                                                refine e_goto (tgt := 171) dX11_rounds_167 (by decide) ?_
                                                refine e_istore_n dX11_rounds_171 rfl (Nat.le_of_ble_eq_true rfl) rfl ?_
                                                refine e_goto (tgt := 39) dX11_rounds_172 (by decide) ?_
                                                first | exact fin1 _ v _ (by omega) ⟨_, _, _, rfl⟩ hvq | (exfalso; simp_all; done) | (exfalso; omega)
                                    · try first | contradiction | omega | (simp only [decide_eq_true_eq, decide_eq_false_iff_not] at h134; omega)
                                      all_goals
                                        refine e_iload dX11_rounds_137 rfl ?_
                                        first | ((with_reducible refine mk_b ?_); refine b_if_eq (tgt := 146) dX11_rounds_139 (by decide) (fun h139 => ?_) (fun h139 => ?_)) | ((with_reducible refine mk_ll ?_); refine m_if_eq (tgt := 146) dX11_rounds_139 (by decide) (by omega) (by omega) (fun h139 => ?_) (fun h139 => ?_)) | ((with_reducible refine mk_lc ?_); refine l_if_eq (tgt := 146) dX11_rounds_139 (by decide) (fun h139 => ?_) (fun h139 => ?_)) | ((with_reducible refine mk_n ?_); refine n_if_eq (tgt := 146) dX11_rounds_139 (by decide) (by omega) (fun h139 => ?_) (fun h139 => ?_)) | refine e_if_eq (tgt := 146) dX11_rounds_139 (by decide) (fun h139 => ?_) (fun h139 => ?_)
                                        · try first | contradiction | omega | (simp only [decide_eq_true_eq, decide_eq_false_iff_not] at h139; omega)
                                          all_goals
                                            contradiction
                                        · try first | contradiction | omega | (simp only [decide_eq_true_eq, decide_eq_false_iff_not] at h139; omega)
                                          all_goals
                                            refine e_iconst (v := nI 0) dX11_rounds_142 rfl ?_
                                            refine e_goto (tgt := 147) dX11_rounds_143 (by decide) ?_
                                            first | ((with_reducible refine mk_nn ?_); refine n_iadd dX11_rounds_147 ?_) | refine e_iadd dX11_rounds_147 ?_
                                            refine e_istore_n dX11_rounds_148 rfl (Nat.le_of_ble_eq_true rfl) rfl ?_
                                            refine e_aload_n dX11_rounds_149 rfl rfl ?_
                                            refine e_getI dX11_rounds_150 fl_X11_365 rfl ?_
                                            rw [nxH_a]
                                            try rw [show nx1 (some q) = nI q.1 from rfl]
                                            first | ((with_reducible refine mk_b ?_); refine b_if_eq (tgt := 170) dX11_rounds_153 (by decide) (fun h153 => ?_) (fun h153 => ?_)) | ((with_reducible refine mk_ll ?_); refine m_if_eq (tgt := 170) dX11_rounds_153 (by decide) (by omega) (by omega) (fun h153 => ?_) (fun h153 => ?_)) | ((with_reducible refine mk_lc ?_); refine l_if_eq (tgt := 170) dX11_rounds_153 (by decide) (fun h153 => ?_) (fun h153 => ?_)) | ((with_reducible refine mk_n ?_); refine n_if_eq (tgt := 170) dX11_rounds_153 (by decide) (by omega) (fun h153 => ?_) (fun h153 => ?_)) | refine e_if_eq (tgt := 170) dX11_rounds_153 (by decide) (fun h153 => ?_) (fun h153 => ?_)
                                            · try first | contradiction | omega | (simp only [decide_eq_true_eq, decide_eq_false_iff_not] at h153; omega)
                                              all_goals
                                                refine e_iconst (v := nI 0) dX11_rounds_170 rfl ?_
                                                refine e_istore_n dX11_rounds_171 rfl (Nat.le_of_ble_eq_true rfl) rfl ?_
                                                refine e_goto (tgt := 39) dX11_rounds_172 (by decide) ?_
                                                first | exact fin1 _ v _ (by omega) ⟨_, _, _, rfl⟩ hvq | (exfalso; simp_all; done) | (exfalso; omega)
                                            · try first | contradiction | omega | (simp only [decide_eq_true_eq, decide_eq_false_iff_not] at h153; omega)
                                              all_goals
                                                refine e_aload_n dX11_rounds_156 rfl rfl ?_
                                                refine x_V0 (M' := mX11_evenOf) dX11_rounds_157 ml_X11_358 ok_X11_evenOf (by decide) rfl im_X11_evenOf se_X11_evenOf (ct_X11_evenOf ‹_› ‹_›) (Nat.le_of_ble_eq_true rfl) (by decide) (Nat.le_of_ble_eq_true rfl) ?_
                                                refine e_iload_n dX11_rounds_160 rfl rfl ?_
                                                first | ((with_reducible refine mk_n ?_); refine n_i2l dX11_rounds_161 (by omega) ?_) | refine e_i2l dX11_rounds_161 ?_
                                                refine e_lcmp dX11_rounds_162 ?_
                                                skip
                                                first | ((with_reducible refine mk_lo ?_); refine o_if_le (tgt := 170) dX11_rounds_163 (by decide) (by omega) (by first | assumption | (intro _ he; cases he; done)) (fun h163 => ?_) (fun h163 => ?_)) | ((with_reducible refine mk_ll ?_); refine m_if_le (tgt := 170) dX11_rounds_163 (by decide) (by omega) (by omega) (fun h163 => ?_) (fun h163 => ?_)) | ((with_reducible refine mk_lc ?_); refine l_if_le (tgt := 170) dX11_rounds_163 (by decide) (fun h163 => ?_) (fun h163 => ?_)) | ((with_reducible refine mk_n ?_); refine n_if_le (tgt := 170) dX11_rounds_163 (by decide) (by omega) (fun h163 => ?_) (fun h163 => ?_)) | refine e_if_le (tgt := 170) dX11_rounds_163 (by decide) (fun h163 => ?_) (fun h163 => ?_)
                                                · try first | contradiction | omega
                                                  all_goals
                                                    refine e_iconst (v := nI 0) dX11_rounds_170 rfl ?_
                                                    refine e_istore_n dX11_rounds_171 rfl (Nat.le_of_ble_eq_true rfl) rfl ?_
                                                    refine e_goto (tgt := 39) dX11_rounds_172 (by decide) ?_
                                                    first | exact fin1 _ v _ (by omega) ⟨_, _, _, rfl⟩ hvq | (exfalso; simp_all; done) | (exfalso; omega)
                                                · try first | contradiction | omega
                                                  all_goals
                                                    refine e_iconst (v := nI 1) dX11_rounds_166 rfl ?_
                                                    refine e_goto (tgt := 171) dX11_rounds_167 (by decide) ?_
                                                    refine e_istore_n dX11_rounds_171 rfl (Nat.le_of_ble_eq_true rfl) rfl ?_
                                                    refine e_goto (tgt := 39) dX11_rounds_172 (by decide) ?_
                                                    first | exact fin1 _ v _ (by omega) ⟨_, _, _, rfl⟩ hvq | (exfalso; simp_all; done) | (exfalso; omega)
                                · try first | contradiction | omega
                                  all_goals
                                    refine e_iload dX11_rounds_112 rfl ?_
                                    first | ((with_reducible refine mk_b ?_); refine b_if_ne (tgt := 129) dX11_rounds_114 (by decide) (fun h114 => ?_) (fun h114 => ?_)) | ((with_reducible refine mk_ll ?_); refine m_if_ne (tgt := 129) dX11_rounds_114 (by decide) (by omega) (by omega) (fun h114 => ?_) (fun h114 => ?_)) | ((with_reducible refine mk_lc ?_); refine l_if_ne (tgt := 129) dX11_rounds_114 (by decide) (fun h114 => ?_) (fun h114 => ?_)) | ((with_reducible refine mk_n ?_); refine n_if_ne (tgt := 129) dX11_rounds_114 (by decide) (by omega) (fun h114 => ?_) (fun h114 => ?_)) | refine e_if_ne (tgt := 129) dX11_rounds_114 (by decide) (fun h114 => ?_) (fun h114 => ?_)
                                    · try first | contradiction | omega | (simp only [decide_eq_true_eq, decide_eq_false_iff_not] at h114; omega)
                                      all_goals
                                        refine e_iload_n dX11_rounds_129 rfl rfl ?_
                                        refine e_aload_n dX11_rounds_130 rfl rfl ?_
                                        refine e_getI dX11_rounds_131 fl_X11_365 rfl ?_
                                        rw [nxH_a]
                                        try rw [show nx1 (some q) = nI q.1 from rfl]
                                        first | ((with_reducible refine mk_b ?_); refine b_if_eq (tgt := 142) dX11_rounds_134 (by decide) (fun h134 => ?_) (fun h134 => ?_)) | ((with_reducible refine mk_ll ?_); refine m_if_eq (tgt := 142) dX11_rounds_134 (by decide) (by omega) (by omega) (fun h134 => ?_) (fun h134 => ?_)) | ((with_reducible refine mk_lc ?_); refine l_if_eq (tgt := 142) dX11_rounds_134 (by decide) (fun h134 => ?_) (fun h134 => ?_)) | ((with_reducible refine mk_n ?_); refine n_if_eq (tgt := 142) dX11_rounds_134 (by decide) (by omega) (fun h134 => ?_) (fun h134 => ?_)) | refine e_if_eq (tgt := 142) dX11_rounds_134 (by decide) (fun h134 => ?_) (fun h134 => ?_)
                                        · try first | contradiction | omega | (simp only [decide_eq_true_eq, decide_eq_false_iff_not] at h134; omega)
                                          all_goals
                                            refine e_iconst (v := nI 0) dX11_rounds_142 rfl ?_
                                            refine e_goto (tgt := 147) dX11_rounds_143 (by decide) ?_
                                            first | ((with_reducible refine mk_nn ?_); refine n_iadd dX11_rounds_147 ?_) | refine e_iadd dX11_rounds_147 ?_
                                            refine e_istore_n dX11_rounds_148 rfl (Nat.le_of_ble_eq_true rfl) rfl ?_
                                            refine e_aload_n dX11_rounds_149 rfl rfl ?_
                                            refine e_getI dX11_rounds_150 fl_X11_365 rfl ?_
                                            rw [nxH_a]
                                            try rw [show nx1 (some q) = nI q.1 from rfl]
                                            first | ((with_reducible refine mk_b ?_); refine b_if_eq (tgt := 170) dX11_rounds_153 (by decide) (fun h153 => ?_) (fun h153 => ?_)) | ((with_reducible refine mk_ll ?_); refine m_if_eq (tgt := 170) dX11_rounds_153 (by decide) (by omega) (by omega) (fun h153 => ?_) (fun h153 => ?_)) | ((with_reducible refine mk_lc ?_); refine l_if_eq (tgt := 170) dX11_rounds_153 (by decide) (fun h153 => ?_) (fun h153 => ?_)) | ((with_reducible refine mk_n ?_); refine n_if_eq (tgt := 170) dX11_rounds_153 (by decide) (by omega) (fun h153 => ?_) (fun h153 => ?_)) | refine e_if_eq (tgt := 170) dX11_rounds_153 (by decide) (fun h153 => ?_) (fun h153 => ?_)
                                            · try first | contradiction | omega | (simp only [decide_eq_true_eq, decide_eq_false_iff_not] at h153; omega)
                                              all_goals
                                                refine e_iconst (v := nI 0) dX11_rounds_170 rfl ?_
                                                refine e_istore_n dX11_rounds_171 rfl (Nat.le_of_ble_eq_true rfl) rfl ?_
                                                refine e_goto (tgt := 39) dX11_rounds_172 (by decide) ?_
                                                first | exact fin1 _ v _ (by omega) ⟨_, _, _, rfl⟩ hvq | (exfalso; simp_all; done) | (exfalso; omega)
                                            · try first | contradiction | omega | (simp only [decide_eq_true_eq, decide_eq_false_iff_not] at h153; omega)
                                              all_goals
                                                refine e_aload_n dX11_rounds_156 rfl rfl ?_
                                                refine x_V0 (M' := mX11_evenOf) dX11_rounds_157 ml_X11_358 ok_X11_evenOf (by decide) rfl im_X11_evenOf se_X11_evenOf (ct_X11_evenOf ‹_› ‹_›) (Nat.le_of_ble_eq_true rfl) (by decide) (Nat.le_of_ble_eq_true rfl) ?_
                                                refine e_iload_n dX11_rounds_160 rfl rfl ?_
                                                first | ((with_reducible refine mk_n ?_); refine n_i2l dX11_rounds_161 (by omega) ?_) | refine e_i2l dX11_rounds_161 ?_
                                                refine e_lcmp dX11_rounds_162 ?_
                                                skip
                                                first | ((with_reducible refine mk_lo ?_); refine o_if_le (tgt := 170) dX11_rounds_163 (by decide) (by omega) (by first | assumption | (intro _ he; cases he; done)) (fun h163 => ?_) (fun h163 => ?_)) | ((with_reducible refine mk_ll ?_); refine m_if_le (tgt := 170) dX11_rounds_163 (by decide) (by omega) (by omega) (fun h163 => ?_) (fun h163 => ?_)) | ((with_reducible refine mk_lc ?_); refine l_if_le (tgt := 170) dX11_rounds_163 (by decide) (fun h163 => ?_) (fun h163 => ?_)) | ((with_reducible refine mk_n ?_); refine n_if_le (tgt := 170) dX11_rounds_163 (by decide) (by omega) (fun h163 => ?_) (fun h163 => ?_)) | refine e_if_le (tgt := 170) dX11_rounds_163 (by decide) (fun h163 => ?_) (fun h163 => ?_)
                                                · try first | contradiction | omega
                                                  all_goals
                                                    refine e_iconst (v := nI 0) dX11_rounds_170 rfl ?_
                                                    refine e_istore_n dX11_rounds_171 rfl (Nat.le_of_ble_eq_true rfl) rfl ?_
                                                    refine e_goto (tgt := 39) dX11_rounds_172 (by decide) ?_
                                                    first | exact fin1 _ v _ (by omega) ⟨_, _, _, rfl⟩ hvq | (exfalso; simp_all; done) | (exfalso; omega)
                                                · try first | contradiction | omega
                                                  all_goals
                                                    refine e_iconst (v := nI 1) dX11_rounds_166 rfl ?_
                                                    refine e_goto (tgt := 171) dX11_rounds_167 (by decide) ?_
                                                    refine e_istore_n dX11_rounds_171 rfl (Nat.le_of_ble_eq_true rfl) rfl ?_
                                                    refine e_goto (tgt := 39) dX11_rounds_172 (by decide) ?_
                                                    first | exact fin1 _ v _ (by omega) ⟨_, _, _, rfl⟩ hvq | (exfalso; simp_all; done) | (exfalso; omega)
                                        · try first | contradiction | omega | (simp only [decide_eq_true_eq, decide_eq_false_iff_not] at h134; omega)
                                          all_goals
                                            refine e_iload dX11_rounds_137 rfl ?_
                                            first | ((with_reducible refine mk_b ?_); refine b_if_eq (tgt := 146) dX11_rounds_139 (by decide) (fun h139 => ?_) (fun h139 => ?_)) | ((with_reducible refine mk_ll ?_); refine m_if_eq (tgt := 146) dX11_rounds_139 (by decide) (by omega) (by omega) (fun h139 => ?_) (fun h139 => ?_)) | ((with_reducible refine mk_lc ?_); refine l_if_eq (tgt := 146) dX11_rounds_139 (by decide) (fun h139 => ?_) (fun h139 => ?_)) | ((with_reducible refine mk_n ?_); refine n_if_eq (tgt := 146) dX11_rounds_139 (by decide) (by omega) (fun h139 => ?_) (fun h139 => ?_)) | refine e_if_eq (tgt := 146) dX11_rounds_139 (by decide) (fun h139 => ?_) (fun h139 => ?_)
                                            · try first | contradiction | omega | (simp only [decide_eq_true_eq, decide_eq_false_iff_not] at h139; omega)
                                              all_goals
                                                contradiction
                                            · try first | contradiction | omega | (simp only [decide_eq_true_eq, decide_eq_false_iff_not] at h139; omega)
                                              all_goals
                                                refine e_iconst (v := nI 0) dX11_rounds_142 rfl ?_
                                                refine e_goto (tgt := 147) dX11_rounds_143 (by decide) ?_
                                                first | ((with_reducible refine mk_nn ?_); refine n_iadd dX11_rounds_147 ?_) | refine e_iadd dX11_rounds_147 ?_
                                                refine e_istore_n dX11_rounds_148 rfl (Nat.le_of_ble_eq_true rfl) rfl ?_
                                                refine e_aload_n dX11_rounds_149 rfl rfl ?_
                                                refine e_getI dX11_rounds_150 fl_X11_365 rfl ?_
                                                rw [nxH_a]
                                                try rw [show nx1 (some q) = nI q.1 from rfl]
                                                first | ((with_reducible refine mk_b ?_); refine b_if_eq (tgt := 170) dX11_rounds_153 (by decide) (fun h153 => ?_) (fun h153 => ?_)) | ((with_reducible refine mk_ll ?_); refine m_if_eq (tgt := 170) dX11_rounds_153 (by decide) (by omega) (by omega) (fun h153 => ?_) (fun h153 => ?_)) | ((with_reducible refine mk_lc ?_); refine l_if_eq (tgt := 170) dX11_rounds_153 (by decide) (fun h153 => ?_) (fun h153 => ?_)) | ((with_reducible refine mk_n ?_); refine n_if_eq (tgt := 170) dX11_rounds_153 (by decide) (by omega) (fun h153 => ?_) (fun h153 => ?_)) | refine e_if_eq (tgt := 170) dX11_rounds_153 (by decide) (fun h153 => ?_) (fun h153 => ?_)
                                                · try first | contradiction | omega | (simp only [decide_eq_true_eq, decide_eq_false_iff_not] at h153; omega)
                                                  all_goals
                                                    refine e_iconst (v := nI 0) dX11_rounds_170 rfl ?_
                                                    refine e_istore_n dX11_rounds_171 rfl (Nat.le_of_ble_eq_true rfl) rfl ?_
                                                    refine e_goto (tgt := 39) dX11_rounds_172 (by decide) ?_
                                                    first | exact fin1 _ v _ (by omega) ⟨_, _, _, rfl⟩ hvq | (exfalso; simp_all; done) | (exfalso; omega)
                                                · try first | contradiction | omega | (simp only [decide_eq_true_eq, decide_eq_false_iff_not] at h153; omega)
                                                  all_goals
                                                    refine e_aload_n dX11_rounds_156 rfl rfl ?_
                                                    refine x_V0 (M' := mX11_evenOf) dX11_rounds_157 ml_X11_358 ok_X11_evenOf (by decide) rfl im_X11_evenOf se_X11_evenOf (ct_X11_evenOf ‹_› ‹_›) (Nat.le_of_ble_eq_true rfl) (by decide) (Nat.le_of_ble_eq_true rfl) ?_
                                                    refine e_iload_n dX11_rounds_160 rfl rfl ?_
                                                    first | ((with_reducible refine mk_n ?_); refine n_i2l dX11_rounds_161 (by omega) ?_) | refine e_i2l dX11_rounds_161 ?_
                                                    refine e_lcmp dX11_rounds_162 ?_
                                                    skip
                                                    first | ((with_reducible refine mk_lo ?_); refine o_if_le (tgt := 170) dX11_rounds_163 (by decide) (by omega) (by first | assumption | (intro _ he; cases he; done)) (fun h163 => ?_) (fun h163 => ?_)) | ((with_reducible refine mk_ll ?_); refine m_if_le (tgt := 170) dX11_rounds_163 (by decide) (by omega) (by omega) (fun h163 => ?_) (fun h163 => ?_)) | ((with_reducible refine mk_lc ?_); refine l_if_le (tgt := 170) dX11_rounds_163 (by decide) (fun h163 => ?_) (fun h163 => ?_)) | ((with_reducible refine mk_n ?_); refine n_if_le (tgt := 170) dX11_rounds_163 (by decide) (by omega) (fun h163 => ?_) (fun h163 => ?_)) | refine e_if_le (tgt := 170) dX11_rounds_163 (by decide) (fun h163 => ?_) (fun h163 => ?_)
                                                    · try first | contradiction | omega
                                                      all_goals
                                                        refine e_iconst (v := nI 0) dX11_rounds_170 rfl ?_
                                                        refine e_istore_n dX11_rounds_171 rfl (Nat.le_of_ble_eq_true rfl) rfl ?_
                                                        refine e_goto (tgt := 39) dX11_rounds_172 (by decide) ?_
                                                        first | exact fin1 _ v _ (by omega) ⟨_, _, _, rfl⟩ hvq | (exfalso; simp_all; done) | (exfalso; omega)
                                                    · try first | contradiction | omega
                                                      all_goals
                                                        refine e_iconst (v := nI 1) dX11_rounds_166 rfl ?_
                                                        refine e_goto (tgt := 171) dX11_rounds_167 (by decide) ?_
                                                        refine e_istore_n dX11_rounds_171 rfl (Nat.le_of_ble_eq_true rfl) rfl ?_
                                                        refine e_goto (tgt := 39) dX11_rounds_172 (by decide) ?_
                                                        first | exact fin1 _ v _ (by omega) ⟨_, _, _, rfl⟩ hvq | (exfalso; simp_all; done) | (exfalso; omega)
                                    · try first | contradiction | omega | (simp only [decide_eq_true_eq, decide_eq_false_iff_not] at h114; omega)
                                      all_goals
                                        contradiction
                            · try first | contradiction | omega
                              all_goals
                                refine e_iload dX11_rounds_80 rfl ?_
                                first | ((with_reducible refine mk_b ?_); refine b_if_ne (tgt := 104) dX11_rounds_82 (by decide) (fun h82 => ?_) (fun h82 => ?_)) | ((with_reducible refine mk_ll ?_); refine m_if_ne (tgt := 104) dX11_rounds_82 (by decide) (by omega) (by omega) (fun h82 => ?_) (fun h82 => ?_)) | ((with_reducible refine mk_lc ?_); refine l_if_ne (tgt := 104) dX11_rounds_82 (by decide) (fun h82 => ?_) (fun h82 => ?_)) | ((with_reducible refine mk_n ?_); refine n_if_ne (tgt := 104) dX11_rounds_82 (by decide) (by omega) (fun h82 => ?_) (fun h82 => ?_)) | refine e_if_ne (tgt := 104) dX11_rounds_82 (by decide) (fun h82 => ?_) (fun h82 => ?_)
                                · try first | contradiction | omega | (simp only [decide_eq_true_eq, decide_eq_false_iff_not] at h82; omega)
                                  all_goals
                                    refine e_aload_n dX11_rounds_104 rfl rfl ?_
                                    refine e_getI dX11_rounds_105 fl_X11_365 rfl ?_
                                    rw [nxH_a]
                                    try rw [show nx1 (some q) = nI q.1 from rfl]
                                    refine e_iconst (v := nI 2) dX11_rounds_108 rfl ?_
                                    first | ((with_reducible refine mk_mo ?_); refine p_icmp_ne (tgt := 129) dX11_rounds_109 (by decide) (fun h109 => ?_) (fun h109 => ?_)) | ((with_reducible refine mk_ms ?_); refine s_icmp_ne (tgt := 129) dX11_rounds_109 (by decide) (by omega) (fun h109 => ?_) (fun h109 => ?_)) | ((with_reducible refine mk_mn ?_); refine q_icmp_ne (tgt := 129) dX11_rounds_109 (by decide) (by omega) (fun h109 => ?_) (fun h109 => ?_)) | ((with_reducible refine mk_nn ?_); refine n_icmp_ne (tgt := 129) dX11_rounds_109 (by decide) (by omega) (by omega) (fun h109 => ?_) (fun h109 => ?_)) | refine e_icmp_ne (tgt := 129) dX11_rounds_109 (by decide) (fun h109 => ?_) (fun h109 => ?_)
                                    · try first | contradiction | omega
                                      all_goals
                                        refine e_iload_n dX11_rounds_129 rfl rfl ?_
                                        refine e_aload_n dX11_rounds_130 rfl rfl ?_
                                        refine e_getI dX11_rounds_131 fl_X11_365 rfl ?_
                                        rw [nxH_a]
                                        try rw [show nx1 (some q) = nI q.1 from rfl]
                                        first | ((with_reducible refine mk_b ?_); refine b_if_eq (tgt := 142) dX11_rounds_134 (by decide) (fun h134 => ?_) (fun h134 => ?_)) | ((with_reducible refine mk_ll ?_); refine m_if_eq (tgt := 142) dX11_rounds_134 (by decide) (by omega) (by omega) (fun h134 => ?_) (fun h134 => ?_)) | ((with_reducible refine mk_lc ?_); refine l_if_eq (tgt := 142) dX11_rounds_134 (by decide) (fun h134 => ?_) (fun h134 => ?_)) | ((with_reducible refine mk_n ?_); refine n_if_eq (tgt := 142) dX11_rounds_134 (by decide) (by omega) (fun h134 => ?_) (fun h134 => ?_)) | refine e_if_eq (tgt := 142) dX11_rounds_134 (by decide) (fun h134 => ?_) (fun h134 => ?_)
                                        · try first | contradiction | omega | (simp only [decide_eq_true_eq, decide_eq_false_iff_not] at h134; omega)
                                          all_goals
                                            refine e_iconst (v := nI 0) dX11_rounds_142 rfl ?_
                                            refine e_goto (tgt := 147) dX11_rounds_143 (by decide) ?_
                                            first | ((with_reducible refine mk_nn ?_); refine n_iadd dX11_rounds_147 ?_) | refine e_iadd dX11_rounds_147 ?_
                                            refine e_istore_n dX11_rounds_148 rfl (Nat.le_of_ble_eq_true rfl) rfl ?_
                                            refine e_aload_n dX11_rounds_149 rfl rfl ?_
                                            refine e_getI dX11_rounds_150 fl_X11_365 rfl ?_
                                            rw [nxH_a]
                                            try rw [show nx1 (some q) = nI q.1 from rfl]
                                            first | ((with_reducible refine mk_b ?_); refine b_if_eq (tgt := 170) dX11_rounds_153 (by decide) (fun h153 => ?_) (fun h153 => ?_)) | ((with_reducible refine mk_ll ?_); refine m_if_eq (tgt := 170) dX11_rounds_153 (by decide) (by omega) (by omega) (fun h153 => ?_) (fun h153 => ?_)) | ((with_reducible refine mk_lc ?_); refine l_if_eq (tgt := 170) dX11_rounds_153 (by decide) (fun h153 => ?_) (fun h153 => ?_)) | ((with_reducible refine mk_n ?_); refine n_if_eq (tgt := 170) dX11_rounds_153 (by decide) (by omega) (fun h153 => ?_) (fun h153 => ?_)) | refine e_if_eq (tgt := 170) dX11_rounds_153 (by decide) (fun h153 => ?_) (fun h153 => ?_)
                                            · try first | contradiction | omega | (simp only [decide_eq_true_eq, decide_eq_false_iff_not] at h153; omega)
                                              all_goals
                                                refine e_iconst (v := nI 0) dX11_rounds_170 rfl ?_
                                                refine e_istore_n dX11_rounds_171 rfl (Nat.le_of_ble_eq_true rfl) rfl ?_
                                                refine e_goto (tgt := 39) dX11_rounds_172 (by decide) ?_
                                                first | exact fin1 _ v _ (by omega) ⟨_, _, _, rfl⟩ hvq | (exfalso; simp_all; done) | (exfalso; omega)
                                            · try first | contradiction | omega | (simp only [decide_eq_true_eq, decide_eq_false_iff_not] at h153; omega)
                                              all_goals
                                                refine e_aload_n dX11_rounds_156 rfl rfl ?_
                                                refine x_V0 (M' := mX11_evenOf) dX11_rounds_157 ml_X11_358 ok_X11_evenOf (by decide) rfl im_X11_evenOf se_X11_evenOf (ct_X11_evenOf ‹_› ‹_›) (Nat.le_of_ble_eq_true rfl) (by decide) (Nat.le_of_ble_eq_true rfl) ?_
                                                refine e_iload_n dX11_rounds_160 rfl rfl ?_
                                                first | ((with_reducible refine mk_n ?_); refine n_i2l dX11_rounds_161 (by omega) ?_) | refine e_i2l dX11_rounds_161 ?_
                                                refine e_lcmp dX11_rounds_162 ?_
                                                skip
                                                first | ((with_reducible refine mk_lo ?_); refine o_if_le (tgt := 170) dX11_rounds_163 (by decide) (by omega) (by first | assumption | (intro _ he; cases he; done)) (fun h163 => ?_) (fun h163 => ?_)) | ((with_reducible refine mk_ll ?_); refine m_if_le (tgt := 170) dX11_rounds_163 (by decide) (by omega) (by omega) (fun h163 => ?_) (fun h163 => ?_)) | ((with_reducible refine mk_lc ?_); refine l_if_le (tgt := 170) dX11_rounds_163 (by decide) (fun h163 => ?_) (fun h163 => ?_)) | ((with_reducible refine mk_n ?_); refine n_if_le (tgt := 170) dX11_rounds_163 (by decide) (by omega) (fun h163 => ?_) (fun h163 => ?_)) | refine e_if_le (tgt := 170) dX11_rounds_163 (by decide) (fun h163 => ?_) (fun h163 => ?_)
                                                · try first | contradiction | omega
                                                  all_goals
                                                    refine e_iconst (v := nI 0) dX11_rounds_170 rfl ?_
                                                    refine e_istore_n dX11_rounds_171 rfl (Nat.le_of_ble_eq_true rfl) rfl ?_
                                                    refine e_goto (tgt := 39) dX11_rounds_172 (by decide) ?_
                                                    first | exact fin1 _ v _ (by omega) ⟨_, _, _, rfl⟩ hvq | (exfalso; simp_all; done) | (exfalso; omega)
                                                · try first | contradiction | omega
                                                  all_goals
                                                    refine e_iconst (v := nI 1) dX11_rounds_166 rfl ?_
                                                    refine e_goto (tgt := 171) dX11_rounds_167 (by decide) ?_
                                                    refine e_istore_n dX11_rounds_171 rfl (Nat.le_of_ble_eq_true rfl) rfl ?_
                                                    refine e_goto (tgt := 39) dX11_rounds_172 (by decide) ?_
                                                    first | exact fin1 _ v _ (by omega) ⟨_, _, _, rfl⟩ hvq | (exfalso; simp_all; done) | (exfalso; omega)
                                        · try first | contradiction | omega | (simp only [decide_eq_true_eq, decide_eq_false_iff_not] at h134; omega)
                                          all_goals
                                            refine e_iload dX11_rounds_137 rfl ?_
                                            first | ((with_reducible refine mk_b ?_); refine b_if_eq (tgt := 146) dX11_rounds_139 (by decide) (fun h139 => ?_) (fun h139 => ?_)) | ((with_reducible refine mk_ll ?_); refine m_if_eq (tgt := 146) dX11_rounds_139 (by decide) (by omega) (by omega) (fun h139 => ?_) (fun h139 => ?_)) | ((with_reducible refine mk_lc ?_); refine l_if_eq (tgt := 146) dX11_rounds_139 (by decide) (fun h139 => ?_) (fun h139 => ?_)) | ((with_reducible refine mk_n ?_); refine n_if_eq (tgt := 146) dX11_rounds_139 (by decide) (by omega) (fun h139 => ?_) (fun h139 => ?_)) | refine e_if_eq (tgt := 146) dX11_rounds_139 (by decide) (fun h139 => ?_) (fun h139 => ?_)
                                            · try first | contradiction | omega | (simp only [decide_eq_true_eq, decide_eq_false_iff_not] at h139; omega)
                                              all_goals
                                                contradiction
                                            · try first | contradiction | omega | (simp only [decide_eq_true_eq, decide_eq_false_iff_not] at h139; omega)
                                              all_goals
                                                refine e_iconst (v := nI 0) dX11_rounds_142 rfl ?_
                                                refine e_goto (tgt := 147) dX11_rounds_143 (by decide) ?_
                                                first | ((with_reducible refine mk_nn ?_); refine n_iadd dX11_rounds_147 ?_) | refine e_iadd dX11_rounds_147 ?_
                                                refine e_istore_n dX11_rounds_148 rfl (Nat.le_of_ble_eq_true rfl) rfl ?_
                                                refine e_aload_n dX11_rounds_149 rfl rfl ?_
                                                refine e_getI dX11_rounds_150 fl_X11_365 rfl ?_
                                                rw [nxH_a]
                                                try rw [show nx1 (some q) = nI q.1 from rfl]
                                                first | ((with_reducible refine mk_b ?_); refine b_if_eq (tgt := 170) dX11_rounds_153 (by decide) (fun h153 => ?_) (fun h153 => ?_)) | ((with_reducible refine mk_ll ?_); refine m_if_eq (tgt := 170) dX11_rounds_153 (by decide) (by omega) (by omega) (fun h153 => ?_) (fun h153 => ?_)) | ((with_reducible refine mk_lc ?_); refine l_if_eq (tgt := 170) dX11_rounds_153 (by decide) (fun h153 => ?_) (fun h153 => ?_)) | ((with_reducible refine mk_n ?_); refine n_if_eq (tgt := 170) dX11_rounds_153 (by decide) (by omega) (fun h153 => ?_) (fun h153 => ?_)) | refine e_if_eq (tgt := 170) dX11_rounds_153 (by decide) (fun h153 => ?_) (fun h153 => ?_)
                                                · try first | contradiction | omega | (simp only [decide_eq_true_eq, decide_eq_false_iff_not] at h153; omega)
                                                  all_goals
                                                    refine e_iconst (v := nI 0) dX11_rounds_170 rfl ?_
                                                    refine e_istore_n dX11_rounds_171 rfl (Nat.le_of_ble_eq_true rfl) rfl ?_
                                                    refine e_goto (tgt := 39) dX11_rounds_172 (by decide) ?_
                                                    first | exact fin1 _ v _ (by omega) ⟨_, _, _, rfl⟩ hvq | (exfalso; simp_all; done) | (exfalso; omega)
                                                · try first | contradiction | omega | (simp only [decide_eq_true_eq, decide_eq_false_iff_not] at h153; omega)
                                                  all_goals
                                                    refine e_aload_n dX11_rounds_156 rfl rfl ?_
                                                    refine x_V0 (M' := mX11_evenOf) dX11_rounds_157 ml_X11_358 ok_X11_evenOf (by decide) rfl im_X11_evenOf se_X11_evenOf (ct_X11_evenOf ‹_› ‹_›) (Nat.le_of_ble_eq_true rfl) (by decide) (Nat.le_of_ble_eq_true rfl) ?_
                                                    refine e_iload_n dX11_rounds_160 rfl rfl ?_
                                                    first | ((with_reducible refine mk_n ?_); refine n_i2l dX11_rounds_161 (by omega) ?_) | refine e_i2l dX11_rounds_161 ?_
                                                    refine e_lcmp dX11_rounds_162 ?_
                                                    skip
                                                    first | ((with_reducible refine mk_lo ?_); refine o_if_le (tgt := 170) dX11_rounds_163 (by decide) (by omega) (by first | assumption | (intro _ he; cases he; done)) (fun h163 => ?_) (fun h163 => ?_)) | ((with_reducible refine mk_ll ?_); refine m_if_le (tgt := 170) dX11_rounds_163 (by decide) (by omega) (by omega) (fun h163 => ?_) (fun h163 => ?_)) | ((with_reducible refine mk_lc ?_); refine l_if_le (tgt := 170) dX11_rounds_163 (by decide) (fun h163 => ?_) (fun h163 => ?_)) | ((with_reducible refine mk_n ?_); refine n_if_le (tgt := 170) dX11_rounds_163 (by decide) (by omega) (fun h163 => ?_) (fun h163 => ?_)) | refine e_if_le (tgt := 170) dX11_rounds_163 (by decide) (fun h163 => ?_) (fun h163 => ?_)
                                                    · try first | contradiction | omega
                                                      all_goals
                                                        refine e_iconst (v := nI 0) dX11_rounds_170 rfl ?_
                                                        refine e_istore_n dX11_rounds_171 rfl (Nat.le_of_ble_eq_true rfl) rfl ?_
                                                        refine e_goto (tgt := 39) dX11_rounds_172 (by decide) ?_
                                                        first | exact fin1 _ v _ (by omega) ⟨_, _, _, rfl⟩ hvq | (exfalso; simp_all; done) | (exfalso; omega)
                                                    · try first | contradiction | omega
                                                      all_goals
                                                        refine e_iconst (v := nI 1) dX11_rounds_166 rfl ?_
                                                        refine e_goto (tgt := 171) dX11_rounds_167 (by decide) ?_
                                                        refine e_istore_n dX11_rounds_171 rfl (Nat.le_of_ble_eq_true rfl) rfl ?_
                                                        refine e_goto (tgt := 39) dX11_rounds_172 (by decide) ?_
                                                        first | exact fin1 _ v _ (by omega) ⟨_, _, _, rfl⟩ hvq | (exfalso; simp_all; done) | (exfalso; omega)
                                    · try first | contradiction | omega
                                      all_goals
                                        refine e_iload dX11_rounds_112 rfl ?_
                                        first | ((with_reducible refine mk_b ?_); refine b_if_ne (tgt := 129) dX11_rounds_114 (by decide) (fun h114 => ?_) (fun h114 => ?_)) | ((with_reducible refine mk_ll ?_); refine m_if_ne (tgt := 129) dX11_rounds_114 (by decide) (by omega) (by omega) (fun h114 => ?_) (fun h114 => ?_)) | ((with_reducible refine mk_lc ?_); refine l_if_ne (tgt := 129) dX11_rounds_114 (by decide) (fun h114 => ?_) (fun h114 => ?_)) | ((with_reducible refine mk_n ?_); refine n_if_ne (tgt := 129) dX11_rounds_114 (by decide) (by omega) (fun h114 => ?_) (fun h114 => ?_)) | refine e_if_ne (tgt := 129) dX11_rounds_114 (by decide) (fun h114 => ?_) (fun h114 => ?_)
                                        · try first | contradiction | omega | (simp only [decide_eq_true_eq, decide_eq_false_iff_not] at h114; omega)
                                          all_goals
                                            refine e_iload_n dX11_rounds_129 rfl rfl ?_
                                            refine e_aload_n dX11_rounds_130 rfl rfl ?_
                                            refine e_getI dX11_rounds_131 fl_X11_365 rfl ?_
                                            rw [nxH_a]
                                            try rw [show nx1 (some q) = nI q.1 from rfl]
                                            first | ((with_reducible refine mk_b ?_); refine b_if_eq (tgt := 142) dX11_rounds_134 (by decide) (fun h134 => ?_) (fun h134 => ?_)) | ((with_reducible refine mk_ll ?_); refine m_if_eq (tgt := 142) dX11_rounds_134 (by decide) (by omega) (by omega) (fun h134 => ?_) (fun h134 => ?_)) | ((with_reducible refine mk_lc ?_); refine l_if_eq (tgt := 142) dX11_rounds_134 (by decide) (fun h134 => ?_) (fun h134 => ?_)) | ((with_reducible refine mk_n ?_); refine n_if_eq (tgt := 142) dX11_rounds_134 (by decide) (by omega) (fun h134 => ?_) (fun h134 => ?_)) | refine e_if_eq (tgt := 142) dX11_rounds_134 (by decide) (fun h134 => ?_) (fun h134 => ?_)
                                            · try first | contradiction | omega | (simp only [decide_eq_true_eq, decide_eq_false_iff_not] at h134; omega)
                                              all_goals
                                                refine e_iconst (v := nI 0) dX11_rounds_142 rfl ?_
                                                refine e_goto (tgt := 147) dX11_rounds_143 (by decide) ?_
                                                first | ((with_reducible refine mk_nn ?_); refine n_iadd dX11_rounds_147 ?_) | refine e_iadd dX11_rounds_147 ?_
                                                refine e_istore_n dX11_rounds_148 rfl (Nat.le_of_ble_eq_true rfl) rfl ?_
                                                refine e_aload_n dX11_rounds_149 rfl rfl ?_
                                                refine e_getI dX11_rounds_150 fl_X11_365 rfl ?_
                                                rw [nxH_a]
                                                try rw [show nx1 (some q) = nI q.1 from rfl]
                                                first | ((with_reducible refine mk_b ?_); refine b_if_eq (tgt := 170) dX11_rounds_153 (by decide) (fun h153 => ?_) (fun h153 => ?_)) | ((with_reducible refine mk_ll ?_); refine m_if_eq (tgt := 170) dX11_rounds_153 (by decide) (by omega) (by omega) (fun h153 => ?_) (fun h153 => ?_)) | ((with_reducible refine mk_lc ?_); refine l_if_eq (tgt := 170) dX11_rounds_153 (by decide) (fun h153 => ?_) (fun h153 => ?_)) | ((with_reducible refine mk_n ?_); refine n_if_eq (tgt := 170) dX11_rounds_153 (by decide) (by omega) (fun h153 => ?_) (fun h153 => ?_)) | refine e_if_eq (tgt := 170) dX11_rounds_153 (by decide) (fun h153 => ?_) (fun h153 => ?_)
                                                · try first | contradiction | omega | (simp only [decide_eq_true_eq, decide_eq_false_iff_not] at h153; omega)
                                                  all_goals
                                                    refine e_iconst (v := nI 0) dX11_rounds_170 rfl ?_
                                                    refine e_istore_n dX11_rounds_171 rfl (Nat.le_of_ble_eq_true rfl) rfl ?_
                                                    refine e_goto (tgt := 39) dX11_rounds_172 (by decide) ?_
                                                    first | exact fin1 _ v _ (by omega) ⟨_, _, _, rfl⟩ hvq | (exfalso; simp_all; done) | (exfalso; omega)
                                                · try first | contradiction | omega | (simp only [decide_eq_true_eq, decide_eq_false_iff_not] at h153; omega)
                                                  all_goals
                                                    refine e_aload_n dX11_rounds_156 rfl rfl ?_
                                                    refine x_V0 (M' := mX11_evenOf) dX11_rounds_157 ml_X11_358 ok_X11_evenOf (by decide) rfl im_X11_evenOf se_X11_evenOf (ct_X11_evenOf ‹_› ‹_›) (Nat.le_of_ble_eq_true rfl) (by decide) (Nat.le_of_ble_eq_true rfl) ?_
                                                    refine e_iload_n dX11_rounds_160 rfl rfl ?_
                                                    first | ((with_reducible refine mk_n ?_); refine n_i2l dX11_rounds_161 (by omega) ?_) | refine e_i2l dX11_rounds_161 ?_
                                                    refine e_lcmp dX11_rounds_162 ?_
                                                    skip
                                                    first | ((with_reducible refine mk_lo ?_); refine o_if_le (tgt := 170) dX11_rounds_163 (by decide) (by omega) (by first | assumption | (intro _ he; cases he; done)) (fun h163 => ?_) (fun h163 => ?_)) | ((with_reducible refine mk_ll ?_); refine m_if_le (tgt := 170) dX11_rounds_163 (by decide) (by omega) (by omega) (fun h163 => ?_) (fun h163 => ?_)) | ((with_reducible refine mk_lc ?_); refine l_if_le (tgt := 170) dX11_rounds_163 (by decide) (fun h163 => ?_) (fun h163 => ?_)) | ((with_reducible refine mk_n ?_); refine n_if_le (tgt := 170) dX11_rounds_163 (by decide) (by omega) (fun h163 => ?_) (fun h163 => ?_)) | refine e_if_le (tgt := 170) dX11_rounds_163 (by decide) (fun h163 => ?_) (fun h163 => ?_)
                                                    · try first | contradiction | omega
                                                      all_goals
                                                        refine e_iconst (v := nI 0) dX11_rounds_170 rfl ?_
                                                        refine e_istore_n dX11_rounds_171 rfl (Nat.le_of_ble_eq_true rfl) rfl ?_
                                                        refine e_goto (tgt := 39) dX11_rounds_172 (by decide) ?_
                                                        first | exact fin1 _ v _ (by omega) ⟨_, _, _, rfl⟩ hvq | (exfalso; simp_all; done) | (exfalso; omega)
                                                    · try first | contradiction | omega
                                                      all_goals
                                                        refine e_iconst (v := nI 1) dX11_rounds_166 rfl ?_
                                                        refine e_goto (tgt := 171) dX11_rounds_167 (by decide) ?_
                                                        refine e_istore_n dX11_rounds_171 rfl (Nat.le_of_ble_eq_true rfl) rfl ?_
                                                        refine e_goto (tgt := 39) dX11_rounds_172 (by decide) ?_
                                                        first | exact fin1 _ v _ (by omega) ⟨_, _, _, rfl⟩ hvq | (exfalso; simp_all; done) | (exfalso; omega)
                                            · try first | contradiction | omega | (simp only [decide_eq_true_eq, decide_eq_false_iff_not] at h134; omega)
                                              all_goals
                                                refine e_iload dX11_rounds_137 rfl ?_
                                                first | ((with_reducible refine mk_b ?_); refine b_if_eq (tgt := 146) dX11_rounds_139 (by decide) (fun h139 => ?_) (fun h139 => ?_)) | ((with_reducible refine mk_ll ?_); refine m_if_eq (tgt := 146) dX11_rounds_139 (by decide) (by omega) (by omega) (fun h139 => ?_) (fun h139 => ?_)) | ((with_reducible refine mk_lc ?_); refine l_if_eq (tgt := 146) dX11_rounds_139 (by decide) (fun h139 => ?_) (fun h139 => ?_)) | ((with_reducible refine mk_n ?_); refine n_if_eq (tgt := 146) dX11_rounds_139 (by decide) (by omega) (fun h139 => ?_) (fun h139 => ?_)) | refine e_if_eq (tgt := 146) dX11_rounds_139 (by decide) (fun h139 => ?_) (fun h139 => ?_)
                                                · try first | contradiction | omega | (simp only [decide_eq_true_eq, decide_eq_false_iff_not] at h139; omega)
                                                  all_goals
                                                    contradiction
                                                · try first | contradiction | omega | (simp only [decide_eq_true_eq, decide_eq_false_iff_not] at h139; omega)
                                                  all_goals
                                                    refine e_iconst (v := nI 0) dX11_rounds_142 rfl ?_
                                                    refine e_goto (tgt := 147) dX11_rounds_143 (by decide) ?_
                                                    first | ((with_reducible refine mk_nn ?_); refine n_iadd dX11_rounds_147 ?_) | refine e_iadd dX11_rounds_147 ?_
                                                    refine e_istore_n dX11_rounds_148 rfl (Nat.le_of_ble_eq_true rfl) rfl ?_
                                                    refine e_aload_n dX11_rounds_149 rfl rfl ?_
                                                    refine e_getI dX11_rounds_150 fl_X11_365 rfl ?_
                                                    rw [nxH_a]
                                                    try rw [show nx1 (some q) = nI q.1 from rfl]
                                                    first | ((with_reducible refine mk_b ?_); refine b_if_eq (tgt := 170) dX11_rounds_153 (by decide) (fun h153 => ?_) (fun h153 => ?_)) | ((with_reducible refine mk_ll ?_); refine m_if_eq (tgt := 170) dX11_rounds_153 (by decide) (by omega) (by omega) (fun h153 => ?_) (fun h153 => ?_)) | ((with_reducible refine mk_lc ?_); refine l_if_eq (tgt := 170) dX11_rounds_153 (by decide) (fun h153 => ?_) (fun h153 => ?_)) | ((with_reducible refine mk_n ?_); refine n_if_eq (tgt := 170) dX11_rounds_153 (by decide) (by omega) (fun h153 => ?_) (fun h153 => ?_)) | refine e_if_eq (tgt := 170) dX11_rounds_153 (by decide) (fun h153 => ?_) (fun h153 => ?_)
                                                    · try first | contradiction | omega | (simp only [decide_eq_true_eq, decide_eq_false_iff_not] at h153; omega)
                                                      all_goals
                                                        refine e_iconst (v := nI 0) dX11_rounds_170 rfl ?_
                                                        refine e_istore_n dX11_rounds_171 rfl (Nat.le_of_ble_eq_true rfl) rfl ?_
                                                        refine e_goto (tgt := 39) dX11_rounds_172 (by decide) ?_
                                                        first | exact fin1 _ v _ (by omega) ⟨_, _, _, rfl⟩ hvq | (exfalso; simp_all; done) | (exfalso; omega)
                                                    · try first | contradiction | omega | (simp only [decide_eq_true_eq, decide_eq_false_iff_not] at h153; omega)
                                                      all_goals
                                                        refine e_aload_n dX11_rounds_156 rfl rfl ?_
                                                        refine x_V0 (M' := mX11_evenOf) dX11_rounds_157 ml_X11_358 ok_X11_evenOf (by decide) rfl im_X11_evenOf se_X11_evenOf (ct_X11_evenOf ‹_› ‹_›) (Nat.le_of_ble_eq_true rfl) (by decide) (Nat.le_of_ble_eq_true rfl) ?_
                                                        refine e_iload_n dX11_rounds_160 rfl rfl ?_
                                                        first | ((with_reducible refine mk_n ?_); refine n_i2l dX11_rounds_161 (by omega) ?_) | refine e_i2l dX11_rounds_161 ?_
                                                        refine e_lcmp dX11_rounds_162 ?_
                                                        skip
                                                        first | ((with_reducible refine mk_lo ?_); refine o_if_le (tgt := 170) dX11_rounds_163 (by decide) (by omega) (by first | assumption | (intro _ he; cases he; done)) (fun h163 => ?_) (fun h163 => ?_)) | ((with_reducible refine mk_ll ?_); refine m_if_le (tgt := 170) dX11_rounds_163 (by decide) (by omega) (by omega) (fun h163 => ?_) (fun h163 => ?_)) | ((with_reducible refine mk_lc ?_); refine l_if_le (tgt := 170) dX11_rounds_163 (by decide) (fun h163 => ?_) (fun h163 => ?_)) | ((with_reducible refine mk_n ?_); refine n_if_le (tgt := 170) dX11_rounds_163 (by decide) (by omega) (fun h163 => ?_) (fun h163 => ?_)) | refine e_if_le (tgt := 170) dX11_rounds_163 (by decide) (fun h163 => ?_) (fun h163 => ?_)
                                                        · try first | contradiction | omega
                                                          all_goals
                                                            refine e_iconst (v := nI 0) dX11_rounds_170 rfl ?_
                                                            refine e_istore_n dX11_rounds_171 rfl (Nat.le_of_ble_eq_true rfl) rfl ?_
                                                            refine e_goto (tgt := 39) dX11_rounds_172 (by decide) ?_
                                                            first | exact fin1 _ v _ (by omega) ⟨_, _, _, rfl⟩ hvq | (exfalso; simp_all; done) | (exfalso; omega)
                                                        · try first | contradiction | omega
                                                          all_goals
                                                            refine e_iconst (v := nI 1) dX11_rounds_166 rfl ?_
                                                            refine e_goto (tgt := 171) dX11_rounds_167 (by decide) ?_
                                                            refine e_istore_n dX11_rounds_171 rfl (Nat.le_of_ble_eq_true rfl) rfl ?_
                                                            refine e_goto (tgt := 39) dX11_rounds_172 (by decide) ?_
                                                            first | exact fin1 _ v _ (by omega) ⟨_, _, _, rfl⟩ hvq | (exfalso; simp_all; done) | (exfalso; omega)
                                        · try first | contradiction | omega | (simp only [decide_eq_true_eq, decide_eq_false_iff_not] at h114; omega)
                                          all_goals
                                            contradiction
                                · try first | contradiction | omega | (simp only [decide_eq_true_eq, decide_eq_false_iff_not] at h82; omega)
                                  all_goals
                                    contradiction
      | succ r ih =>
        intro fi' v n R hn hv1 hv0 hfi hvq hR
        cases hev : evQ (evF v) b with
        | false =>
          have : R = nI n := by rw [← hR]; unfold rnF; rw [if_neg (by rw [hev]; simp)]; show nI (0 + n) = _; rw [Nat.zero_add]
          rw [this]
          exact fin0 fi' v n _ (by omega) hfi hvq
        | true =>
          have hol := evF_le hv1
          obtain ⟨fa, fb, fc, rfl⟩ := hfi
          cases hnx : nxO v with
          | none =>
            have : R = nI n := by rw [← hR]; unfold rnF; rw [if_pos hev, hnx]; show nI (0 + n) = _; rw [Nat.zero_add]
            rw [this]
            refine e_iload_n dX11_rounds_39 rfl rfl ?_
            first | ((with_reducible refine mk_b ?_); refine b_if_eq (tgt := 175) dX11_rounds_40 (by decide) (fun h40 => ?_) (fun h40 => ?_)) | ((with_reducible refine mk_ll ?_); refine m_if_eq (tgt := 175) dX11_rounds_40 (by decide) (by omega) (by omega) (fun h40 => ?_) (fun h40 => ?_)) | ((with_reducible refine mk_lc ?_); refine l_if_eq (tgt := 175) dX11_rounds_40 (by decide) (fun h40 => ?_) (fun h40 => ?_)) | ((with_reducible refine mk_n ?_); refine n_if_eq (tgt := 175) dX11_rounds_40 (by decide) (by omega) (fun h40 => ?_) (fun h40 => ?_)) | refine e_if_eq (tgt := 175) dX11_rounds_40 (by decide) (fun h40 => ?_) (fun h40 => ?_)
            · try first | contradiction | omega | (simp only [decide_eq_true_eq, decide_eq_false_iff_not] at h40; omega)
              all_goals
                refine e_aload_n dX11_rounds_175 rfl rfl ?_
                refine y_V0 (M' := mX11_comesBack) dX11_rounds_176 ml_X11_386 ok_X11_comesBack (by decide) rfl im_X11_comesBack se_X11_comesBack (ct_X11_comesBack ‹_› hv) (Nat.le_of_ble_eq_true rfl) (by decide) (Nat.le_of_ble_eq_true rfl) ?_
                refine e_iload_n dX11_rounds_179 rfl rfl ?_
                first | ((with_reducible refine mk_b ?_); refine b_if_eq (tgt := 187) dX11_rounds_180 (by decide) (fun h180 => ?_) (fun h180 => ?_)) | ((with_reducible refine mk_ll ?_); refine m_if_eq (tgt := 187) dX11_rounds_180 (by decide) (by omega) (by omega) (fun h180 => ?_) (fun h180 => ?_)) | ((with_reducible refine mk_lc ?_); refine l_if_eq (tgt := 187) dX11_rounds_180 (by decide) (fun h180 => ?_) (fun h180 => ?_)) | ((with_reducible refine mk_n ?_); refine n_if_eq (tgt := 187) dX11_rounds_180 (by decide) (by omega) (fun h180 => ?_) (fun h180 => ?_)) | refine e_if_eq (tgt := 187) dX11_rounds_180 (by decide) (fun h180 => ?_) (fun h180 => ?_)
                · try first | contradiction | omega | (simp only [decide_eq_true_eq, decide_eq_false_iff_not] at h180; omega)
                  all_goals
                    refine e_iload_n dX11_rounds_187 rfl rfl ?_
                    refine e_ret (some _) rfl (r_int dX11_rounds_188 rfl) ?_
                    first | contradiction | exact ⟨rfl, hfi, rfl, ⟨_, by rw [ov_w hvq]⟩, rfl, rfl⟩
                · try first | contradiction | omega | (simp only [decide_eq_true_eq, decide_eq_false_iff_not] at h180; omega)
                  all_goals
                    refine e_iconst (v := -1) dX11_rounds_183 rfl ?_
                    refine e_goto (tgt := 188) dX11_rounds_184 (by decide) ?_
                    refine e_ret (some _) rfl (r_int dX11_rounds_188 rfl) ?_
                    first | contradiction | exact ⟨rfl, hfi, rfl, ⟨_, by rw [ov_w hvq]⟩, rfl, rfl⟩
            · try first | contradiction | omega | (simp only [decide_eq_true_eq, decide_eq_false_iff_not] at h40; omega)
              all_goals
                refine e_iload dX11_rounds_43 rfl ?_
                first | ((with_reducible refine mk_b ?_); refine b_if_ne (tgt := 175) dX11_rounds_45 (by decide) (fun h45 => ?_) (fun h45 => ?_)) | ((with_reducible refine mk_ll ?_); refine m_if_ne (tgt := 175) dX11_rounds_45 (by decide) (by omega) (by omega) (fun h45 => ?_) (fun h45 => ?_)) | ((with_reducible refine mk_lc ?_); refine l_if_ne (tgt := 175) dX11_rounds_45 (by decide) (fun h45 => ?_) (fun h45 => ?_)) | ((with_reducible refine mk_n ?_); refine n_if_ne (tgt := 175) dX11_rounds_45 (by decide) (by omega) (fun h45 => ?_) (fun h45 => ?_)) | refine e_if_ne (tgt := 175) dX11_rounds_45 (by decide) (fun h45 => ?_) (fun h45 => ?_)
                · try first | contradiction | omega | (simp only [decide_eq_true_eq, decide_eq_false_iff_not] at h45; omega)
                  all_goals
                    refine e_aload_n dX11_rounds_175 rfl rfl ?_
                    refine y_V0 (M' := mX11_comesBack) dX11_rounds_176 ml_X11_386 ok_X11_comesBack (by decide) rfl im_X11_comesBack se_X11_comesBack (ct_X11_comesBack ‹_› hv) (Nat.le_of_ble_eq_true rfl) (by decide) (Nat.le_of_ble_eq_true rfl) ?_
                    refine e_iload_n dX11_rounds_179 rfl rfl ?_
                    first | ((with_reducible refine mk_b ?_); refine b_if_eq (tgt := 187) dX11_rounds_180 (by decide) (fun h180 => ?_) (fun h180 => ?_)) | ((with_reducible refine mk_ll ?_); refine m_if_eq (tgt := 187) dX11_rounds_180 (by decide) (by omega) (by omega) (fun h180 => ?_) (fun h180 => ?_)) | ((with_reducible refine mk_lc ?_); refine l_if_eq (tgt := 187) dX11_rounds_180 (by decide) (fun h180 => ?_) (fun h180 => ?_)) | ((with_reducible refine mk_n ?_); refine n_if_eq (tgt := 187) dX11_rounds_180 (by decide) (by omega) (fun h180 => ?_) (fun h180 => ?_)) | refine e_if_eq (tgt := 187) dX11_rounds_180 (by decide) (fun h180 => ?_) (fun h180 => ?_)
                    · try first | contradiction | omega | (simp only [decide_eq_true_eq, decide_eq_false_iff_not] at h180; omega)
                      all_goals
                        refine e_iload_n dX11_rounds_187 rfl rfl ?_
                        refine e_ret (some _) rfl (r_int dX11_rounds_188 rfl) ?_
                        first | contradiction | exact ⟨rfl, hfi, rfl, ⟨_, by rw [ov_w hvq]⟩, rfl, rfl⟩
                    · try first | contradiction | omega | (simp only [decide_eq_true_eq, decide_eq_false_iff_not] at h180; omega)
                      all_goals
                        refine e_iconst (v := -1) dX11_rounds_183 rfl ?_
                        refine e_goto (tgt := 188) dX11_rounds_184 (by decide) ?_
                        refine e_ret (some _) rfl (r_int dX11_rounds_188 rfl) ?_
                        first | contradiction | exact ⟨rfl, hfi, rfl, ⟨_, by rw [ov_w hvq]⟩, rfl, rfl⟩
                · try first | contradiction | omega | (simp only [decide_eq_true_eq, decide_eq_false_iff_not] at h45; omega)
                  all_goals
                    refine e_aload_n dX11_rounds_48 rfl rfl ?_
                    refine y_V0 (M' := mX11_laysNext) dX11_rounds_49 ml_X11_381 ok_X11_laysNext (by decide) rfl im_X11_laysNext se_X11_laysNext (ct_X11_laysNext ‹_› hv1) (Nat.le_of_ble_eq_true rfl) (by decide) (Nat.le_of_ble_eq_true rfl) ?_
                    rw [hnx, nxH_2]
                    refine e_iload_n dX11_rounds_52 rfl rfl ?_
                    refine e_bipush (v := nI 40) dX11_rounds_53 rfl ?_
                    first | ((with_reducible refine mk_mo ?_); refine p_icmp_ne (tgt := 69) dX11_rounds_55 (by decide) (fun h55 => ?_) (fun h55 => ?_)) | ((with_reducible refine mk_ms ?_); refine s_icmp_ne (tgt := 69) dX11_rounds_55 (by decide) (by omega) (fun h55 => ?_) (fun h55 => ?_)) | ((with_reducible refine mk_mn ?_); refine q_icmp_ne (tgt := 69) dX11_rounds_55 (by decide) (by omega) (fun h55 => ?_) (fun h55 => ?_)) | ((with_reducible refine mk_nn ?_); refine n_icmp_ne (tgt := 69) dX11_rounds_55 (by decide) (by omega) (by omega) (fun h55 => ?_) (fun h55 => ?_)) | refine e_icmp_ne (tgt := 69) dX11_rounds_55 (by decide) (fun h55 => ?_) (fun h55 => ?_)
                    · try first | contradiction | omega
                      all_goals
                        refine e_iconst (v := nI 0) dX11_rounds_69 rfl ?_
                        refine e_istore dX11_rounds_70 (Nat.le_of_ble_eq_true rfl) rfl ?_
                        refine e_aload_n dX11_rounds_72 rfl rfl ?_
                        refine e_getI dX11_rounds_73 fl_X11_365 rfl ?_
                        rw [nxH_a]
                        try rw [show nx1 none = nI 0 from rfl]
                        refine e_iconst (v := nI 1) dX11_rounds_76 rfl ?_
                        first | ((with_reducible refine mk_mo ?_); refine p_icmp_ne (tgt := 104) dX11_rounds_77 (by decide) (fun h77 => ?_) (fun h77 => ?_)) | ((with_reducible refine mk_ms ?_); refine s_icmp_ne (tgt := 104) dX11_rounds_77 (by decide) (by omega) (fun h77 => ?_) (fun h77 => ?_)) | ((with_reducible refine mk_mn ?_); refine q_icmp_ne (tgt := 104) dX11_rounds_77 (by decide) (by omega) (fun h77 => ?_) (fun h77 => ?_)) | ((with_reducible refine mk_nn ?_); refine n_icmp_ne (tgt := 104) dX11_rounds_77 (by decide) (by omega) (by omega) (fun h77 => ?_) (fun h77 => ?_)) | refine e_icmp_ne (tgt := 104) dX11_rounds_77 (by decide) (fun h77 => ?_) (fun h77 => ?_)
                        · try first | contradiction | omega
                          all_goals
                            refine e_aload_n dX11_rounds_104 rfl rfl ?_
                            refine e_getI dX11_rounds_105 fl_X11_365 rfl ?_
                            rw [nxH_a]
                            try rw [show nx1 none = nI 0 from rfl]
                            refine e_iconst (v := nI 2) dX11_rounds_108 rfl ?_
                            first | ((with_reducible refine mk_mo ?_); refine p_icmp_ne (tgt := 129) dX11_rounds_109 (by decide) (fun h109 => ?_) (fun h109 => ?_)) | ((with_reducible refine mk_ms ?_); refine s_icmp_ne (tgt := 129) dX11_rounds_109 (by decide) (by omega) (fun h109 => ?_) (fun h109 => ?_)) | ((with_reducible refine mk_mn ?_); refine q_icmp_ne (tgt := 129) dX11_rounds_109 (by decide) (by omega) (fun h109 => ?_) (fun h109 => ?_)) | ((with_reducible refine mk_nn ?_); refine n_icmp_ne (tgt := 129) dX11_rounds_109 (by decide) (by omega) (by omega) (fun h109 => ?_) (fun h109 => ?_)) | refine e_icmp_ne (tgt := 129) dX11_rounds_109 (by decide) (fun h109 => ?_) (fun h109 => ?_)
                            · try first | contradiction | omega
                              all_goals
                                refine e_iload_n dX11_rounds_129 rfl rfl ?_
                                refine e_aload_n dX11_rounds_130 rfl rfl ?_
                                refine e_getI dX11_rounds_131 fl_X11_365 rfl ?_
                                rw [nxH_a]
                                try rw [show nx1 none = nI 0 from rfl]
                                first | ((with_reducible refine mk_b ?_); refine b_if_eq (tgt := 142) dX11_rounds_134 (by decide) (fun h134 => ?_) (fun h134 => ?_)) | ((with_reducible refine mk_ll ?_); refine m_if_eq (tgt := 142) dX11_rounds_134 (by decide) (by omega) (by omega) (fun h134 => ?_) (fun h134 => ?_)) | ((with_reducible refine mk_lc ?_); refine l_if_eq (tgt := 142) dX11_rounds_134 (by decide) (fun h134 => ?_) (fun h134 => ?_)) | ((with_reducible refine mk_n ?_); refine n_if_eq (tgt := 142) dX11_rounds_134 (by decide) (by omega) (fun h134 => ?_) (fun h134 => ?_)) | refine e_if_eq (tgt := 142) dX11_rounds_134 (by decide) (fun h134 => ?_) (fun h134 => ?_)
                                · try first | contradiction | omega | (simp only [decide_eq_true_eq, decide_eq_false_iff_not] at h134; omega)
                                  all_goals
                                    refine e_iconst (v := nI 0) dX11_rounds_142 rfl ?_
                                    refine e_goto (tgt := 147) dX11_rounds_143 (by decide) ?_
                                    first | ((with_reducible refine mk_nn ?_); refine n_iadd dX11_rounds_147 ?_) | refine e_iadd dX11_rounds_147 ?_
                                    refine e_istore_n dX11_rounds_148 rfl (Nat.le_of_ble_eq_true rfl) rfl ?_
                                    refine e_aload_n dX11_rounds_149 rfl rfl ?_
                                    refine e_getI dX11_rounds_150 fl_X11_365 rfl ?_
                                    rw [nxH_a]
                                    try rw [show nx1 none = nI 0 from rfl]
                                    first | ((with_reducible refine mk_b ?_); refine b_if_eq (tgt := 170) dX11_rounds_153 (by decide) (fun h153 => ?_) (fun h153 => ?_)) | ((with_reducible refine mk_ll ?_); refine m_if_eq (tgt := 170) dX11_rounds_153 (by decide) (by omega) (by omega) (fun h153 => ?_) (fun h153 => ?_)) | ((with_reducible refine mk_lc ?_); refine l_if_eq (tgt := 170) dX11_rounds_153 (by decide) (fun h153 => ?_) (fun h153 => ?_)) | ((with_reducible refine mk_n ?_); refine n_if_eq (tgt := 170) dX11_rounds_153 (by decide) (by omega) (fun h153 => ?_) (fun h153 => ?_)) | refine e_if_eq (tgt := 170) dX11_rounds_153 (by decide) (fun h153 => ?_) (fun h153 => ?_)
                                    · try first | contradiction | omega | (simp only [decide_eq_true_eq, decide_eq_false_iff_not] at h153; omega)
                                      all_goals
                                        refine e_iconst (v := nI 0) dX11_rounds_170 rfl ?_
                                        refine e_istore_n dX11_rounds_171 rfl (Nat.le_of_ble_eq_true rfl) rfl ?_
                                        refine e_goto (tgt := 39) dX11_rounds_172 (by decide) ?_
                                        exact fin0 _ v _ _ (by omega) ⟨_, _, _, rfl⟩ hvq
                                    · try first | contradiction | omega | (simp only [decide_eq_true_eq, decide_eq_false_iff_not] at h153; omega)
                                      all_goals
                                        contradiction
                                · try first | contradiction | omega | (simp only [decide_eq_true_eq, decide_eq_false_iff_not] at h134; omega)
                                  all_goals
                                    contradiction
                            · try first | contradiction | omega
                              all_goals
                                contradiction
                        · try first | contradiction | omega
                          all_goals
                            contradiction
                    · try first | contradiction | omega
                      all_goals
                        refine e_aload_n dX11_rounds_58 rfl rfl ?_
                        refine e_getI dX11_rounds_59 fl_X11_365 rfl ?_
                        rw [nxH_a]
                        try rw [show nx1 none = nI 0 from rfl]
                        first | ((with_reducible refine mk_b ?_); refine b_if_eq (tgt := 69) dX11_rounds_62 (by decide) (fun h62 => ?_) (fun h62 => ?_)) | ((with_reducible refine mk_ll ?_); refine m_if_eq (tgt := 69) dX11_rounds_62 (by decide) (by omega) (by omega) (fun h62 => ?_) (fun h62 => ?_)) | ((with_reducible refine mk_lc ?_); refine l_if_eq (tgt := 69) dX11_rounds_62 (by decide) (fun h62 => ?_) (fun h62 => ?_)) | ((with_reducible refine mk_n ?_); refine n_if_eq (tgt := 69) dX11_rounds_62 (by decide) (by omega) (fun h62 => ?_) (fun h62 => ?_)) | refine e_if_eq (tgt := 69) dX11_rounds_62 (by decide) (fun h62 => ?_) (fun h62 => ?_)
                        · try first | contradiction | omega | (simp only [decide_eq_true_eq, decide_eq_false_iff_not] at h62; omega)
                          all_goals
                            refine e_iconst (v := nI 0) dX11_rounds_69 rfl ?_
                            refine e_istore dX11_rounds_70 (Nat.le_of_ble_eq_true rfl) rfl ?_
                            refine e_aload_n dX11_rounds_72 rfl rfl ?_
                            refine e_getI dX11_rounds_73 fl_X11_365 rfl ?_
                            rw [nxH_a]
                            try rw [show nx1 none = nI 0 from rfl]
                            refine e_iconst (v := nI 1) dX11_rounds_76 rfl ?_
                            first | ((with_reducible refine mk_mo ?_); refine p_icmp_ne (tgt := 104) dX11_rounds_77 (by decide) (fun h77 => ?_) (fun h77 => ?_)) | ((with_reducible refine mk_ms ?_); refine s_icmp_ne (tgt := 104) dX11_rounds_77 (by decide) (by omega) (fun h77 => ?_) (fun h77 => ?_)) | ((with_reducible refine mk_mn ?_); refine q_icmp_ne (tgt := 104) dX11_rounds_77 (by decide) (by omega) (fun h77 => ?_) (fun h77 => ?_)) | ((with_reducible refine mk_nn ?_); refine n_icmp_ne (tgt := 104) dX11_rounds_77 (by decide) (by omega) (by omega) (fun h77 => ?_) (fun h77 => ?_)) | refine e_icmp_ne (tgt := 104) dX11_rounds_77 (by decide) (fun h77 => ?_) (fun h77 => ?_)
                            · try first | contradiction | omega
                              all_goals
                                refine e_aload_n dX11_rounds_104 rfl rfl ?_
                                refine e_getI dX11_rounds_105 fl_X11_365 rfl ?_
                                rw [nxH_a]
                                try rw [show nx1 none = nI 0 from rfl]
                                refine e_iconst (v := nI 2) dX11_rounds_108 rfl ?_
                                first | ((with_reducible refine mk_mo ?_); refine p_icmp_ne (tgt := 129) dX11_rounds_109 (by decide) (fun h109 => ?_) (fun h109 => ?_)) | ((with_reducible refine mk_ms ?_); refine s_icmp_ne (tgt := 129) dX11_rounds_109 (by decide) (by omega) (fun h109 => ?_) (fun h109 => ?_)) | ((with_reducible refine mk_mn ?_); refine q_icmp_ne (tgt := 129) dX11_rounds_109 (by decide) (by omega) (fun h109 => ?_) (fun h109 => ?_)) | ((with_reducible refine mk_nn ?_); refine n_icmp_ne (tgt := 129) dX11_rounds_109 (by decide) (by omega) (by omega) (fun h109 => ?_) (fun h109 => ?_)) | refine e_icmp_ne (tgt := 129) dX11_rounds_109 (by decide) (fun h109 => ?_) (fun h109 => ?_)
                                · try first | contradiction | omega
                                  all_goals
                                    refine e_iload_n dX11_rounds_129 rfl rfl ?_
                                    refine e_aload_n dX11_rounds_130 rfl rfl ?_
                                    refine e_getI dX11_rounds_131 fl_X11_365 rfl ?_
                                    rw [nxH_a]
                                    try rw [show nx1 none = nI 0 from rfl]
                                    first | ((with_reducible refine mk_b ?_); refine b_if_eq (tgt := 142) dX11_rounds_134 (by decide) (fun h134 => ?_) (fun h134 => ?_)) | ((with_reducible refine mk_ll ?_); refine m_if_eq (tgt := 142) dX11_rounds_134 (by decide) (by omega) (by omega) (fun h134 => ?_) (fun h134 => ?_)) | ((with_reducible refine mk_lc ?_); refine l_if_eq (tgt := 142) dX11_rounds_134 (by decide) (fun h134 => ?_) (fun h134 => ?_)) | ((with_reducible refine mk_n ?_); refine n_if_eq (tgt := 142) dX11_rounds_134 (by decide) (by omega) (fun h134 => ?_) (fun h134 => ?_)) | refine e_if_eq (tgt := 142) dX11_rounds_134 (by decide) (fun h134 => ?_) (fun h134 => ?_)
                                    · try first | contradiction | omega | (simp only [decide_eq_true_eq, decide_eq_false_iff_not] at h134; omega)
                                      all_goals
                                        refine e_iconst (v := nI 0) dX11_rounds_142 rfl ?_
                                        refine e_goto (tgt := 147) dX11_rounds_143 (by decide) ?_
                                        first | ((with_reducible refine mk_nn ?_); refine n_iadd dX11_rounds_147 ?_) | refine e_iadd dX11_rounds_147 ?_
                                        refine e_istore_n dX11_rounds_148 rfl (Nat.le_of_ble_eq_true rfl) rfl ?_
                                        refine e_aload_n dX11_rounds_149 rfl rfl ?_
                                        refine e_getI dX11_rounds_150 fl_X11_365 rfl ?_
                                        rw [nxH_a]
                                        try rw [show nx1 none = nI 0 from rfl]
                                        first | ((with_reducible refine mk_b ?_); refine b_if_eq (tgt := 170) dX11_rounds_153 (by decide) (fun h153 => ?_) (fun h153 => ?_)) | ((with_reducible refine mk_ll ?_); refine m_if_eq (tgt := 170) dX11_rounds_153 (by decide) (by omega) (by omega) (fun h153 => ?_) (fun h153 => ?_)) | ((with_reducible refine mk_lc ?_); refine l_if_eq (tgt := 170) dX11_rounds_153 (by decide) (fun h153 => ?_) (fun h153 => ?_)) | ((with_reducible refine mk_n ?_); refine n_if_eq (tgt := 170) dX11_rounds_153 (by decide) (by omega) (fun h153 => ?_) (fun h153 => ?_)) | refine e_if_eq (tgt := 170) dX11_rounds_153 (by decide) (fun h153 => ?_) (fun h153 => ?_)
                                        · try first | contradiction | omega | (simp only [decide_eq_true_eq, decide_eq_false_iff_not] at h153; omega)
                                          all_goals
                                            refine e_iconst (v := nI 0) dX11_rounds_170 rfl ?_
                                            refine e_istore_n dX11_rounds_171 rfl (Nat.le_of_ble_eq_true rfl) rfl ?_
                                            refine e_goto (tgt := 39) dX11_rounds_172 (by decide) ?_
                                            exact fin0 _ v _ _ (by omega) ⟨_, _, _, rfl⟩ hvq
                                        · try first | contradiction | omega | (simp only [decide_eq_true_eq, decide_eq_false_iff_not] at h153; omega)
                                          all_goals
                                            contradiction
                                    · try first | contradiction | omega | (simp only [decide_eq_true_eq, decide_eq_false_iff_not] at h134; omega)
                                      all_goals
                                        contradiction
                                · try first | contradiction | omega
                                  all_goals
                                    contradiction
                            · try first | contradiction | omega
                              all_goals
                                contradiction
                        · try first | contradiction | omega | (simp only [decide_eq_true_eq, decide_eq_false_iff_not] at h62; omega)
                          all_goals
                            refine e_iconst (v := nI 1) dX11_rounds_65 rfl ?_
                            refine e_goto (tgt := 70) dX11_rounds_66 (by decide) ?_
                            refine e_istore dX11_rounds_70 (Nat.le_of_ble_eq_true rfl) rfl ?_
                            refine e_aload_n dX11_rounds_72 rfl rfl ?_
                            refine e_getI dX11_rounds_73 fl_X11_365 rfl ?_
                            rw [nxH_a]
                            try rw [show nx1 none = nI 0 from rfl]
                            refine e_iconst (v := nI 1) dX11_rounds_76 rfl ?_
                            first | ((with_reducible refine mk_mo ?_); refine p_icmp_ne (tgt := 104) dX11_rounds_77 (by decide) (fun h77 => ?_) (fun h77 => ?_)) | ((with_reducible refine mk_ms ?_); refine s_icmp_ne (tgt := 104) dX11_rounds_77 (by decide) (by omega) (fun h77 => ?_) (fun h77 => ?_)) | ((with_reducible refine mk_mn ?_); refine q_icmp_ne (tgt := 104) dX11_rounds_77 (by decide) (by omega) (fun h77 => ?_) (fun h77 => ?_)) | ((with_reducible refine mk_nn ?_); refine n_icmp_ne (tgt := 104) dX11_rounds_77 (by decide) (by omega) (by omega) (fun h77 => ?_) (fun h77 => ?_)) | refine e_icmp_ne (tgt := 104) dX11_rounds_77 (by decide) (fun h77 => ?_) (fun h77 => ?_)
                            · try first | contradiction | omega
                              all_goals
                                refine e_aload_n dX11_rounds_104 rfl rfl ?_
                                refine e_getI dX11_rounds_105 fl_X11_365 rfl ?_
                                rw [nxH_a]
                                try rw [show nx1 none = nI 0 from rfl]
                                refine e_iconst (v := nI 2) dX11_rounds_108 rfl ?_
                                first | ((with_reducible refine mk_mo ?_); refine p_icmp_ne (tgt := 129) dX11_rounds_109 (by decide) (fun h109 => ?_) (fun h109 => ?_)) | ((with_reducible refine mk_ms ?_); refine s_icmp_ne (tgt := 129) dX11_rounds_109 (by decide) (by omega) (fun h109 => ?_) (fun h109 => ?_)) | ((with_reducible refine mk_mn ?_); refine q_icmp_ne (tgt := 129) dX11_rounds_109 (by decide) (by omega) (fun h109 => ?_) (fun h109 => ?_)) | ((with_reducible refine mk_nn ?_); refine n_icmp_ne (tgt := 129) dX11_rounds_109 (by decide) (by omega) (by omega) (fun h109 => ?_) (fun h109 => ?_)) | refine e_icmp_ne (tgt := 129) dX11_rounds_109 (by decide) (fun h109 => ?_) (fun h109 => ?_)
                                · try first | contradiction | omega
                                  all_goals
                                    refine e_iload_n dX11_rounds_129 rfl rfl ?_
                                    refine e_aload_n dX11_rounds_130 rfl rfl ?_
                                    refine e_getI dX11_rounds_131 fl_X11_365 rfl ?_
                                    rw [nxH_a]
                                    try rw [show nx1 none = nI 0 from rfl]
                                    first | ((with_reducible refine mk_b ?_); refine b_if_eq (tgt := 142) dX11_rounds_134 (by decide) (fun h134 => ?_) (fun h134 => ?_)) | ((with_reducible refine mk_ll ?_); refine m_if_eq (tgt := 142) dX11_rounds_134 (by decide) (by omega) (by omega) (fun h134 => ?_) (fun h134 => ?_)) | ((with_reducible refine mk_lc ?_); refine l_if_eq (tgt := 142) dX11_rounds_134 (by decide) (fun h134 => ?_) (fun h134 => ?_)) | ((with_reducible refine mk_n ?_); refine n_if_eq (tgt := 142) dX11_rounds_134 (by decide) (by omega) (fun h134 => ?_) (fun h134 => ?_)) | refine e_if_eq (tgt := 142) dX11_rounds_134 (by decide) (fun h134 => ?_) (fun h134 => ?_)
                                    · try first | contradiction | omega | (simp only [decide_eq_true_eq, decide_eq_false_iff_not] at h134; omega)
                                      all_goals
                                        refine e_iconst (v := nI 0) dX11_rounds_142 rfl ?_
                                        refine e_goto (tgt := 147) dX11_rounds_143 (by decide) ?_
                                        first | ((with_reducible refine mk_nn ?_); refine n_iadd dX11_rounds_147 ?_) | refine e_iadd dX11_rounds_147 ?_
                                        refine e_istore_n dX11_rounds_148 rfl (Nat.le_of_ble_eq_true rfl) rfl ?_
                                        refine e_aload_n dX11_rounds_149 rfl rfl ?_
                                        refine e_getI dX11_rounds_150 fl_X11_365 rfl ?_
                                        rw [nxH_a]
                                        try rw [show nx1 none = nI 0 from rfl]
                                        first | ((with_reducible refine mk_b ?_); refine b_if_eq (tgt := 170) dX11_rounds_153 (by decide) (fun h153 => ?_) (fun h153 => ?_)) | ((with_reducible refine mk_ll ?_); refine m_if_eq (tgt := 170) dX11_rounds_153 (by decide) (by omega) (by omega) (fun h153 => ?_) (fun h153 => ?_)) | ((with_reducible refine mk_lc ?_); refine l_if_eq (tgt := 170) dX11_rounds_153 (by decide) (fun h153 => ?_) (fun h153 => ?_)) | ((with_reducible refine mk_n ?_); refine n_if_eq (tgt := 170) dX11_rounds_153 (by decide) (by omega) (fun h153 => ?_) (fun h153 => ?_)) | refine e_if_eq (tgt := 170) dX11_rounds_153 (by decide) (fun h153 => ?_) (fun h153 => ?_)
                                        · try first | contradiction | omega | (simp only [decide_eq_true_eq, decide_eq_false_iff_not] at h153; omega)
                                          all_goals
                                            refine e_iconst (v := nI 0) dX11_rounds_170 rfl ?_
                                            refine e_istore_n dX11_rounds_171 rfl (Nat.le_of_ble_eq_true rfl) rfl ?_
                                            refine e_goto (tgt := 39) dX11_rounds_172 (by decide) ?_
                                            exact fin0 _ v _ _ (by omega) ⟨_, _, _, rfl⟩ hvq
                                        · try first | contradiction | omega | (simp only [decide_eq_true_eq, decide_eq_false_iff_not] at h153; omega)
                                          all_goals
                                            contradiction
                                    · try first | contradiction | omega | (simp only [decide_eq_true_eq, decide_eq_false_iff_not] at h134; omega)
                                      all_goals
                                        contradiction
                                · try first | contradiction | omega
                                  all_goals
                                    contradiction
                            · try first | contradiction | omega
                              all_goals
                                contradiction
          | some q =>
            have hq := nxO_in hv1 hnx
            have hvn := iv_n hv1
            obtain ⟨ap1, ap2, ap3⟩ := ap_Inv hv1 hnx (by omega)
            have hol2 := evF_le ap1
            have hqb : q.2.2 < 1000 := by
              rcases hq.2 with ⟨_, k2⟩ | ⟨_, _, k3⟩
              · omega
              · exact mdO_k hv1 hq.1 k3
            have hR2 : oI ((rnF b r (apW v q)).map (· + (n + 1))) = R := by
              rw [← hR]
              show _ = oI (Option.map _ (if evQ (evF v) b = true then _ else _))
              rw [if_pos hev, hnx]
              show _ = oI (Option.map _ (Option.map _ _))
              rw [Option.map_map]
              congr 2
              funext y
              show y + (n + 1) = y + 1 + n
              omega
            have ih2 := ih (nxH fi (nx1 (some q)) (nx2 (some q)) (nx3 (some q))) (apW v q) (n + 1) R (by omega) ap1 (by omega) ⟨_, _, _, rfl⟩ (fun p hp => by rw [ap3 p (by omega)]; exact hvq p hp) hR2
            have er1 : nx1 (some q) = nI q.1 := rfl
            have er2 : nx2 (some q) = nI q.2.1 := rfl
            have er3 : nx3 (some q) = nI q.2.2 := rfl
            rw [er1, er2, er3] at ih2
            rcases hq.2 with ⟨k1, k2⟩ | ⟨k1, k2, k3⟩
            · have eap : apW v q = upN v (42 + q.2.1) q.2.2 := by unfold apW; rw [if_pos k1]
              rw [eap] at ih2 ap1 hol2
              refine e_iload_n dX11_rounds_39 rfl rfl ?_
              first | ((with_reducible refine mk_b ?_); refine b_if_eq (tgt := 175) dX11_rounds_40 (by decide) (fun h40 => ?_) (fun h40 => ?_)) | ((with_reducible refine mk_ll ?_); refine m_if_eq (tgt := 175) dX11_rounds_40 (by decide) (by omega) (by omega) (fun h40 => ?_) (fun h40 => ?_)) | ((with_reducible refine mk_lc ?_); refine l_if_eq (tgt := 175) dX11_rounds_40 (by decide) (fun h40 => ?_) (fun h40 => ?_)) | ((with_reducible refine mk_n ?_); refine n_if_eq (tgt := 175) dX11_rounds_40 (by decide) (by omega) (fun h40 => ?_) (fun h40 => ?_)) | refine e_if_eq (tgt := 175) dX11_rounds_40 (by decide) (fun h40 => ?_) (fun h40 => ?_)
              · try first | contradiction | omega | (simp only [decide_eq_true_eq, decide_eq_false_iff_not] at h40; omega)
                all_goals
                  refine e_aload_n dX11_rounds_175 rfl rfl ?_
                  refine y_V0 (M' := mX11_comesBack) dX11_rounds_176 ml_X11_386 ok_X11_comesBack (by decide) rfl im_X11_comesBack se_X11_comesBack (ct_X11_comesBack ‹_› hv) (Nat.le_of_ble_eq_true rfl) (by decide) (Nat.le_of_ble_eq_true rfl) ?_
                  refine e_iload_n dX11_rounds_179 rfl rfl ?_
                  first | ((with_reducible refine mk_b ?_); refine b_if_eq (tgt := 187) dX11_rounds_180 (by decide) (fun h180 => ?_) (fun h180 => ?_)) | ((with_reducible refine mk_ll ?_); refine m_if_eq (tgt := 187) dX11_rounds_180 (by decide) (by omega) (by omega) (fun h180 => ?_) (fun h180 => ?_)) | ((with_reducible refine mk_lc ?_); refine l_if_eq (tgt := 187) dX11_rounds_180 (by decide) (fun h180 => ?_) (fun h180 => ?_)) | ((with_reducible refine mk_n ?_); refine n_if_eq (tgt := 187) dX11_rounds_180 (by decide) (by omega) (fun h180 => ?_) (fun h180 => ?_)) | refine e_if_eq (tgt := 187) dX11_rounds_180 (by decide) (fun h180 => ?_) (fun h180 => ?_)
                  · try first | contradiction | omega | (simp only [decide_eq_true_eq, decide_eq_false_iff_not] at h180; omega)
                    all_goals
                      refine e_iload_n dX11_rounds_187 rfl rfl ?_
                      refine e_ret (some _) rfl (r_int dX11_rounds_188 rfl) ?_
                      first | contradiction | exact ⟨rfl, hfi, rfl, ⟨_, by rw [ov_w hvq]⟩, rfl, rfl⟩
                  · try first | contradiction | omega | (simp only [decide_eq_true_eq, decide_eq_false_iff_not] at h180; omega)
                    all_goals
                      refine e_iconst (v := -1) dX11_rounds_183 rfl ?_
                      refine e_goto (tgt := 188) dX11_rounds_184 (by decide) ?_
                      refine e_ret (some _) rfl (r_int dX11_rounds_188 rfl) ?_
                      first | contradiction | exact ⟨rfl, hfi, rfl, ⟨_, by rw [ov_w hvq]⟩, rfl, rfl⟩
              · try first | contradiction | omega | (simp only [decide_eq_true_eq, decide_eq_false_iff_not] at h40; omega)
                all_goals
                  refine e_iload dX11_rounds_43 rfl ?_
                  first | ((with_reducible refine mk_b ?_); refine b_if_ne (tgt := 175) dX11_rounds_45 (by decide) (fun h45 => ?_) (fun h45 => ?_)) | ((with_reducible refine mk_ll ?_); refine m_if_ne (tgt := 175) dX11_rounds_45 (by decide) (by omega) (by omega) (fun h45 => ?_) (fun h45 => ?_)) | ((with_reducible refine mk_lc ?_); refine l_if_ne (tgt := 175) dX11_rounds_45 (by decide) (fun h45 => ?_) (fun h45 => ?_)) | ((with_reducible refine mk_n ?_); refine n_if_ne (tgt := 175) dX11_rounds_45 (by decide) (by omega) (fun h45 => ?_) (fun h45 => ?_)) | refine e_if_ne (tgt := 175) dX11_rounds_45 (by decide) (fun h45 => ?_) (fun h45 => ?_)
                  · try first | contradiction | omega | (simp only [decide_eq_true_eq, decide_eq_false_iff_not] at h45; omega)
                    all_goals
                      refine e_aload_n dX11_rounds_175 rfl rfl ?_
                      refine y_V0 (M' := mX11_comesBack) dX11_rounds_176 ml_X11_386 ok_X11_comesBack (by decide) rfl im_X11_comesBack se_X11_comesBack (ct_X11_comesBack ‹_› hv) (Nat.le_of_ble_eq_true rfl) (by decide) (Nat.le_of_ble_eq_true rfl) ?_
                      refine e_iload_n dX11_rounds_179 rfl rfl ?_
                      first | ((with_reducible refine mk_b ?_); refine b_if_eq (tgt := 187) dX11_rounds_180 (by decide) (fun h180 => ?_) (fun h180 => ?_)) | ((with_reducible refine mk_ll ?_); refine m_if_eq (tgt := 187) dX11_rounds_180 (by decide) (by omega) (by omega) (fun h180 => ?_) (fun h180 => ?_)) | ((with_reducible refine mk_lc ?_); refine l_if_eq (tgt := 187) dX11_rounds_180 (by decide) (fun h180 => ?_) (fun h180 => ?_)) | ((with_reducible refine mk_n ?_); refine n_if_eq (tgt := 187) dX11_rounds_180 (by decide) (by omega) (fun h180 => ?_) (fun h180 => ?_)) | refine e_if_eq (tgt := 187) dX11_rounds_180 (by decide) (fun h180 => ?_) (fun h180 => ?_)
                      · try first | contradiction | omega | (simp only [decide_eq_true_eq, decide_eq_false_iff_not] at h180; omega)
                        all_goals
                          refine e_iload_n dX11_rounds_187 rfl rfl ?_
                          refine e_ret (some _) rfl (r_int dX11_rounds_188 rfl) ?_
                          first | contradiction | exact ⟨rfl, hfi, rfl, ⟨_, by rw [ov_w hvq]⟩, rfl, rfl⟩
                      · try first | contradiction | omega | (simp only [decide_eq_true_eq, decide_eq_false_iff_not] at h180; omega)
                        all_goals
                          refine e_iconst (v := -1) dX11_rounds_183 rfl ?_
                          refine e_goto (tgt := 188) dX11_rounds_184 (by decide) ?_
                          refine e_ret (some _) rfl (r_int dX11_rounds_188 rfl) ?_
                          first | contradiction | exact ⟨rfl, hfi, rfl, ⟨_, by rw [ov_w hvq]⟩, rfl, rfl⟩
                  · try first | contradiction | omega | (simp only [decide_eq_true_eq, decide_eq_false_iff_not] at h45; omega)
                    all_goals
                      refine e_aload_n dX11_rounds_48 rfl rfl ?_
                      refine y_V0 (M' := mX11_laysNext) dX11_rounds_49 ml_X11_381 ok_X11_laysNext (by decide) rfl im_X11_laysNext se_X11_laysNext (ct_X11_laysNext ‹_› hv1) (Nat.le_of_ble_eq_true rfl) (by decide) (Nat.le_of_ble_eq_true rfl) ?_
                      rw [hnx, nxH_2, er1, er2, er3]
                      refine e_iload_n dX11_rounds_52 rfl rfl ?_
                      refine e_bipush (v := nI 40) dX11_rounds_53 rfl ?_
                      first | ((with_reducible refine mk_mo ?_); refine p_icmp_ne (tgt := 69) dX11_rounds_55 (by decide) (fun h55 => ?_) (fun h55 => ?_)) | ((with_reducible refine mk_ms ?_); refine s_icmp_ne (tgt := 69) dX11_rounds_55 (by decide) (by omega) (fun h55 => ?_) (fun h55 => ?_)) | ((with_reducible refine mk_mn ?_); refine q_icmp_ne (tgt := 69) dX11_rounds_55 (by decide) (by omega) (fun h55 => ?_) (fun h55 => ?_)) | ((with_reducible refine mk_nn ?_); refine n_icmp_ne (tgt := 69) dX11_rounds_55 (by decide) (by omega) (by omega) (fun h55 => ?_) (fun h55 => ?_)) | refine e_icmp_ne (tgt := 69) dX11_rounds_55 (by decide) (fun h55 => ?_) (fun h55 => ?_)
                      · try first | contradiction | omega
                        all_goals
                          refine e_iconst (v := nI 0) dX11_rounds_69 rfl ?_
                          refine e_istore dX11_rounds_70 (Nat.le_of_ble_eq_true rfl) rfl ?_
                          refine e_aload_n dX11_rounds_72 rfl rfl ?_
                          refine e_getI dX11_rounds_73 fl_X11_365 rfl ?_
                          rw [nxH_a]
                          refine e_iconst (v := nI 1) dX11_rounds_76 rfl ?_
                          first | ((with_reducible refine mk_mo ?_); refine p_icmp_ne (tgt := 104) dX11_rounds_77 (by decide) (fun h77 => ?_) (fun h77 => ?_)) | ((with_reducible refine mk_ms ?_); refine s_icmp_ne (tgt := 104) dX11_rounds_77 (by decide) (by omega) (fun h77 => ?_) (fun h77 => ?_)) | ((with_reducible refine mk_mn ?_); refine q_icmp_ne (tgt := 104) dX11_rounds_77 (by decide) (by omega) (fun h77 => ?_) (fun h77 => ?_)) | ((with_reducible refine mk_nn ?_); refine n_icmp_ne (tgt := 104) dX11_rounds_77 (by decide) (by omega) (by omega) (fun h77 => ?_) (fun h77 => ?_)) | refine e_icmp_ne (tgt := 104) dX11_rounds_77 (by decide) (fun h77 => ?_) (fun h77 => ?_)
                          · try first | contradiction | omega
                            all_goals
                              refine e_aload_n dX11_rounds_104 rfl rfl ?_
                              refine e_getI dX11_rounds_105 fl_X11_365 rfl ?_
                              rw [nxH_a]
                              refine e_iconst (v := nI 2) dX11_rounds_108 rfl ?_
                              first | ((with_reducible refine mk_mo ?_); refine p_icmp_ne (tgt := 129) dX11_rounds_109 (by decide) (fun h109 => ?_) (fun h109 => ?_)) | ((with_reducible refine mk_ms ?_); refine s_icmp_ne (tgt := 129) dX11_rounds_109 (by decide) (by omega) (fun h109 => ?_) (fun h109 => ?_)) | ((with_reducible refine mk_mn ?_); refine q_icmp_ne (tgt := 129) dX11_rounds_109 (by decide) (by omega) (fun h109 => ?_) (fun h109 => ?_)) | ((with_reducible refine mk_nn ?_); refine n_icmp_ne (tgt := 129) dX11_rounds_109 (by decide) (by omega) (by omega) (fun h109 => ?_) (fun h109 => ?_)) | refine e_icmp_ne (tgt := 129) dX11_rounds_109 (by decide) (fun h109 => ?_) (fun h109 => ?_)
                              · try first | contradiction | omega
                                all_goals
                                  refine e_iload_n dX11_rounds_129 rfl rfl ?_
                                  refine e_aload_n dX11_rounds_130 rfl rfl ?_
                                  refine e_getI dX11_rounds_131 fl_X11_365 rfl ?_
                                  rw [nxH_a]
                                  first | ((with_reducible refine mk_b ?_); refine b_if_eq (tgt := 142) dX11_rounds_134 (by decide) (fun h134 => ?_) (fun h134 => ?_)) | ((with_reducible refine mk_ll ?_); refine m_if_eq (tgt := 142) dX11_rounds_134 (by decide) (by omega) (by omega) (fun h134 => ?_) (fun h134 => ?_)) | ((with_reducible refine mk_lc ?_); refine l_if_eq (tgt := 142) dX11_rounds_134 (by decide) (fun h134 => ?_) (fun h134 => ?_)) | ((with_reducible refine mk_n ?_); refine n_if_eq (tgt := 142) dX11_rounds_134 (by decide) (by omega) (fun h134 => ?_) (fun h134 => ?_)) | refine e_if_eq (tgt := 142) dX11_rounds_134 (by decide) (fun h134 => ?_) (fun h134 => ?_)
                                  · try first | contradiction | omega | (simp only [decide_eq_true_eq, decide_eq_false_iff_not] at h134; omega)
                                    all_goals
                                      refine e_iconst (v := nI 0) dX11_rounds_142 rfl ?_
                                      refine e_goto (tgt := 147) dX11_rounds_143 (by decide) ?_
                                      first | ((with_reducible refine mk_nn ?_); refine n_iadd dX11_rounds_147 ?_) | refine e_iadd dX11_rounds_147 ?_
                                      refine e_istore_n dX11_rounds_148 rfl (Nat.le_of_ble_eq_true rfl) rfl ?_
                                      refine e_aload_n dX11_rounds_149 rfl rfl ?_
                                      refine e_getI dX11_rounds_150 fl_X11_365 rfl ?_
                                      rw [nxH_a]
                                      first | ((with_reducible refine mk_b ?_); refine b_if_eq (tgt := 170) dX11_rounds_153 (by decide) (fun h153 => ?_) (fun h153 => ?_)) | ((with_reducible refine mk_ll ?_); refine m_if_eq (tgt := 170) dX11_rounds_153 (by decide) (by omega) (by omega) (fun h153 => ?_) (fun h153 => ?_)) | ((with_reducible refine mk_lc ?_); refine l_if_eq (tgt := 170) dX11_rounds_153 (by decide) (fun h153 => ?_) (fun h153 => ?_)) | ((with_reducible refine mk_n ?_); refine n_if_eq (tgt := 170) dX11_rounds_153 (by decide) (by omega) (fun h153 => ?_) (fun h153 => ?_)) | refine e_if_eq (tgt := 170) dX11_rounds_153 (by decide) (fun h153 => ?_) (fun h153 => ?_)
                                      · try first | contradiction | omega | (simp only [decide_eq_true_eq, decide_eq_false_iff_not] at h153; omega)
                                        all_goals
                                          refine e_iconst (v := nI 0) dX11_rounds_170 rfl ?_
                                          refine e_istore_n dX11_rounds_171 rfl (Nat.le_of_ble_eq_true rfl) rfl ?_
                                          refine e_goto (tgt := 39) dX11_rounds_172 (by decide) ?_
                                          first | (exfalso; omega) | (rw [h163] at ih2; exact ih2)
                                      · try first | contradiction | omega | (simp only [decide_eq_true_eq, decide_eq_false_iff_not] at h153; omega)
                                        all_goals
                                          refine e_aload_n dX11_rounds_156 rfl rfl ?_
                                          refine x_V0 (M' := mX11_evenOf) dX11_rounds_157 ml_X11_358 ok_X11_evenOf (by decide) rfl im_X11_evenOf se_X11_evenOf (ct_X11_evenOf ‹_› ap1) (Nat.le_of_ble_eq_true rfl) (by decide) (Nat.le_of_ble_eq_true rfl) ?_
                                          refine e_iload_n dX11_rounds_160 rfl rfl ?_
                                          first | ((with_reducible refine mk_n ?_); refine n_i2l dX11_rounds_161 (by omega) ?_) | refine e_i2l dX11_rounds_161 ?_
                                          refine e_lcmp dX11_rounds_162 ?_
                                          first | ((with_reducible refine mk_lo ?_); refine o_if_le (tgt := 170) dX11_rounds_163 (by decide) (by omega) (by first | assumption | (intro _ he; cases he; done)) (fun h163 => ?_) (fun h163 => ?_)) | ((with_reducible refine mk_ll ?_); refine m_if_le (tgt := 170) dX11_rounds_163 (by decide) (by omega) (by omega) (fun h163 => ?_) (fun h163 => ?_)) | ((with_reducible refine mk_lc ?_); refine l_if_le (tgt := 170) dX11_rounds_163 (by decide) (fun h163 => ?_) (fun h163 => ?_)) | ((with_reducible refine mk_n ?_); refine n_if_le (tgt := 170) dX11_rounds_163 (by decide) (by omega) (fun h163 => ?_) (fun h163 => ?_)) | refine e_if_le (tgt := 170) dX11_rounds_163 (by decide) (fun h163 => ?_) (fun h163 => ?_)
                                          · try first | contradiction | omega
                                            all_goals
                                              refine e_iconst (v := nI 0) dX11_rounds_170 rfl ?_
                                              refine e_istore_n dX11_rounds_171 rfl (Nat.le_of_ble_eq_true rfl) rfl ?_
                                              refine e_goto (tgt := 39) dX11_rounds_172 (by decide) ?_
                                              first | (exfalso; omega) | (rw [h163] at ih2; exact ih2)
                                          · try first | contradiction | omega
                                            all_goals
                                              refine e_iconst (v := nI 1) dX11_rounds_166 rfl ?_
                                              refine e_goto (tgt := 171) dX11_rounds_167 (by decide) ?_
                                              refine e_istore_n dX11_rounds_171 rfl (Nat.le_of_ble_eq_true rfl) rfl ?_
                                              refine e_goto (tgt := 39) dX11_rounds_172 (by decide) ?_
                                              first | (exfalso; omega) | (rw [h163] at ih2; exact ih2)
                                  · try first | contradiction | omega | (simp only [decide_eq_true_eq, decide_eq_false_iff_not] at h134; omega)
                                    all_goals
                                      refine e_iload dX11_rounds_137 rfl ?_
                                      first | ((with_reducible refine mk_b ?_); refine b_if_eq (tgt := 146) dX11_rounds_139 (by decide) (fun h139 => ?_) (fun h139 => ?_)) | ((with_reducible refine mk_ll ?_); refine m_if_eq (tgt := 146) dX11_rounds_139 (by decide) (by omega) (by omega) (fun h139 => ?_) (fun h139 => ?_)) | ((with_reducible refine mk_lc ?_); refine l_if_eq (tgt := 146) dX11_rounds_139 (by decide) (fun h139 => ?_) (fun h139 => ?_)) | ((with_reducible refine mk_n ?_); refine n_if_eq (tgt := 146) dX11_rounds_139 (by decide) (by omega) (fun h139 => ?_) (fun h139 => ?_)) | refine e_if_eq (tgt := 146) dX11_rounds_139 (by decide) (fun h139 => ?_) (fun h139 => ?_)
                                      · try first | contradiction | omega | (simp only [decide_eq_true_eq, decide_eq_false_iff_not] at h139; omega)
                                        all_goals
                                          refine e_iconst (v := nI 1) dX11_rounds_146 rfl ?_
                                          first | ((with_reducible refine mk_nn ?_); refine n_iadd dX11_rounds_147 ?_) | refine e_iadd dX11_rounds_147 ?_
                                          refine e_istore_n dX11_rounds_148 rfl (Nat.le_of_ble_eq_true rfl) rfl ?_
                                          refine e_aload_n dX11_rounds_149 rfl rfl ?_
                                          refine e_getI dX11_rounds_150 fl_X11_365 rfl ?_
                                          rw [nxH_a]
                                          first | ((with_reducible refine mk_b ?_); refine b_if_eq (tgt := 170) dX11_rounds_153 (by decide) (fun h153 => ?_) (fun h153 => ?_)) | ((with_reducible refine mk_ll ?_); refine m_if_eq (tgt := 170) dX11_rounds_153 (by decide) (by omega) (by omega) (fun h153 => ?_) (fun h153 => ?_)) | ((with_reducible refine mk_lc ?_); refine l_if_eq (tgt := 170) dX11_rounds_153 (by decide) (fun h153 => ?_) (fun h153 => ?_)) | ((with_reducible refine mk_n ?_); refine n_if_eq (tgt := 170) dX11_rounds_153 (by decide) (by omega) (fun h153 => ?_) (fun h153 => ?_)) | refine e_if_eq (tgt := 170) dX11_rounds_153 (by decide) (fun h153 => ?_) (fun h153 => ?_)
                                          · try first | contradiction | omega | (simp only [decide_eq_true_eq, decide_eq_false_iff_not] at h153; omega)
                                            all_goals
                                              refine e_iconst (v := nI 0) dX11_rounds_170 rfl ?_
                                              refine e_istore_n dX11_rounds_171 rfl (Nat.le_of_ble_eq_true rfl) rfl ?_
                                              refine e_goto (tgt := 39) dX11_rounds_172 (by decide) ?_
                                              first | (exfalso; omega) | (rw [h163] at ih2; exact ih2)
                                          · try first | contradiction | omega | (simp only [decide_eq_true_eq, decide_eq_false_iff_not] at h153; omega)
                                            all_goals
                                              refine e_aload_n dX11_rounds_156 rfl rfl ?_
                                              refine x_V0 (M' := mX11_evenOf) dX11_rounds_157 ml_X11_358 ok_X11_evenOf (by decide) rfl im_X11_evenOf se_X11_evenOf (ct_X11_evenOf ‹_› ap1) (Nat.le_of_ble_eq_true rfl) (by decide) (Nat.le_of_ble_eq_true rfl) ?_
                                              refine e_iload_n dX11_rounds_160 rfl rfl ?_
                                              first | ((with_reducible refine mk_n ?_); refine n_i2l dX11_rounds_161 (by omega) ?_) | refine e_i2l dX11_rounds_161 ?_
                                              refine e_lcmp dX11_rounds_162 ?_
                                              first | ((with_reducible refine mk_lo ?_); refine o_if_le (tgt := 170) dX11_rounds_163 (by decide) (by omega) (by first | assumption | (intro _ he; cases he; done)) (fun h163 => ?_) (fun h163 => ?_)) | ((with_reducible refine mk_ll ?_); refine m_if_le (tgt := 170) dX11_rounds_163 (by decide) (by omega) (by omega) (fun h163 => ?_) (fun h163 => ?_)) | ((with_reducible refine mk_lc ?_); refine l_if_le (tgt := 170) dX11_rounds_163 (by decide) (fun h163 => ?_) (fun h163 => ?_)) | ((with_reducible refine mk_n ?_); refine n_if_le (tgt := 170) dX11_rounds_163 (by decide) (by omega) (fun h163 => ?_) (fun h163 => ?_)) | refine e_if_le (tgt := 170) dX11_rounds_163 (by decide) (fun h163 => ?_) (fun h163 => ?_)
                                              · try first | contradiction | omega
                                                all_goals
                                                  refine e_iconst (v := nI 0) dX11_rounds_170 rfl ?_
                                                  refine e_istore_n dX11_rounds_171 rfl (Nat.le_of_ble_eq_true rfl) rfl ?_
                                                  refine e_goto (tgt := 39) dX11_rounds_172 (by decide) ?_
                                                  first | (exfalso; omega) | (rw [h163] at ih2; exact ih2)
                                              · try first | contradiction | omega
                                                all_goals
                                                  refine e_iconst (v := nI 1) dX11_rounds_166 rfl ?_
                                                  refine e_goto (tgt := 171) dX11_rounds_167 (by decide) ?_
                                                  refine e_istore_n dX11_rounds_171 rfl (Nat.le_of_ble_eq_true rfl) rfl ?_
                                                  refine e_goto (tgt := 39) dX11_rounds_172 (by decide) ?_
                                                  first | (exfalso; omega) | (rw [h163] at ih2; exact ih2)
                                      · try first | contradiction | omega | (simp only [decide_eq_true_eq, decide_eq_false_iff_not] at h139; omega)
                                        all_goals
                                          refine e_iconst (v := nI 0) dX11_rounds_142 rfl ?_
                                          refine e_goto (tgt := 147) dX11_rounds_143 (by decide) ?_
                                          first | ((with_reducible refine mk_nn ?_); refine n_iadd dX11_rounds_147 ?_) | refine e_iadd dX11_rounds_147 ?_
                                          refine e_istore_n dX11_rounds_148 rfl (Nat.le_of_ble_eq_true rfl) rfl ?_
                                          refine e_aload_n dX11_rounds_149 rfl rfl ?_
                                          refine e_getI dX11_rounds_150 fl_X11_365 rfl ?_
                                          rw [nxH_a]
                                          first | ((with_reducible refine mk_b ?_); refine b_if_eq (tgt := 170) dX11_rounds_153 (by decide) (fun h153 => ?_) (fun h153 => ?_)) | ((with_reducible refine mk_ll ?_); refine m_if_eq (tgt := 170) dX11_rounds_153 (by decide) (by omega) (by omega) (fun h153 => ?_) (fun h153 => ?_)) | ((with_reducible refine mk_lc ?_); refine l_if_eq (tgt := 170) dX11_rounds_153 (by decide) (fun h153 => ?_) (fun h153 => ?_)) | ((with_reducible refine mk_n ?_); refine n_if_eq (tgt := 170) dX11_rounds_153 (by decide) (by omega) (fun h153 => ?_) (fun h153 => ?_)) | refine e_if_eq (tgt := 170) dX11_rounds_153 (by decide) (fun h153 => ?_) (fun h153 => ?_)
                                          · try first | contradiction | omega | (simp only [decide_eq_true_eq, decide_eq_false_iff_not] at h153; omega)
                                            all_goals
                                              refine e_iconst (v := nI 0) dX11_rounds_170 rfl ?_
                                              refine e_istore_n dX11_rounds_171 rfl (Nat.le_of_ble_eq_true rfl) rfl ?_
                                              refine e_goto (tgt := 39) dX11_rounds_172 (by decide) ?_
                                              first | (exfalso; omega) | (rw [h163] at ih2; exact ih2)
                                          · try first | contradiction | omega | (simp only [decide_eq_true_eq, decide_eq_false_iff_not] at h153; omega)
                                            all_goals
                                              refine e_aload_n dX11_rounds_156 rfl rfl ?_
                                              refine x_V0 (M' := mX11_evenOf) dX11_rounds_157 ml_X11_358 ok_X11_evenOf (by decide) rfl im_X11_evenOf se_X11_evenOf (ct_X11_evenOf ‹_› ap1) (Nat.le_of_ble_eq_true rfl) (by decide) (Nat.le_of_ble_eq_true rfl) ?_
                                              refine e_iload_n dX11_rounds_160 rfl rfl ?_
                                              first | ((with_reducible refine mk_n ?_); refine n_i2l dX11_rounds_161 (by omega) ?_) | refine e_i2l dX11_rounds_161 ?_
                                              refine e_lcmp dX11_rounds_162 ?_
                                              first | ((with_reducible refine mk_lo ?_); refine o_if_le (tgt := 170) dX11_rounds_163 (by decide) (by omega) (by first | assumption | (intro _ he; cases he; done)) (fun h163 => ?_) (fun h163 => ?_)) | ((with_reducible refine mk_ll ?_); refine m_if_le (tgt := 170) dX11_rounds_163 (by decide) (by omega) (by omega) (fun h163 => ?_) (fun h163 => ?_)) | ((with_reducible refine mk_lc ?_); refine l_if_le (tgt := 170) dX11_rounds_163 (by decide) (fun h163 => ?_) (fun h163 => ?_)) | ((with_reducible refine mk_n ?_); refine n_if_le (tgt := 170) dX11_rounds_163 (by decide) (by omega) (fun h163 => ?_) (fun h163 => ?_)) | refine e_if_le (tgt := 170) dX11_rounds_163 (by decide) (fun h163 => ?_) (fun h163 => ?_)
                                              · try first | contradiction | omega
                                                all_goals
                                                  refine e_iconst (v := nI 0) dX11_rounds_170 rfl ?_
                                                  refine e_istore_n dX11_rounds_171 rfl (Nat.le_of_ble_eq_true rfl) rfl ?_
                                                  refine e_goto (tgt := 39) dX11_rounds_172 (by decide) ?_
                                                  first | (exfalso; omega) | (rw [h163] at ih2; exact ih2)
                                              · try first | contradiction | omega
                                                all_goals
                                                  refine e_iconst (v := nI 1) dX11_rounds_166 rfl ?_
                                                  refine e_goto (tgt := 171) dX11_rounds_167 (by decide) ?_
                                                  refine e_istore_n dX11_rounds_171 rfl (Nat.le_of_ble_eq_true rfl) rfl ?_
                                                  refine e_goto (tgt := 39) dX11_rounds_172 (by decide) ?_
                                                  first | (exfalso; omega) | (rw [h163] at ih2; exact ih2)
                              · try first | contradiction | omega
                                all_goals
                                  refine e_iload dX11_rounds_112 rfl ?_
                                  first | ((with_reducible refine mk_b ?_); refine b_if_ne (tgt := 129) dX11_rounds_114 (by decide) (fun h114 => ?_) (fun h114 => ?_)) | ((with_reducible refine mk_ll ?_); refine m_if_ne (tgt := 129) dX11_rounds_114 (by decide) (by omega) (by omega) (fun h114 => ?_) (fun h114 => ?_)) | ((with_reducible refine mk_lc ?_); refine l_if_ne (tgt := 129) dX11_rounds_114 (by decide) (fun h114 => ?_) (fun h114 => ?_)) | ((with_reducible refine mk_n ?_); refine n_if_ne (tgt := 129) dX11_rounds_114 (by decide) (by omega) (fun h114 => ?_) (fun h114 => ?_)) | refine e_if_ne (tgt := 129) dX11_rounds_114 (by decide) (fun h114 => ?_) (fun h114 => ?_)
                                  · try first | contradiction | omega | (simp only [decide_eq_true_eq, decide_eq_false_iff_not] at h114; omega)
                                    all_goals
                                      refine e_iload_n dX11_rounds_129 rfl rfl ?_
                                      refine e_aload_n dX11_rounds_130 rfl rfl ?_
                                      refine e_getI dX11_rounds_131 fl_X11_365 rfl ?_
                                      rw [nxH_a]
                                      first | ((with_reducible refine mk_b ?_); refine b_if_eq (tgt := 142) dX11_rounds_134 (by decide) (fun h134 => ?_) (fun h134 => ?_)) | ((with_reducible refine mk_ll ?_); refine m_if_eq (tgt := 142) dX11_rounds_134 (by decide) (by omega) (by omega) (fun h134 => ?_) (fun h134 => ?_)) | ((with_reducible refine mk_lc ?_); refine l_if_eq (tgt := 142) dX11_rounds_134 (by decide) (fun h134 => ?_) (fun h134 => ?_)) | ((with_reducible refine mk_n ?_); refine n_if_eq (tgt := 142) dX11_rounds_134 (by decide) (by omega) (fun h134 => ?_) (fun h134 => ?_)) | refine e_if_eq (tgt := 142) dX11_rounds_134 (by decide) (fun h134 => ?_) (fun h134 => ?_)
                                      · try first | contradiction | omega | (simp only [decide_eq_true_eq, decide_eq_false_iff_not] at h134; omega)
                                        all_goals
                                          refine e_iconst (v := nI 0) dX11_rounds_142 rfl ?_
                                          refine e_goto (tgt := 147) dX11_rounds_143 (by decide) ?_
                                          first | ((with_reducible refine mk_nn ?_); refine n_iadd dX11_rounds_147 ?_) | refine e_iadd dX11_rounds_147 ?_
                                          refine e_istore_n dX11_rounds_148 rfl (Nat.le_of_ble_eq_true rfl) rfl ?_
                                          refine e_aload_n dX11_rounds_149 rfl rfl ?_
                                          refine e_getI dX11_rounds_150 fl_X11_365 rfl ?_
                                          rw [nxH_a]
                                          first | ((with_reducible refine mk_b ?_); refine b_if_eq (tgt := 170) dX11_rounds_153 (by decide) (fun h153 => ?_) (fun h153 => ?_)) | ((with_reducible refine mk_ll ?_); refine m_if_eq (tgt := 170) dX11_rounds_153 (by decide) (by omega) (by omega) (fun h153 => ?_) (fun h153 => ?_)) | ((with_reducible refine mk_lc ?_); refine l_if_eq (tgt := 170) dX11_rounds_153 (by decide) (fun h153 => ?_) (fun h153 => ?_)) | ((with_reducible refine mk_n ?_); refine n_if_eq (tgt := 170) dX11_rounds_153 (by decide) (by omega) (fun h153 => ?_) (fun h153 => ?_)) | refine e_if_eq (tgt := 170) dX11_rounds_153 (by decide) (fun h153 => ?_) (fun h153 => ?_)
                                          · try first | contradiction | omega | (simp only [decide_eq_true_eq, decide_eq_false_iff_not] at h153; omega)
                                            all_goals
                                              refine e_iconst (v := nI 0) dX11_rounds_170 rfl ?_
                                              refine e_istore_n dX11_rounds_171 rfl (Nat.le_of_ble_eq_true rfl) rfl ?_
                                              refine e_goto (tgt := 39) dX11_rounds_172 (by decide) ?_
                                              first | (exfalso; omega) | (rw [h163] at ih2; exact ih2)
                                          · try first | contradiction | omega | (simp only [decide_eq_true_eq, decide_eq_false_iff_not] at h153; omega)
                                            all_goals
                                              refine e_aload_n dX11_rounds_156 rfl rfl ?_
                                              refine x_V0 (M' := mX11_evenOf) dX11_rounds_157 ml_X11_358 ok_X11_evenOf (by decide) rfl im_X11_evenOf se_X11_evenOf (ct_X11_evenOf ‹_› ap1) (Nat.le_of_ble_eq_true rfl) (by decide) (Nat.le_of_ble_eq_true rfl) ?_
                                              refine e_iload_n dX11_rounds_160 rfl rfl ?_
                                              first | ((with_reducible refine mk_n ?_); refine n_i2l dX11_rounds_161 (by omega) ?_) | refine e_i2l dX11_rounds_161 ?_
                                              refine e_lcmp dX11_rounds_162 ?_
                                              first | ((with_reducible refine mk_lo ?_); refine o_if_le (tgt := 170) dX11_rounds_163 (by decide) (by omega) (by first | assumption | (intro _ he; cases he; done)) (fun h163 => ?_) (fun h163 => ?_)) | ((with_reducible refine mk_ll ?_); refine m_if_le (tgt := 170) dX11_rounds_163 (by decide) (by omega) (by omega) (fun h163 => ?_) (fun h163 => ?_)) | ((with_reducible refine mk_lc ?_); refine l_if_le (tgt := 170) dX11_rounds_163 (by decide) (fun h163 => ?_) (fun h163 => ?_)) | ((with_reducible refine mk_n ?_); refine n_if_le (tgt := 170) dX11_rounds_163 (by decide) (by omega) (fun h163 => ?_) (fun h163 => ?_)) | refine e_if_le (tgt := 170) dX11_rounds_163 (by decide) (fun h163 => ?_) (fun h163 => ?_)
                                              · try first | contradiction | omega
                                                all_goals
                                                  refine e_iconst (v := nI 0) dX11_rounds_170 rfl ?_
                                                  refine e_istore_n dX11_rounds_171 rfl (Nat.le_of_ble_eq_true rfl) rfl ?_
                                                  refine e_goto (tgt := 39) dX11_rounds_172 (by decide) ?_
                                                  first | (exfalso; omega) | (rw [h163] at ih2; exact ih2)
                                              · try first | contradiction | omega
                                                all_goals
                                                  refine e_iconst (v := nI 1) dX11_rounds_166 rfl ?_
                                                  refine e_goto (tgt := 171) dX11_rounds_167 (by decide) ?_
                                                  refine e_istore_n dX11_rounds_171 rfl (Nat.le_of_ble_eq_true rfl) rfl ?_
                                                  refine e_goto (tgt := 39) dX11_rounds_172 (by decide) ?_
                                                  first | (exfalso; omega) | (rw [h163] at ih2; exact ih2)
                                      · try first | contradiction | omega | (simp only [decide_eq_true_eq, decide_eq_false_iff_not] at h134; omega)
                                        all_goals
                                          refine e_iload dX11_rounds_137 rfl ?_
                                          first | ((with_reducible refine mk_b ?_); refine b_if_eq (tgt := 146) dX11_rounds_139 (by decide) (fun h139 => ?_) (fun h139 => ?_)) | ((with_reducible refine mk_ll ?_); refine m_if_eq (tgt := 146) dX11_rounds_139 (by decide) (by omega) (by omega) (fun h139 => ?_) (fun h139 => ?_)) | ((with_reducible refine mk_lc ?_); refine l_if_eq (tgt := 146) dX11_rounds_139 (by decide) (fun h139 => ?_) (fun h139 => ?_)) | ((with_reducible refine mk_n ?_); refine n_if_eq (tgt := 146) dX11_rounds_139 (by decide) (by omega) (fun h139 => ?_) (fun h139 => ?_)) | refine e_if_eq (tgt := 146) dX11_rounds_139 (by decide) (fun h139 => ?_) (fun h139 => ?_)
                                          · try first | contradiction | omega | (simp only [decide_eq_true_eq, decide_eq_false_iff_not] at h139; omega)
                                            all_goals
                                              refine e_iconst (v := nI 1) dX11_rounds_146 rfl ?_
                                              first | ((with_reducible refine mk_nn ?_); refine n_iadd dX11_rounds_147 ?_) | refine e_iadd dX11_rounds_147 ?_
                                              refine e_istore_n dX11_rounds_148 rfl (Nat.le_of_ble_eq_true rfl) rfl ?_
                                              refine e_aload_n dX11_rounds_149 rfl rfl ?_
                                              refine e_getI dX11_rounds_150 fl_X11_365 rfl ?_
                                              rw [nxH_a]
                                              first | ((with_reducible refine mk_b ?_); refine b_if_eq (tgt := 170) dX11_rounds_153 (by decide) (fun h153 => ?_) (fun h153 => ?_)) | ((with_reducible refine mk_ll ?_); refine m_if_eq (tgt := 170) dX11_rounds_153 (by decide) (by omega) (by omega) (fun h153 => ?_) (fun h153 => ?_)) | ((with_reducible refine mk_lc ?_); refine l_if_eq (tgt := 170) dX11_rounds_153 (by decide) (fun h153 => ?_) (fun h153 => ?_)) | ((with_reducible refine mk_n ?_); refine n_if_eq (tgt := 170) dX11_rounds_153 (by decide) (by omega) (fun h153 => ?_) (fun h153 => ?_)) | refine e_if_eq (tgt := 170) dX11_rounds_153 (by decide) (fun h153 => ?_) (fun h153 => ?_)
                                              · try first | contradiction | omega | (simp only [decide_eq_true_eq, decide_eq_false_iff_not] at h153; omega)
                                                all_goals
                                                  refine e_iconst (v := nI 0) dX11_rounds_170 rfl ?_
                                                  refine e_istore_n dX11_rounds_171 rfl (Nat.le_of_ble_eq_true rfl) rfl ?_
                                                  refine e_goto (tgt := 39) dX11_rounds_172 (by decide) ?_
                                                  first | (exfalso; omega) | (rw [h163] at ih2; exact ih2)
                                              · try first | contradiction | omega | (simp only [decide_eq_true_eq, decide_eq_false_iff_not] at h153; omega)
                                                all_goals
                                                  refine e_aload_n dX11_rounds_156 rfl rfl ?_
                                                  refine x_V0 (M' := mX11_evenOf) dX11_rounds_157 ml_X11_358 ok_X11_evenOf (by decide) rfl im_X11_evenOf se_X11_evenOf (ct_X11_evenOf ‹_› ap1) (Nat.le_of_ble_eq_true rfl) (by decide) (Nat.le_of_ble_eq_true rfl) ?_
                                                  refine e_iload_n dX11_rounds_160 rfl rfl ?_
                                                  first | ((with_reducible refine mk_n ?_); refine n_i2l dX11_rounds_161 (by omega) ?_) | refine e_i2l dX11_rounds_161 ?_
                                                  refine e_lcmp dX11_rounds_162 ?_
                                                  first | ((with_reducible refine mk_lo ?_); refine o_if_le (tgt := 170) dX11_rounds_163 (by decide) (by omega) (by first | assumption | (intro _ he; cases he; done)) (fun h163 => ?_) (fun h163 => ?_)) | ((with_reducible refine mk_ll ?_); refine m_if_le (tgt := 170) dX11_rounds_163 (by decide) (by omega) (by omega) (fun h163 => ?_) (fun h163 => ?_)) | ((with_reducible refine mk_lc ?_); refine l_if_le (tgt := 170) dX11_rounds_163 (by decide) (fun h163 => ?_) (fun h163 => ?_)) | ((with_reducible refine mk_n ?_); refine n_if_le (tgt := 170) dX11_rounds_163 (by decide) (by omega) (fun h163 => ?_) (fun h163 => ?_)) | refine e_if_le (tgt := 170) dX11_rounds_163 (by decide) (fun h163 => ?_) (fun h163 => ?_)
                                                  · try first | contradiction | omega
                                                    all_goals
                                                      refine e_iconst (v := nI 0) dX11_rounds_170 rfl ?_
                                                      refine e_istore_n dX11_rounds_171 rfl (Nat.le_of_ble_eq_true rfl) rfl ?_
                                                      refine e_goto (tgt := 39) dX11_rounds_172 (by decide) ?_
                                                      first | (exfalso; omega) | (rw [h163] at ih2; exact ih2)
                                                  · try first | contradiction | omega
                                                    all_goals
                                                      refine e_iconst (v := nI 1) dX11_rounds_166 rfl ?_
                                                      refine e_goto (tgt := 171) dX11_rounds_167 (by decide) ?_
                                                      refine e_istore_n dX11_rounds_171 rfl (Nat.le_of_ble_eq_true rfl) rfl ?_
                                                      refine e_goto (tgt := 39) dX11_rounds_172 (by decide) ?_
                                                      first | (exfalso; omega) | (rw [h163] at ih2; exact ih2)
                                          · try first | contradiction | omega | (simp only [decide_eq_true_eq, decide_eq_false_iff_not] at h139; omega)
                                            all_goals
                                              refine e_iconst (v := nI 0) dX11_rounds_142 rfl ?_
                                              refine e_goto (tgt := 147) dX11_rounds_143 (by decide) ?_
                                              first | ((with_reducible refine mk_nn ?_); refine n_iadd dX11_rounds_147 ?_) | refine e_iadd dX11_rounds_147 ?_
                                              refine e_istore_n dX11_rounds_148 rfl (Nat.le_of_ble_eq_true rfl) rfl ?_
                                              refine e_aload_n dX11_rounds_149 rfl rfl ?_
                                              refine e_getI dX11_rounds_150 fl_X11_365 rfl ?_
                                              rw [nxH_a]
                                              first | ((with_reducible refine mk_b ?_); refine b_if_eq (tgt := 170) dX11_rounds_153 (by decide) (fun h153 => ?_) (fun h153 => ?_)) | ((with_reducible refine mk_ll ?_); refine m_if_eq (tgt := 170) dX11_rounds_153 (by decide) (by omega) (by omega) (fun h153 => ?_) (fun h153 => ?_)) | ((with_reducible refine mk_lc ?_); refine l_if_eq (tgt := 170) dX11_rounds_153 (by decide) (fun h153 => ?_) (fun h153 => ?_)) | ((with_reducible refine mk_n ?_); refine n_if_eq (tgt := 170) dX11_rounds_153 (by decide) (by omega) (fun h153 => ?_) (fun h153 => ?_)) | refine e_if_eq (tgt := 170) dX11_rounds_153 (by decide) (fun h153 => ?_) (fun h153 => ?_)
                                              · try first | contradiction | omega | (simp only [decide_eq_true_eq, decide_eq_false_iff_not] at h153; omega)
                                                all_goals
                                                  refine e_iconst (v := nI 0) dX11_rounds_170 rfl ?_
                                                  refine e_istore_n dX11_rounds_171 rfl (Nat.le_of_ble_eq_true rfl) rfl ?_
                                                  refine e_goto (tgt := 39) dX11_rounds_172 (by decide) ?_
                                                  first | (exfalso; omega) | (rw [h163] at ih2; exact ih2)
                                              · try first | contradiction | omega | (simp only [decide_eq_true_eq, decide_eq_false_iff_not] at h153; omega)
                                                all_goals
                                                  refine e_aload_n dX11_rounds_156 rfl rfl ?_
                                                  refine x_V0 (M' := mX11_evenOf) dX11_rounds_157 ml_X11_358 ok_X11_evenOf (by decide) rfl im_X11_evenOf se_X11_evenOf (ct_X11_evenOf ‹_› ap1) (Nat.le_of_ble_eq_true rfl) (by decide) (Nat.le_of_ble_eq_true rfl) ?_
                                                  refine e_iload_n dX11_rounds_160 rfl rfl ?_
                                                  first | ((with_reducible refine mk_n ?_); refine n_i2l dX11_rounds_161 (by omega) ?_) | refine e_i2l dX11_rounds_161 ?_
                                                  refine e_lcmp dX11_rounds_162 ?_
                                                  first | ((with_reducible refine mk_lo ?_); refine o_if_le (tgt := 170) dX11_rounds_163 (by decide) (by omega) (by first | assumption | (intro _ he; cases he; done)) (fun h163 => ?_) (fun h163 => ?_)) | ((with_reducible refine mk_ll ?_); refine m_if_le (tgt := 170) dX11_rounds_163 (by decide) (by omega) (by omega) (fun h163 => ?_) (fun h163 => ?_)) | ((with_reducible refine mk_lc ?_); refine l_if_le (tgt := 170) dX11_rounds_163 (by decide) (fun h163 => ?_) (fun h163 => ?_)) | ((with_reducible refine mk_n ?_); refine n_if_le (tgt := 170) dX11_rounds_163 (by decide) (by omega) (fun h163 => ?_) (fun h163 => ?_)) | refine e_if_le (tgt := 170) dX11_rounds_163 (by decide) (fun h163 => ?_) (fun h163 => ?_)
                                                  · try first | contradiction | omega
                                                    all_goals
                                                      refine e_iconst (v := nI 0) dX11_rounds_170 rfl ?_
                                                      refine e_istore_n dX11_rounds_171 rfl (Nat.le_of_ble_eq_true rfl) rfl ?_
                                                      refine e_goto (tgt := 39) dX11_rounds_172 (by decide) ?_
                                                      first | (exfalso; omega) | (rw [h163] at ih2; exact ih2)
                                                  · try first | contradiction | omega
                                                    all_goals
                                                      refine e_iconst (v := nI 1) dX11_rounds_166 rfl ?_
                                                      refine e_goto (tgt := 171) dX11_rounds_167 (by decide) ?_
                                                      refine e_istore_n dX11_rounds_171 rfl (Nat.le_of_ble_eq_true rfl) rfl ?_
                                                      refine e_goto (tgt := 39) dX11_rounds_172 (by decide) ?_
                                                      first | (exfalso; omega) | (rw [h163] at ih2; exact ih2)
                                  · try first | contradiction | omega | (simp only [decide_eq_true_eq, decide_eq_false_iff_not] at h114; omega)
                                    all_goals
                                      refine e_aload_n dX11_rounds_117 rfl rfl ?_
                                      refine e_aload_n dX11_rounds_118 rfl rfl ?_
                                      refine e_getI dX11_rounds_119 fl_X11_368 rfl ?_
                                      rw [nxH_b]
                                      refine e_aload_n dX11_rounds_122 rfl rfl ?_
                                      refine e_getI dX11_rounds_123 fl_X11_371 rfl ?_
                                      rw [nxH_c]
                                      refine y_V2 (M' := mX11_splits) dX11_rounds_126 ml_X11_89 ok_X11_splits (by decide) rfl im_X11_splits se_X11_splits (ct_X11_splits ‹_› hv1 hq.1 (by omega)) (Nat.le_of_ble_eq_true rfl) (by decide) (Nat.le_of_ble_eq_true rfl) ?_
                                      refine e_iload_n dX11_rounds_129 rfl rfl ?_
                                      refine e_aload_n dX11_rounds_130 rfl rfl ?_
                                      refine e_getI dX11_rounds_131 fl_X11_365 rfl ?_
                                      rw [nxH_a]
                                      first | ((with_reducible refine mk_b ?_); refine b_if_eq (tgt := 142) dX11_rounds_134 (by decide) (fun h134 => ?_) (fun h134 => ?_)) | ((with_reducible refine mk_ll ?_); refine m_if_eq (tgt := 142) dX11_rounds_134 (by decide) (by omega) (by omega) (fun h134 => ?_) (fun h134 => ?_)) | ((with_reducible refine mk_lc ?_); refine l_if_eq (tgt := 142) dX11_rounds_134 (by decide) (fun h134 => ?_) (fun h134 => ?_)) | ((with_reducible refine mk_n ?_); refine n_if_eq (tgt := 142) dX11_rounds_134 (by decide) (by omega) (fun h134 => ?_) (fun h134 => ?_)) | refine e_if_eq (tgt := 142) dX11_rounds_134 (by decide) (fun h134 => ?_) (fun h134 => ?_)
                                      · try first | contradiction | omega | (simp only [decide_eq_true_eq, decide_eq_false_iff_not] at h134; omega)
                                        all_goals
                                          refine e_iconst (v := nI 0) dX11_rounds_142 rfl ?_
                                          refine e_goto (tgt := 147) dX11_rounds_143 (by decide) ?_
                                          first | ((with_reducible refine mk_nn ?_); refine n_iadd dX11_rounds_147 ?_) | refine e_iadd dX11_rounds_147 ?_
                                          refine e_istore_n dX11_rounds_148 rfl (Nat.le_of_ble_eq_true rfl) rfl ?_
                                          refine e_aload_n dX11_rounds_149 rfl rfl ?_
                                          refine e_getI dX11_rounds_150 fl_X11_365 rfl ?_
                                          rw [nxH_a]
                                          first | ((with_reducible refine mk_b ?_); refine b_if_eq (tgt := 170) dX11_rounds_153 (by decide) (fun h153 => ?_) (fun h153 => ?_)) | ((with_reducible refine mk_ll ?_); refine m_if_eq (tgt := 170) dX11_rounds_153 (by decide) (by omega) (by omega) (fun h153 => ?_) (fun h153 => ?_)) | ((with_reducible refine mk_lc ?_); refine l_if_eq (tgt := 170) dX11_rounds_153 (by decide) (fun h153 => ?_) (fun h153 => ?_)) | ((with_reducible refine mk_n ?_); refine n_if_eq (tgt := 170) dX11_rounds_153 (by decide) (by omega) (fun h153 => ?_) (fun h153 => ?_)) | refine e_if_eq (tgt := 170) dX11_rounds_153 (by decide) (fun h153 => ?_) (fun h153 => ?_)
                                          · try first | contradiction | omega | (simp only [decide_eq_true_eq, decide_eq_false_iff_not] at h153; omega)
                                            all_goals
                                              refine e_iconst (v := nI 0) dX11_rounds_170 rfl ?_
                                              refine e_istore_n dX11_rounds_171 rfl (Nat.le_of_ble_eq_true rfl) rfl ?_
                                              refine e_goto (tgt := 39) dX11_rounds_172 (by decide) ?_
                                              first | (exfalso; omega) | (rw [h163] at ih2; exact ih2)
                                          · try first | contradiction | omega | (simp only [decide_eq_true_eq, decide_eq_false_iff_not] at h153; omega)
                                            all_goals
                                              refine e_aload_n dX11_rounds_156 rfl rfl ?_
                                              refine x_V0 (M' := mX11_evenOf) dX11_rounds_157 ml_X11_358 ok_X11_evenOf (by decide) rfl im_X11_evenOf se_X11_evenOf (ct_X11_evenOf ‹_› ap1) (Nat.le_of_ble_eq_true rfl) (by decide) (Nat.le_of_ble_eq_true rfl) ?_
                                              refine e_iload_n dX11_rounds_160 rfl rfl ?_
                                              first | ((with_reducible refine mk_n ?_); refine n_i2l dX11_rounds_161 (by omega) ?_) | refine e_i2l dX11_rounds_161 ?_
                                              refine e_lcmp dX11_rounds_162 ?_
                                              first | ((with_reducible refine mk_lo ?_); refine o_if_le (tgt := 170) dX11_rounds_163 (by decide) (by omega) (by first | assumption | (intro _ he; cases he; done)) (fun h163 => ?_) (fun h163 => ?_)) | ((with_reducible refine mk_ll ?_); refine m_if_le (tgt := 170) dX11_rounds_163 (by decide) (by omega) (by omega) (fun h163 => ?_) (fun h163 => ?_)) | ((with_reducible refine mk_lc ?_); refine l_if_le (tgt := 170) dX11_rounds_163 (by decide) (fun h163 => ?_) (fun h163 => ?_)) | ((with_reducible refine mk_n ?_); refine n_if_le (tgt := 170) dX11_rounds_163 (by decide) (by omega) (fun h163 => ?_) (fun h163 => ?_)) | refine e_if_le (tgt := 170) dX11_rounds_163 (by decide) (fun h163 => ?_) (fun h163 => ?_)
                                              · try first | contradiction | omega
                                                all_goals
                                                  refine e_iconst (v := nI 0) dX11_rounds_170 rfl ?_
                                                  refine e_istore_n dX11_rounds_171 rfl (Nat.le_of_ble_eq_true rfl) rfl ?_
                                                  refine e_goto (tgt := 39) dX11_rounds_172 (by decide) ?_
                                                  first | (exfalso; omega) | (rw [h163] at ih2; exact ih2)
                                              · try first | contradiction | omega
                                                all_goals
                                                  refine e_iconst (v := nI 1) dX11_rounds_166 rfl ?_
                                                  refine e_goto (tgt := 171) dX11_rounds_167 (by decide) ?_
                                                  refine e_istore_n dX11_rounds_171 rfl (Nat.le_of_ble_eq_true rfl) rfl ?_
                                                  refine e_goto (tgt := 39) dX11_rounds_172 (by decide) ?_
                                                  first | (exfalso; omega) | (rw [h163] at ih2; exact ih2)
                                      · try first | contradiction | omega | (simp only [decide_eq_true_eq, decide_eq_false_iff_not] at h134; omega)
                                        all_goals
                                          refine e_iload dX11_rounds_137 rfl ?_
                                          first | ((with_reducible refine mk_b ?_); refine b_if_eq (tgt := 146) dX11_rounds_139 (by decide) (fun h139 => ?_) (fun h139 => ?_)) | ((with_reducible refine mk_ll ?_); refine m_if_eq (tgt := 146) dX11_rounds_139 (by decide) (by omega) (by omega) (fun h139 => ?_) (fun h139 => ?_)) | ((with_reducible refine mk_lc ?_); refine l_if_eq (tgt := 146) dX11_rounds_139 (by decide) (fun h139 => ?_) (fun h139 => ?_)) | ((with_reducible refine mk_n ?_); refine n_if_eq (tgt := 146) dX11_rounds_139 (by decide) (by omega) (fun h139 => ?_) (fun h139 => ?_)) | refine e_if_eq (tgt := 146) dX11_rounds_139 (by decide) (fun h139 => ?_) (fun h139 => ?_)
                                          · try first | contradiction | omega | (simp only [decide_eq_true_eq, decide_eq_false_iff_not] at h139; omega)
                                            all_goals
                                              refine e_iconst (v := nI 1) dX11_rounds_146 rfl ?_
                                              first | ((with_reducible refine mk_nn ?_); refine n_iadd dX11_rounds_147 ?_) | refine e_iadd dX11_rounds_147 ?_
                                              refine e_istore_n dX11_rounds_148 rfl (Nat.le_of_ble_eq_true rfl) rfl ?_
                                              refine e_aload_n dX11_rounds_149 rfl rfl ?_
                                              refine e_getI dX11_rounds_150 fl_X11_365 rfl ?_
                                              rw [nxH_a]
                                              first | ((with_reducible refine mk_b ?_); refine b_if_eq (tgt := 170) dX11_rounds_153 (by decide) (fun h153 => ?_) (fun h153 => ?_)) | ((with_reducible refine mk_ll ?_); refine m_if_eq (tgt := 170) dX11_rounds_153 (by decide) (by omega) (by omega) (fun h153 => ?_) (fun h153 => ?_)) | ((with_reducible refine mk_lc ?_); refine l_if_eq (tgt := 170) dX11_rounds_153 (by decide) (fun h153 => ?_) (fun h153 => ?_)) | ((with_reducible refine mk_n ?_); refine n_if_eq (tgt := 170) dX11_rounds_153 (by decide) (by omega) (fun h153 => ?_) (fun h153 => ?_)) | refine e_if_eq (tgt := 170) dX11_rounds_153 (by decide) (fun h153 => ?_) (fun h153 => ?_)
                                              · try first | contradiction | omega | (simp only [decide_eq_true_eq, decide_eq_false_iff_not] at h153; omega)
                                                all_goals
                                                  refine e_iconst (v := nI 0) dX11_rounds_170 rfl ?_
                                                  refine e_istore_n dX11_rounds_171 rfl (Nat.le_of_ble_eq_true rfl) rfl ?_
                                                  refine e_goto (tgt := 39) dX11_rounds_172 (by decide) ?_
                                                  first | (exfalso; omega) | (rw [h163] at ih2; exact ih2)
                                              · try first | contradiction | omega | (simp only [decide_eq_true_eq, decide_eq_false_iff_not] at h153; omega)
                                                all_goals
                                                  refine e_aload_n dX11_rounds_156 rfl rfl ?_
                                                  refine x_V0 (M' := mX11_evenOf) dX11_rounds_157 ml_X11_358 ok_X11_evenOf (by decide) rfl im_X11_evenOf se_X11_evenOf (ct_X11_evenOf ‹_› ap1) (Nat.le_of_ble_eq_true rfl) (by decide) (Nat.le_of_ble_eq_true rfl) ?_
                                                  refine e_iload_n dX11_rounds_160 rfl rfl ?_
                                                  first | ((with_reducible refine mk_n ?_); refine n_i2l dX11_rounds_161 (by omega) ?_) | refine e_i2l dX11_rounds_161 ?_
                                                  refine e_lcmp dX11_rounds_162 ?_
                                                  first | ((with_reducible refine mk_lo ?_); refine o_if_le (tgt := 170) dX11_rounds_163 (by decide) (by omega) (by first | assumption | (intro _ he; cases he; done)) (fun h163 => ?_) (fun h163 => ?_)) | ((with_reducible refine mk_ll ?_); refine m_if_le (tgt := 170) dX11_rounds_163 (by decide) (by omega) (by omega) (fun h163 => ?_) (fun h163 => ?_)) | ((with_reducible refine mk_lc ?_); refine l_if_le (tgt := 170) dX11_rounds_163 (by decide) (fun h163 => ?_) (fun h163 => ?_)) | ((with_reducible refine mk_n ?_); refine n_if_le (tgt := 170) dX11_rounds_163 (by decide) (by omega) (fun h163 => ?_) (fun h163 => ?_)) | refine e_if_le (tgt := 170) dX11_rounds_163 (by decide) (fun h163 => ?_) (fun h163 => ?_)
                                                  · try first | contradiction | omega
                                                    all_goals
                                                      refine e_iconst (v := nI 0) dX11_rounds_170 rfl ?_
                                                      refine e_istore_n dX11_rounds_171 rfl (Nat.le_of_ble_eq_true rfl) rfl ?_
                                                      refine e_goto (tgt := 39) dX11_rounds_172 (by decide) ?_
                                                      first | (exfalso; omega) | (rw [h163] at ih2; exact ih2)
                                                  · try first | contradiction | omega
                                                    all_goals
                                                      refine e_iconst (v := nI 1) dX11_rounds_166 rfl ?_
                                                      refine e_goto (tgt := 171) dX11_rounds_167 (by decide) ?_
                                                      refine e_istore_n dX11_rounds_171 rfl (Nat.le_of_ble_eq_true rfl) rfl ?_
                                                      refine e_goto (tgt := 39) dX11_rounds_172 (by decide) ?_
                                                      first | (exfalso; omega) | (rw [h163] at ih2; exact ih2)
                                          · try first | contradiction | omega | (simp only [decide_eq_true_eq, decide_eq_false_iff_not] at h139; omega)
                                            all_goals
                                              refine e_iconst (v := nI 0) dX11_rounds_142 rfl ?_
                                              refine e_goto (tgt := 147) dX11_rounds_143 (by decide) ?_
                                              first | ((with_reducible refine mk_nn ?_); refine n_iadd dX11_rounds_147 ?_) | refine e_iadd dX11_rounds_147 ?_
                                              refine e_istore_n dX11_rounds_148 rfl (Nat.le_of_ble_eq_true rfl) rfl ?_
                                              refine e_aload_n dX11_rounds_149 rfl rfl ?_
                                              refine e_getI dX11_rounds_150 fl_X11_365 rfl ?_
                                              rw [nxH_a]
                                              first | ((with_reducible refine mk_b ?_); refine b_if_eq (tgt := 170) dX11_rounds_153 (by decide) (fun h153 => ?_) (fun h153 => ?_)) | ((with_reducible refine mk_ll ?_); refine m_if_eq (tgt := 170) dX11_rounds_153 (by decide) (by omega) (by omega) (fun h153 => ?_) (fun h153 => ?_)) | ((with_reducible refine mk_lc ?_); refine l_if_eq (tgt := 170) dX11_rounds_153 (by decide) (fun h153 => ?_) (fun h153 => ?_)) | ((with_reducible refine mk_n ?_); refine n_if_eq (tgt := 170) dX11_rounds_153 (by decide) (by omega) (fun h153 => ?_) (fun h153 => ?_)) | refine e_if_eq (tgt := 170) dX11_rounds_153 (by decide) (fun h153 => ?_) (fun h153 => ?_)
                                              · try first | contradiction | omega | (simp only [decide_eq_true_eq, decide_eq_false_iff_not] at h153; omega)
                                                all_goals
                                                  refine e_iconst (v := nI 0) dX11_rounds_170 rfl ?_
                                                  refine e_istore_n dX11_rounds_171 rfl (Nat.le_of_ble_eq_true rfl) rfl ?_
                                                  refine e_goto (tgt := 39) dX11_rounds_172 (by decide) ?_
                                                  first | (exfalso; omega) | (rw [h163] at ih2; exact ih2)
                                              · try first | contradiction | omega | (simp only [decide_eq_true_eq, decide_eq_false_iff_not] at h153; omega)
                                                all_goals
                                                  refine e_aload_n dX11_rounds_156 rfl rfl ?_
                                                  refine x_V0 (M' := mX11_evenOf) dX11_rounds_157 ml_X11_358 ok_X11_evenOf (by decide) rfl im_X11_evenOf se_X11_evenOf (ct_X11_evenOf ‹_› ap1) (Nat.le_of_ble_eq_true rfl) (by decide) (Nat.le_of_ble_eq_true rfl) ?_
                                                  refine e_iload_n dX11_rounds_160 rfl rfl ?_
                                                  first | ((with_reducible refine mk_n ?_); refine n_i2l dX11_rounds_161 (by omega) ?_) | refine e_i2l dX11_rounds_161 ?_
                                                  refine e_lcmp dX11_rounds_162 ?_
                                                  first | ((with_reducible refine mk_lo ?_); refine o_if_le (tgt := 170) dX11_rounds_163 (by decide) (by omega) (by first | assumption | (intro _ he; cases he; done)) (fun h163 => ?_) (fun h163 => ?_)) | ((with_reducible refine mk_ll ?_); refine m_if_le (tgt := 170) dX11_rounds_163 (by decide) (by omega) (by omega) (fun h163 => ?_) (fun h163 => ?_)) | ((with_reducible refine mk_lc ?_); refine l_if_le (tgt := 170) dX11_rounds_163 (by decide) (fun h163 => ?_) (fun h163 => ?_)) | ((with_reducible refine mk_n ?_); refine n_if_le (tgt := 170) dX11_rounds_163 (by decide) (by omega) (fun h163 => ?_) (fun h163 => ?_)) | refine e_if_le (tgt := 170) dX11_rounds_163 (by decide) (fun h163 => ?_) (fun h163 => ?_)
                                                  · try first | contradiction | omega
                                                    all_goals
                                                      refine e_iconst (v := nI 0) dX11_rounds_170 rfl ?_
                                                      refine e_istore_n dX11_rounds_171 rfl (Nat.le_of_ble_eq_true rfl) rfl ?_
                                                      refine e_goto (tgt := 39) dX11_rounds_172 (by decide) ?_
                                                      first | (exfalso; omega) | (rw [h163] at ih2; exact ih2)
                                                  · try first | contradiction | omega
                                                    all_goals
                                                      refine e_iconst (v := nI 1) dX11_rounds_166 rfl ?_
                                                      refine e_goto (tgt := 171) dX11_rounds_167 (by decide) ?_
                                                      refine e_istore_n dX11_rounds_171 rfl (Nat.le_of_ble_eq_true rfl) rfl ?_
                                                      refine e_goto (tgt := 39) dX11_rounds_172 (by decide) ?_
                                                      first | (exfalso; omega) | (rw [h163] at ih2; exact ih2)
                          · try first | contradiction | omega
                            all_goals
                              refine e_iload dX11_rounds_80 rfl ?_
                              first | ((with_reducible refine mk_b ?_); refine b_if_ne (tgt := 104) dX11_rounds_82 (by decide) (fun h82 => ?_) (fun h82 => ?_)) | ((with_reducible refine mk_ll ?_); refine m_if_ne (tgt := 104) dX11_rounds_82 (by decide) (by omega) (by omega) (fun h82 => ?_) (fun h82 => ?_)) | ((with_reducible refine mk_lc ?_); refine l_if_ne (tgt := 104) dX11_rounds_82 (by decide) (fun h82 => ?_) (fun h82 => ?_)) | ((with_reducible refine mk_n ?_); refine n_if_ne (tgt := 104) dX11_rounds_82 (by decide) (by omega) (fun h82 => ?_) (fun h82 => ?_)) | refine e_if_ne (tgt := 104) dX11_rounds_82 (by decide) (fun h82 => ?_) (fun h82 => ?_)
                              · try first | contradiction | omega | (simp only [decide_eq_true_eq, decide_eq_false_iff_not] at h82; omega)
                                all_goals
                                  refine e_aload_n dX11_rounds_104 rfl rfl ?_
                                  refine e_getI dX11_rounds_105 fl_X11_365 rfl ?_
                                  rw [nxH_a]
                                  refine e_iconst (v := nI 2) dX11_rounds_108 rfl ?_
                                  first | ((with_reducible refine mk_mo ?_); refine p_icmp_ne (tgt := 129) dX11_rounds_109 (by decide) (fun h109 => ?_) (fun h109 => ?_)) | ((with_reducible refine mk_ms ?_); refine s_icmp_ne (tgt := 129) dX11_rounds_109 (by decide) (by omega) (fun h109 => ?_) (fun h109 => ?_)) | ((with_reducible refine mk_mn ?_); refine q_icmp_ne (tgt := 129) dX11_rounds_109 (by decide) (by omega) (fun h109 => ?_) (fun h109 => ?_)) | ((with_reducible refine mk_nn ?_); refine n_icmp_ne (tgt := 129) dX11_rounds_109 (by decide) (by omega) (by omega) (fun h109 => ?_) (fun h109 => ?_)) | refine e_icmp_ne (tgt := 129) dX11_rounds_109 (by decide) (fun h109 => ?_) (fun h109 => ?_)
                                  · try first | contradiction | omega
                                    all_goals
                                      refine e_iload_n dX11_rounds_129 rfl rfl ?_
                                      refine e_aload_n dX11_rounds_130 rfl rfl ?_
                                      refine e_getI dX11_rounds_131 fl_X11_365 rfl ?_
                                      rw [nxH_a]
                                      first | ((with_reducible refine mk_b ?_); refine b_if_eq (tgt := 142) dX11_rounds_134 (by decide) (fun h134 => ?_) (fun h134 => ?_)) | ((with_reducible refine mk_ll ?_); refine m_if_eq (tgt := 142) dX11_rounds_134 (by decide) (by omega) (by omega) (fun h134 => ?_) (fun h134 => ?_)) | ((with_reducible refine mk_lc ?_); refine l_if_eq (tgt := 142) dX11_rounds_134 (by decide) (fun h134 => ?_) (fun h134 => ?_)) | ((with_reducible refine mk_n ?_); refine n_if_eq (tgt := 142) dX11_rounds_134 (by decide) (by omega) (fun h134 => ?_) (fun h134 => ?_)) | refine e_if_eq (tgt := 142) dX11_rounds_134 (by decide) (fun h134 => ?_) (fun h134 => ?_)
                                      · try first | contradiction | omega | (simp only [decide_eq_true_eq, decide_eq_false_iff_not] at h134; omega)
                                        all_goals
                                          refine e_iconst (v := nI 0) dX11_rounds_142 rfl ?_
                                          refine e_goto (tgt := 147) dX11_rounds_143 (by decide) ?_
                                          first | ((with_reducible refine mk_nn ?_); refine n_iadd dX11_rounds_147 ?_) | refine e_iadd dX11_rounds_147 ?_
                                          refine e_istore_n dX11_rounds_148 rfl (Nat.le_of_ble_eq_true rfl) rfl ?_
                                          refine e_aload_n dX11_rounds_149 rfl rfl ?_
                                          refine e_getI dX11_rounds_150 fl_X11_365 rfl ?_
                                          rw [nxH_a]
                                          first | ((with_reducible refine mk_b ?_); refine b_if_eq (tgt := 170) dX11_rounds_153 (by decide) (fun h153 => ?_) (fun h153 => ?_)) | ((with_reducible refine mk_ll ?_); refine m_if_eq (tgt := 170) dX11_rounds_153 (by decide) (by omega) (by omega) (fun h153 => ?_) (fun h153 => ?_)) | ((with_reducible refine mk_lc ?_); refine l_if_eq (tgt := 170) dX11_rounds_153 (by decide) (fun h153 => ?_) (fun h153 => ?_)) | ((with_reducible refine mk_n ?_); refine n_if_eq (tgt := 170) dX11_rounds_153 (by decide) (by omega) (fun h153 => ?_) (fun h153 => ?_)) | refine e_if_eq (tgt := 170) dX11_rounds_153 (by decide) (fun h153 => ?_) (fun h153 => ?_)
                                          · try first | contradiction | omega | (simp only [decide_eq_true_eq, decide_eq_false_iff_not] at h153; omega)
                                            all_goals
                                              refine e_iconst (v := nI 0) dX11_rounds_170 rfl ?_
                                              refine e_istore_n dX11_rounds_171 rfl (Nat.le_of_ble_eq_true rfl) rfl ?_
                                              refine e_goto (tgt := 39) dX11_rounds_172 (by decide) ?_
                                              first | (exfalso; omega) | (rw [h163] at ih2; exact ih2)
                                          · try first | contradiction | omega | (simp only [decide_eq_true_eq, decide_eq_false_iff_not] at h153; omega)
                                            all_goals
                                              refine e_aload_n dX11_rounds_156 rfl rfl ?_
                                              refine x_V0 (M' := mX11_evenOf) dX11_rounds_157 ml_X11_358 ok_X11_evenOf (by decide) rfl im_X11_evenOf se_X11_evenOf (ct_X11_evenOf ‹_› ap1) (Nat.le_of_ble_eq_true rfl) (by decide) (Nat.le_of_ble_eq_true rfl) ?_
                                              refine e_iload_n dX11_rounds_160 rfl rfl ?_
                                              first | ((with_reducible refine mk_n ?_); refine n_i2l dX11_rounds_161 (by omega) ?_) | refine e_i2l dX11_rounds_161 ?_
                                              refine e_lcmp dX11_rounds_162 ?_
                                              first | ((with_reducible refine mk_lo ?_); refine o_if_le (tgt := 170) dX11_rounds_163 (by decide) (by omega) (by first | assumption | (intro _ he; cases he; done)) (fun h163 => ?_) (fun h163 => ?_)) | ((with_reducible refine mk_ll ?_); refine m_if_le (tgt := 170) dX11_rounds_163 (by decide) (by omega) (by omega) (fun h163 => ?_) (fun h163 => ?_)) | ((with_reducible refine mk_lc ?_); refine l_if_le (tgt := 170) dX11_rounds_163 (by decide) (fun h163 => ?_) (fun h163 => ?_)) | ((with_reducible refine mk_n ?_); refine n_if_le (tgt := 170) dX11_rounds_163 (by decide) (by omega) (fun h163 => ?_) (fun h163 => ?_)) | refine e_if_le (tgt := 170) dX11_rounds_163 (by decide) (fun h163 => ?_) (fun h163 => ?_)
                                              · try first | contradiction | omega
                                                all_goals
                                                  refine e_iconst (v := nI 0) dX11_rounds_170 rfl ?_
                                                  refine e_istore_n dX11_rounds_171 rfl (Nat.le_of_ble_eq_true rfl) rfl ?_
                                                  refine e_goto (tgt := 39) dX11_rounds_172 (by decide) ?_
                                                  first | (exfalso; omega) | (rw [h163] at ih2; exact ih2)
                                              · try first | contradiction | omega
                                                all_goals
                                                  refine e_iconst (v := nI 1) dX11_rounds_166 rfl ?_
                                                  refine e_goto (tgt := 171) dX11_rounds_167 (by decide) ?_
                                                  refine e_istore_n dX11_rounds_171 rfl (Nat.le_of_ble_eq_true rfl) rfl ?_
                                                  refine e_goto (tgt := 39) dX11_rounds_172 (by decide) ?_
                                                  first | (exfalso; omega) | (rw [h163] at ih2; exact ih2)
                                      · try first | contradiction | omega | (simp only [decide_eq_true_eq, decide_eq_false_iff_not] at h134; omega)
                                        all_goals
                                          refine e_iload dX11_rounds_137 rfl ?_
                                          first | ((with_reducible refine mk_b ?_); refine b_if_eq (tgt := 146) dX11_rounds_139 (by decide) (fun h139 => ?_) (fun h139 => ?_)) | ((with_reducible refine mk_ll ?_); refine m_if_eq (tgt := 146) dX11_rounds_139 (by decide) (by omega) (by omega) (fun h139 => ?_) (fun h139 => ?_)) | ((with_reducible refine mk_lc ?_); refine l_if_eq (tgt := 146) dX11_rounds_139 (by decide) (fun h139 => ?_) (fun h139 => ?_)) | ((with_reducible refine mk_n ?_); refine n_if_eq (tgt := 146) dX11_rounds_139 (by decide) (by omega) (fun h139 => ?_) (fun h139 => ?_)) | refine e_if_eq (tgt := 146) dX11_rounds_139 (by decide) (fun h139 => ?_) (fun h139 => ?_)
                                          · try first | contradiction | omega | (simp only [decide_eq_true_eq, decide_eq_false_iff_not] at h139; omega)
                                            all_goals
                                              refine e_iconst (v := nI 1) dX11_rounds_146 rfl ?_
                                              first | ((with_reducible refine mk_nn ?_); refine n_iadd dX11_rounds_147 ?_) | refine e_iadd dX11_rounds_147 ?_
                                              refine e_istore_n dX11_rounds_148 rfl (Nat.le_of_ble_eq_true rfl) rfl ?_
                                              refine e_aload_n dX11_rounds_149 rfl rfl ?_
                                              refine e_getI dX11_rounds_150 fl_X11_365 rfl ?_
                                              rw [nxH_a]
                                              first | ((with_reducible refine mk_b ?_); refine b_if_eq (tgt := 170) dX11_rounds_153 (by decide) (fun h153 => ?_) (fun h153 => ?_)) | ((with_reducible refine mk_ll ?_); refine m_if_eq (tgt := 170) dX11_rounds_153 (by decide) (by omega) (by omega) (fun h153 => ?_) (fun h153 => ?_)) | ((with_reducible refine mk_lc ?_); refine l_if_eq (tgt := 170) dX11_rounds_153 (by decide) (fun h153 => ?_) (fun h153 => ?_)) | ((with_reducible refine mk_n ?_); refine n_if_eq (tgt := 170) dX11_rounds_153 (by decide) (by omega) (fun h153 => ?_) (fun h153 => ?_)) | refine e_if_eq (tgt := 170) dX11_rounds_153 (by decide) (fun h153 => ?_) (fun h153 => ?_)
                                              · try first | contradiction | omega | (simp only [decide_eq_true_eq, decide_eq_false_iff_not] at h153; omega)
                                                all_goals
                                                  refine e_iconst (v := nI 0) dX11_rounds_170 rfl ?_
                                                  refine e_istore_n dX11_rounds_171 rfl (Nat.le_of_ble_eq_true rfl) rfl ?_
                                                  refine e_goto (tgt := 39) dX11_rounds_172 (by decide) ?_
                                                  first | (exfalso; omega) | (rw [h163] at ih2; exact ih2)
                                              · try first | contradiction | omega | (simp only [decide_eq_true_eq, decide_eq_false_iff_not] at h153; omega)
                                                all_goals
                                                  refine e_aload_n dX11_rounds_156 rfl rfl ?_
                                                  refine x_V0 (M' := mX11_evenOf) dX11_rounds_157 ml_X11_358 ok_X11_evenOf (by decide) rfl im_X11_evenOf se_X11_evenOf (ct_X11_evenOf ‹_› ap1) (Nat.le_of_ble_eq_true rfl) (by decide) (Nat.le_of_ble_eq_true rfl) ?_
                                                  refine e_iload_n dX11_rounds_160 rfl rfl ?_
                                                  first | ((with_reducible refine mk_n ?_); refine n_i2l dX11_rounds_161 (by omega) ?_) | refine e_i2l dX11_rounds_161 ?_
                                                  refine e_lcmp dX11_rounds_162 ?_
                                                  first | ((with_reducible refine mk_lo ?_); refine o_if_le (tgt := 170) dX11_rounds_163 (by decide) (by omega) (by first | assumption | (intro _ he; cases he; done)) (fun h163 => ?_) (fun h163 => ?_)) | ((with_reducible refine mk_ll ?_); refine m_if_le (tgt := 170) dX11_rounds_163 (by decide) (by omega) (by omega) (fun h163 => ?_) (fun h163 => ?_)) | ((with_reducible refine mk_lc ?_); refine l_if_le (tgt := 170) dX11_rounds_163 (by decide) (fun h163 => ?_) (fun h163 => ?_)) | ((with_reducible refine mk_n ?_); refine n_if_le (tgt := 170) dX11_rounds_163 (by decide) (by omega) (fun h163 => ?_) (fun h163 => ?_)) | refine e_if_le (tgt := 170) dX11_rounds_163 (by decide) (fun h163 => ?_) (fun h163 => ?_)
                                                  · try first | contradiction | omega
                                                    all_goals
                                                      refine e_iconst (v := nI 0) dX11_rounds_170 rfl ?_
                                                      refine e_istore_n dX11_rounds_171 rfl (Nat.le_of_ble_eq_true rfl) rfl ?_
                                                      refine e_goto (tgt := 39) dX11_rounds_172 (by decide) ?_
                                                      first | (exfalso; omega) | (rw [h163] at ih2; exact ih2)
                                                  · try first | contradiction | omega
                                                    all_goals
                                                      refine e_iconst (v := nI 1) dX11_rounds_166 rfl ?_
                                                      refine e_goto (tgt := 171) dX11_rounds_167 (by decide) ?_
                                                      refine e_istore_n dX11_rounds_171 rfl (Nat.le_of_ble_eq_true rfl) rfl ?_
                                                      refine e_goto (tgt := 39) dX11_rounds_172 (by decide) ?_
                                                      first | (exfalso; omega) | (rw [h163] at ih2; exact ih2)
                                          · try first | contradiction | omega | (simp only [decide_eq_true_eq, decide_eq_false_iff_not] at h139; omega)
                                            all_goals
                                              refine e_iconst (v := nI 0) dX11_rounds_142 rfl ?_
                                              refine e_goto (tgt := 147) dX11_rounds_143 (by decide) ?_
                                              first | ((with_reducible refine mk_nn ?_); refine n_iadd dX11_rounds_147 ?_) | refine e_iadd dX11_rounds_147 ?_
                                              refine e_istore_n dX11_rounds_148 rfl (Nat.le_of_ble_eq_true rfl) rfl ?_
                                              refine e_aload_n dX11_rounds_149 rfl rfl ?_
                                              refine e_getI dX11_rounds_150 fl_X11_365 rfl ?_
                                              rw [nxH_a]
                                              first | ((with_reducible refine mk_b ?_); refine b_if_eq (tgt := 170) dX11_rounds_153 (by decide) (fun h153 => ?_) (fun h153 => ?_)) | ((with_reducible refine mk_ll ?_); refine m_if_eq (tgt := 170) dX11_rounds_153 (by decide) (by omega) (by omega) (fun h153 => ?_) (fun h153 => ?_)) | ((with_reducible refine mk_lc ?_); refine l_if_eq (tgt := 170) dX11_rounds_153 (by decide) (fun h153 => ?_) (fun h153 => ?_)) | ((with_reducible refine mk_n ?_); refine n_if_eq (tgt := 170) dX11_rounds_153 (by decide) (by omega) (fun h153 => ?_) (fun h153 => ?_)) | refine e_if_eq (tgt := 170) dX11_rounds_153 (by decide) (fun h153 => ?_) (fun h153 => ?_)
                                              · try first | contradiction | omega | (simp only [decide_eq_true_eq, decide_eq_false_iff_not] at h153; omega)
                                                all_goals
                                                  refine e_iconst (v := nI 0) dX11_rounds_170 rfl ?_
                                                  refine e_istore_n dX11_rounds_171 rfl (Nat.le_of_ble_eq_true rfl) rfl ?_
                                                  refine e_goto (tgt := 39) dX11_rounds_172 (by decide) ?_
                                                  first | (exfalso; omega) | (rw [h163] at ih2; exact ih2)
                                              · try first | contradiction | omega | (simp only [decide_eq_true_eq, decide_eq_false_iff_not] at h153; omega)
                                                all_goals
                                                  refine e_aload_n dX11_rounds_156 rfl rfl ?_
                                                  refine x_V0 (M' := mX11_evenOf) dX11_rounds_157 ml_X11_358 ok_X11_evenOf (by decide) rfl im_X11_evenOf se_X11_evenOf (ct_X11_evenOf ‹_› ap1) (Nat.le_of_ble_eq_true rfl) (by decide) (Nat.le_of_ble_eq_true rfl) ?_
                                                  refine e_iload_n dX11_rounds_160 rfl rfl ?_
                                                  first | ((with_reducible refine mk_n ?_); refine n_i2l dX11_rounds_161 (by omega) ?_) | refine e_i2l dX11_rounds_161 ?_
                                                  refine e_lcmp dX11_rounds_162 ?_
                                                  first | ((with_reducible refine mk_lo ?_); refine o_if_le (tgt := 170) dX11_rounds_163 (by decide) (by omega) (by first | assumption | (intro _ he; cases he; done)) (fun h163 => ?_) (fun h163 => ?_)) | ((with_reducible refine mk_ll ?_); refine m_if_le (tgt := 170) dX11_rounds_163 (by decide) (by omega) (by omega) (fun h163 => ?_) (fun h163 => ?_)) | ((with_reducible refine mk_lc ?_); refine l_if_le (tgt := 170) dX11_rounds_163 (by decide) (fun h163 => ?_) (fun h163 => ?_)) | ((with_reducible refine mk_n ?_); refine n_if_le (tgt := 170) dX11_rounds_163 (by decide) (by omega) (fun h163 => ?_) (fun h163 => ?_)) | refine e_if_le (tgt := 170) dX11_rounds_163 (by decide) (fun h163 => ?_) (fun h163 => ?_)
                                                  · try first | contradiction | omega
                                                    all_goals
                                                      refine e_iconst (v := nI 0) dX11_rounds_170 rfl ?_
                                                      refine e_istore_n dX11_rounds_171 rfl (Nat.le_of_ble_eq_true rfl) rfl ?_
                                                      refine e_goto (tgt := 39) dX11_rounds_172 (by decide) ?_
                                                      first | (exfalso; omega) | (rw [h163] at ih2; exact ih2)
                                                  · try first | contradiction | omega
                                                    all_goals
                                                      refine e_iconst (v := nI 1) dX11_rounds_166 rfl ?_
                                                      refine e_goto (tgt := 171) dX11_rounds_167 (by decide) ?_
                                                      refine e_istore_n dX11_rounds_171 rfl (Nat.le_of_ble_eq_true rfl) rfl ?_
                                                      refine e_goto (tgt := 39) dX11_rounds_172 (by decide) ?_
                                                      first | (exfalso; omega) | (rw [h163] at ih2; exact ih2)
                                  · try first | contradiction | omega
                                    all_goals
                                      refine e_iload dX11_rounds_112 rfl ?_
                                      first | ((with_reducible refine mk_b ?_); refine b_if_ne (tgt := 129) dX11_rounds_114 (by decide) (fun h114 => ?_) (fun h114 => ?_)) | ((with_reducible refine mk_ll ?_); refine m_if_ne (tgt := 129) dX11_rounds_114 (by decide) (by omega) (by omega) (fun h114 => ?_) (fun h114 => ?_)) | ((with_reducible refine mk_lc ?_); refine l_if_ne (tgt := 129) dX11_rounds_114 (by decide) (fun h114 => ?_) (fun h114 => ?_)) | ((with_reducible refine mk_n ?_); refine n_if_ne (tgt := 129) dX11_rounds_114 (by decide) (by omega) (fun h114 => ?_) (fun h114 => ?_)) | refine e_if_ne (tgt := 129) dX11_rounds_114 (by decide) (fun h114 => ?_) (fun h114 => ?_)
                                      · try first | contradiction | omega | (simp only [decide_eq_true_eq, decide_eq_false_iff_not] at h114; omega)
                                        all_goals
                                          refine e_iload_n dX11_rounds_129 rfl rfl ?_
                                          refine e_aload_n dX11_rounds_130 rfl rfl ?_
                                          refine e_getI dX11_rounds_131 fl_X11_365 rfl ?_
                                          rw [nxH_a]
                                          first | ((with_reducible refine mk_b ?_); refine b_if_eq (tgt := 142) dX11_rounds_134 (by decide) (fun h134 => ?_) (fun h134 => ?_)) | ((with_reducible refine mk_ll ?_); refine m_if_eq (tgt := 142) dX11_rounds_134 (by decide) (by omega) (by omega) (fun h134 => ?_) (fun h134 => ?_)) | ((with_reducible refine mk_lc ?_); refine l_if_eq (tgt := 142) dX11_rounds_134 (by decide) (fun h134 => ?_) (fun h134 => ?_)) | ((with_reducible refine mk_n ?_); refine n_if_eq (tgt := 142) dX11_rounds_134 (by decide) (by omega) (fun h134 => ?_) (fun h134 => ?_)) | refine e_if_eq (tgt := 142) dX11_rounds_134 (by decide) (fun h134 => ?_) (fun h134 => ?_)
                                          · try first | contradiction | omega | (simp only [decide_eq_true_eq, decide_eq_false_iff_not] at h134; omega)
                                            all_goals
                                              refine e_iconst (v := nI 0) dX11_rounds_142 rfl ?_
                                              refine e_goto (tgt := 147) dX11_rounds_143 (by decide) ?_
                                              first | ((with_reducible refine mk_nn ?_); refine n_iadd dX11_rounds_147 ?_) | refine e_iadd dX11_rounds_147 ?_
                                              refine e_istore_n dX11_rounds_148 rfl (Nat.le_of_ble_eq_true rfl) rfl ?_
                                              refine e_aload_n dX11_rounds_149 rfl rfl ?_
                                              refine e_getI dX11_rounds_150 fl_X11_365 rfl ?_
                                              rw [nxH_a]
                                              first | ((with_reducible refine mk_b ?_); refine b_if_eq (tgt := 170) dX11_rounds_153 (by decide) (fun h153 => ?_) (fun h153 => ?_)) | ((with_reducible refine mk_ll ?_); refine m_if_eq (tgt := 170) dX11_rounds_153 (by decide) (by omega) (by omega) (fun h153 => ?_) (fun h153 => ?_)) | ((with_reducible refine mk_lc ?_); refine l_if_eq (tgt := 170) dX11_rounds_153 (by decide) (fun h153 => ?_) (fun h153 => ?_)) | ((with_reducible refine mk_n ?_); refine n_if_eq (tgt := 170) dX11_rounds_153 (by decide) (by omega) (fun h153 => ?_) (fun h153 => ?_)) | refine e_if_eq (tgt := 170) dX11_rounds_153 (by decide) (fun h153 => ?_) (fun h153 => ?_)
                                              · try first | contradiction | omega | (simp only [decide_eq_true_eq, decide_eq_false_iff_not] at h153; omega)
                                                all_goals
                                                  refine e_iconst (v := nI 0) dX11_rounds_170 rfl ?_
                                                  refine e_istore_n dX11_rounds_171 rfl (Nat.le_of_ble_eq_true rfl) rfl ?_
                                                  refine e_goto (tgt := 39) dX11_rounds_172 (by decide) ?_
                                                  first | (exfalso; omega) | (rw [h163] at ih2; exact ih2)
                                              · try first | contradiction | omega | (simp only [decide_eq_true_eq, decide_eq_false_iff_not] at h153; omega)
                                                all_goals
                                                  refine e_aload_n dX11_rounds_156 rfl rfl ?_
                                                  refine x_V0 (M' := mX11_evenOf) dX11_rounds_157 ml_X11_358 ok_X11_evenOf (by decide) rfl im_X11_evenOf se_X11_evenOf (ct_X11_evenOf ‹_› ap1) (Nat.le_of_ble_eq_true rfl) (by decide) (Nat.le_of_ble_eq_true rfl) ?_
                                                  refine e_iload_n dX11_rounds_160 rfl rfl ?_
                                                  first | ((with_reducible refine mk_n ?_); refine n_i2l dX11_rounds_161 (by omega) ?_) | refine e_i2l dX11_rounds_161 ?_
                                                  refine e_lcmp dX11_rounds_162 ?_
                                                  first | ((with_reducible refine mk_lo ?_); refine o_if_le (tgt := 170) dX11_rounds_163 (by decide) (by omega) (by first | assumption | (intro _ he; cases he; done)) (fun h163 => ?_) (fun h163 => ?_)) | ((with_reducible refine mk_ll ?_); refine m_if_le (tgt := 170) dX11_rounds_163 (by decide) (by omega) (by omega) (fun h163 => ?_) (fun h163 => ?_)) | ((with_reducible refine mk_lc ?_); refine l_if_le (tgt := 170) dX11_rounds_163 (by decide) (fun h163 => ?_) (fun h163 => ?_)) | ((with_reducible refine mk_n ?_); refine n_if_le (tgt := 170) dX11_rounds_163 (by decide) (by omega) (fun h163 => ?_) (fun h163 => ?_)) | refine e_if_le (tgt := 170) dX11_rounds_163 (by decide) (fun h163 => ?_) (fun h163 => ?_)
                                                  · try first | contradiction | omega
                                                    all_goals
                                                      refine e_iconst (v := nI 0) dX11_rounds_170 rfl ?_
                                                      refine e_istore_n dX11_rounds_171 rfl (Nat.le_of_ble_eq_true rfl) rfl ?_
                                                      refine e_goto (tgt := 39) dX11_rounds_172 (by decide) ?_
                                                      first | (exfalso; omega) | (rw [h163] at ih2; exact ih2)
                                                  · try first | contradiction | omega
                                                    all_goals
                                                      refine e_iconst (v := nI 1) dX11_rounds_166 rfl ?_
                                                      refine e_goto (tgt := 171) dX11_rounds_167 (by decide) ?_
                                                      refine e_istore_n dX11_rounds_171 rfl (Nat.le_of_ble_eq_true rfl) rfl ?_
                                                      refine e_goto (tgt := 39) dX11_rounds_172 (by decide) ?_
                                                      first | (exfalso; omega) | (rw [h163] at ih2; exact ih2)
                                          · try first | contradiction | omega | (simp only [decide_eq_true_eq, decide_eq_false_iff_not] at h134; omega)
                                            all_goals
                                              refine e_iload dX11_rounds_137 rfl ?_
                                              first | ((with_reducible refine mk_b ?_); refine b_if_eq (tgt := 146) dX11_rounds_139 (by decide) (fun h139 => ?_) (fun h139 => ?_)) | ((with_reducible refine mk_ll ?_); refine m_if_eq (tgt := 146) dX11_rounds_139 (by decide) (by omega) (by omega) (fun h139 => ?_) (fun h139 => ?_)) | ((with_reducible refine mk_lc ?_); refine l_if_eq (tgt := 146) dX11_rounds_139 (by decide) (fun h139 => ?_) (fun h139 => ?_)) | ((with_reducible refine mk_n ?_); refine n_if_eq (tgt := 146) dX11_rounds_139 (by decide) (by omega) (fun h139 => ?_) (fun h139 => ?_)) | refine e_if_eq (tgt := 146) dX11_rounds_139 (by decide) (fun h139 => ?_) (fun h139 => ?_)
                                              · try first | contradiction | omega | (simp only [decide_eq_true_eq, decide_eq_false_iff_not] at h139; omega)
                                                all_goals
                                                  refine e_iconst (v := nI 1) dX11_rounds_146 rfl ?_
                                                  first | ((with_reducible refine mk_nn ?_); refine n_iadd dX11_rounds_147 ?_) | refine e_iadd dX11_rounds_147 ?_
                                                  refine e_istore_n dX11_rounds_148 rfl (Nat.le_of_ble_eq_true rfl) rfl ?_
                                                  refine e_aload_n dX11_rounds_149 rfl rfl ?_
                                                  refine e_getI dX11_rounds_150 fl_X11_365 rfl ?_
                                                  rw [nxH_a]
                                                  first | ((with_reducible refine mk_b ?_); refine b_if_eq (tgt := 170) dX11_rounds_153 (by decide) (fun h153 => ?_) (fun h153 => ?_)) | ((with_reducible refine mk_ll ?_); refine m_if_eq (tgt := 170) dX11_rounds_153 (by decide) (by omega) (by omega) (fun h153 => ?_) (fun h153 => ?_)) | ((with_reducible refine mk_lc ?_); refine l_if_eq (tgt := 170) dX11_rounds_153 (by decide) (fun h153 => ?_) (fun h153 => ?_)) | ((with_reducible refine mk_n ?_); refine n_if_eq (tgt := 170) dX11_rounds_153 (by decide) (by omega) (fun h153 => ?_) (fun h153 => ?_)) | refine e_if_eq (tgt := 170) dX11_rounds_153 (by decide) (fun h153 => ?_) (fun h153 => ?_)
                                                  · try first | contradiction | omega | (simp only [decide_eq_true_eq, decide_eq_false_iff_not] at h153; omega)
                                                    all_goals
                                                      refine e_iconst (v := nI 0) dX11_rounds_170 rfl ?_
                                                      refine e_istore_n dX11_rounds_171 rfl (Nat.le_of_ble_eq_true rfl) rfl ?_
                                                      refine e_goto (tgt := 39) dX11_rounds_172 (by decide) ?_
                                                      first | (exfalso; omega) | (rw [h163] at ih2; exact ih2)
                                                  · try first | contradiction | omega | (simp only [decide_eq_true_eq, decide_eq_false_iff_not] at h153; omega)
                                                    all_goals
                                                      refine e_aload_n dX11_rounds_156 rfl rfl ?_
                                                      refine x_V0 (M' := mX11_evenOf) dX11_rounds_157 ml_X11_358 ok_X11_evenOf (by decide) rfl im_X11_evenOf se_X11_evenOf (ct_X11_evenOf ‹_› ap1) (Nat.le_of_ble_eq_true rfl) (by decide) (Nat.le_of_ble_eq_true rfl) ?_
                                                      refine e_iload_n dX11_rounds_160 rfl rfl ?_
                                                      first | ((with_reducible refine mk_n ?_); refine n_i2l dX11_rounds_161 (by omega) ?_) | refine e_i2l dX11_rounds_161 ?_
                                                      refine e_lcmp dX11_rounds_162 ?_
                                                      first | ((with_reducible refine mk_lo ?_); refine o_if_le (tgt := 170) dX11_rounds_163 (by decide) (by omega) (by first | assumption | (intro _ he; cases he; done)) (fun h163 => ?_) (fun h163 => ?_)) | ((with_reducible refine mk_ll ?_); refine m_if_le (tgt := 170) dX11_rounds_163 (by decide) (by omega) (by omega) (fun h163 => ?_) (fun h163 => ?_)) | ((with_reducible refine mk_lc ?_); refine l_if_le (tgt := 170) dX11_rounds_163 (by decide) (fun h163 => ?_) (fun h163 => ?_)) | ((with_reducible refine mk_n ?_); refine n_if_le (tgt := 170) dX11_rounds_163 (by decide) (by omega) (fun h163 => ?_) (fun h163 => ?_)) | refine e_if_le (tgt := 170) dX11_rounds_163 (by decide) (fun h163 => ?_) (fun h163 => ?_)
                                                      · try first | contradiction | omega
                                                        all_goals
                                                          refine e_iconst (v := nI 0) dX11_rounds_170 rfl ?_
                                                          refine e_istore_n dX11_rounds_171 rfl (Nat.le_of_ble_eq_true rfl) rfl ?_
                                                          refine e_goto (tgt := 39) dX11_rounds_172 (by decide) ?_
                                                          first | (exfalso; omega) | (rw [h163] at ih2; exact ih2)
                                                      · try first | contradiction | omega
                                                        all_goals
                                                          refine e_iconst (v := nI 1) dX11_rounds_166 rfl ?_
                                                          refine e_goto (tgt := 171) dX11_rounds_167 (by decide) ?_
                                                          refine e_istore_n dX11_rounds_171 rfl (Nat.le_of_ble_eq_true rfl) rfl ?_
                                                          refine e_goto (tgt := 39) dX11_rounds_172 (by decide) ?_
                                                          first | (exfalso; omega) | (rw [h163] at ih2; exact ih2)
                                              · try first | contradiction | omega | (simp only [decide_eq_true_eq, decide_eq_false_iff_not] at h139; omega)
                                                all_goals
                                                  refine e_iconst (v := nI 0) dX11_rounds_142 rfl ?_
                                                  refine e_goto (tgt := 147) dX11_rounds_143 (by decide) ?_
                                                  first | ((with_reducible refine mk_nn ?_); refine n_iadd dX11_rounds_147 ?_) | refine e_iadd dX11_rounds_147 ?_
                                                  refine e_istore_n dX11_rounds_148 rfl (Nat.le_of_ble_eq_true rfl) rfl ?_
                                                  refine e_aload_n dX11_rounds_149 rfl rfl ?_
                                                  refine e_getI dX11_rounds_150 fl_X11_365 rfl ?_
                                                  rw [nxH_a]
                                                  first | ((with_reducible refine mk_b ?_); refine b_if_eq (tgt := 170) dX11_rounds_153 (by decide) (fun h153 => ?_) (fun h153 => ?_)) | ((with_reducible refine mk_ll ?_); refine m_if_eq (tgt := 170) dX11_rounds_153 (by decide) (by omega) (by omega) (fun h153 => ?_) (fun h153 => ?_)) | ((with_reducible refine mk_lc ?_); refine l_if_eq (tgt := 170) dX11_rounds_153 (by decide) (fun h153 => ?_) (fun h153 => ?_)) | ((with_reducible refine mk_n ?_); refine n_if_eq (tgt := 170) dX11_rounds_153 (by decide) (by omega) (fun h153 => ?_) (fun h153 => ?_)) | refine e_if_eq (tgt := 170) dX11_rounds_153 (by decide) (fun h153 => ?_) (fun h153 => ?_)
                                                  · try first | contradiction | omega | (simp only [decide_eq_true_eq, decide_eq_false_iff_not] at h153; omega)
                                                    all_goals
                                                      refine e_iconst (v := nI 0) dX11_rounds_170 rfl ?_
                                                      refine e_istore_n dX11_rounds_171 rfl (Nat.le_of_ble_eq_true rfl) rfl ?_
                                                      refine e_goto (tgt := 39) dX11_rounds_172 (by decide) ?_
                                                      first | (exfalso; omega) | (rw [h163] at ih2; exact ih2)
                                                  · try first | contradiction | omega | (simp only [decide_eq_true_eq, decide_eq_false_iff_not] at h153; omega)
                                                    all_goals
                                                      refine e_aload_n dX11_rounds_156 rfl rfl ?_
                                                      refine x_V0 (M' := mX11_evenOf) dX11_rounds_157 ml_X11_358 ok_X11_evenOf (by decide) rfl im_X11_evenOf se_X11_evenOf (ct_X11_evenOf ‹_› ap1) (Nat.le_of_ble_eq_true rfl) (by decide) (Nat.le_of_ble_eq_true rfl) ?_
                                                      refine e_iload_n dX11_rounds_160 rfl rfl ?_
                                                      first | ((with_reducible refine mk_n ?_); refine n_i2l dX11_rounds_161 (by omega) ?_) | refine e_i2l dX11_rounds_161 ?_
                                                      refine e_lcmp dX11_rounds_162 ?_
                                                      first | ((with_reducible refine mk_lo ?_); refine o_if_le (tgt := 170) dX11_rounds_163 (by decide) (by omega) (by first | assumption | (intro _ he; cases he; done)) (fun h163 => ?_) (fun h163 => ?_)) | ((with_reducible refine mk_ll ?_); refine m_if_le (tgt := 170) dX11_rounds_163 (by decide) (by omega) (by omega) (fun h163 => ?_) (fun h163 => ?_)) | ((with_reducible refine mk_lc ?_); refine l_if_le (tgt := 170) dX11_rounds_163 (by decide) (fun h163 => ?_) (fun h163 => ?_)) | ((with_reducible refine mk_n ?_); refine n_if_le (tgt := 170) dX11_rounds_163 (by decide) (by omega) (fun h163 => ?_) (fun h163 => ?_)) | refine e_if_le (tgt := 170) dX11_rounds_163 (by decide) (fun h163 => ?_) (fun h163 => ?_)
                                                      · try first | contradiction | omega
                                                        all_goals
                                                          refine e_iconst (v := nI 0) dX11_rounds_170 rfl ?_
                                                          refine e_istore_n dX11_rounds_171 rfl (Nat.le_of_ble_eq_true rfl) rfl ?_
                                                          refine e_goto (tgt := 39) dX11_rounds_172 (by decide) ?_
                                                          first | (exfalso; omega) | (rw [h163] at ih2; exact ih2)
                                                      · try first | contradiction | omega
                                                        all_goals
                                                          refine e_iconst (v := nI 1) dX11_rounds_166 rfl ?_
                                                          refine e_goto (tgt := 171) dX11_rounds_167 (by decide) ?_
                                                          refine e_istore_n dX11_rounds_171 rfl (Nat.le_of_ble_eq_true rfl) rfl ?_
                                                          refine e_goto (tgt := 39) dX11_rounds_172 (by decide) ?_
                                                          first | (exfalso; omega) | (rw [h163] at ih2; exact ih2)
                                      · try first | contradiction | omega | (simp only [decide_eq_true_eq, decide_eq_false_iff_not] at h114; omega)
                                        all_goals
                                          refine e_aload_n dX11_rounds_117 rfl rfl ?_
                                          refine e_aload_n dX11_rounds_118 rfl rfl ?_
                                          refine e_getI dX11_rounds_119 fl_X11_368 rfl ?_
                                          rw [nxH_b]
                                          refine e_aload_n dX11_rounds_122 rfl rfl ?_
                                          refine e_getI dX11_rounds_123 fl_X11_371 rfl ?_
                                          rw [nxH_c]
                                          refine y_V2 (M' := mX11_splits) dX11_rounds_126 ml_X11_89 ok_X11_splits (by decide) rfl im_X11_splits se_X11_splits (ct_X11_splits ‹_› hv1 hq.1 (by omega)) (Nat.le_of_ble_eq_true rfl) (by decide) (Nat.le_of_ble_eq_true rfl) ?_
                                          refine e_iload_n dX11_rounds_129 rfl rfl ?_
                                          refine e_aload_n dX11_rounds_130 rfl rfl ?_
                                          refine e_getI dX11_rounds_131 fl_X11_365 rfl ?_
                                          rw [nxH_a]
                                          first | ((with_reducible refine mk_b ?_); refine b_if_eq (tgt := 142) dX11_rounds_134 (by decide) (fun h134 => ?_) (fun h134 => ?_)) | ((with_reducible refine mk_ll ?_); refine m_if_eq (tgt := 142) dX11_rounds_134 (by decide) (by omega) (by omega) (fun h134 => ?_) (fun h134 => ?_)) | ((with_reducible refine mk_lc ?_); refine l_if_eq (tgt := 142) dX11_rounds_134 (by decide) (fun h134 => ?_) (fun h134 => ?_)) | ((with_reducible refine mk_n ?_); refine n_if_eq (tgt := 142) dX11_rounds_134 (by decide) (by omega) (fun h134 => ?_) (fun h134 => ?_)) | refine e_if_eq (tgt := 142) dX11_rounds_134 (by decide) (fun h134 => ?_) (fun h134 => ?_)
                                          · try first | contradiction | omega | (simp only [decide_eq_true_eq, decide_eq_false_iff_not] at h134; omega)
                                            all_goals
                                              refine e_iconst (v := nI 0) dX11_rounds_142 rfl ?_
                                              refine e_goto (tgt := 147) dX11_rounds_143 (by decide) ?_
                                              first | ((with_reducible refine mk_nn ?_); refine n_iadd dX11_rounds_147 ?_) | refine e_iadd dX11_rounds_147 ?_
                                              refine e_istore_n dX11_rounds_148 rfl (Nat.le_of_ble_eq_true rfl) rfl ?_
                                              refine e_aload_n dX11_rounds_149 rfl rfl ?_
                                              refine e_getI dX11_rounds_150 fl_X11_365 rfl ?_
                                              rw [nxH_a]
                                              first | ((with_reducible refine mk_b ?_); refine b_if_eq (tgt := 170) dX11_rounds_153 (by decide) (fun h153 => ?_) (fun h153 => ?_)) | ((with_reducible refine mk_ll ?_); refine m_if_eq (tgt := 170) dX11_rounds_153 (by decide) (by omega) (by omega) (fun h153 => ?_) (fun h153 => ?_)) | ((with_reducible refine mk_lc ?_); refine l_if_eq (tgt := 170) dX11_rounds_153 (by decide) (fun h153 => ?_) (fun h153 => ?_)) | ((with_reducible refine mk_n ?_); refine n_if_eq (tgt := 170) dX11_rounds_153 (by decide) (by omega) (fun h153 => ?_) (fun h153 => ?_)) | refine e_if_eq (tgt := 170) dX11_rounds_153 (by decide) (fun h153 => ?_) (fun h153 => ?_)
                                              · try first | contradiction | omega | (simp only [decide_eq_true_eq, decide_eq_false_iff_not] at h153; omega)
                                                all_goals
                                                  refine e_iconst (v := nI 0) dX11_rounds_170 rfl ?_
                                                  refine e_istore_n dX11_rounds_171 rfl (Nat.le_of_ble_eq_true rfl) rfl ?_
                                                  refine e_goto (tgt := 39) dX11_rounds_172 (by decide) ?_
                                                  first | (exfalso; omega) | (rw [h163] at ih2; exact ih2)
                                              · try first | contradiction | omega | (simp only [decide_eq_true_eq, decide_eq_false_iff_not] at h153; omega)
                                                all_goals
                                                  refine e_aload_n dX11_rounds_156 rfl rfl ?_
                                                  refine x_V0 (M' := mX11_evenOf) dX11_rounds_157 ml_X11_358 ok_X11_evenOf (by decide) rfl im_X11_evenOf se_X11_evenOf (ct_X11_evenOf ‹_› ap1) (Nat.le_of_ble_eq_true rfl) (by decide) (Nat.le_of_ble_eq_true rfl) ?_
                                                  refine e_iload_n dX11_rounds_160 rfl rfl ?_
                                                  first | ((with_reducible refine mk_n ?_); refine n_i2l dX11_rounds_161 (by omega) ?_) | refine e_i2l dX11_rounds_161 ?_
                                                  refine e_lcmp dX11_rounds_162 ?_
                                                  first | ((with_reducible refine mk_lo ?_); refine o_if_le (tgt := 170) dX11_rounds_163 (by decide) (by omega) (by first | assumption | (intro _ he; cases he; done)) (fun h163 => ?_) (fun h163 => ?_)) | ((with_reducible refine mk_ll ?_); refine m_if_le (tgt := 170) dX11_rounds_163 (by decide) (by omega) (by omega) (fun h163 => ?_) (fun h163 => ?_)) | ((with_reducible refine mk_lc ?_); refine l_if_le (tgt := 170) dX11_rounds_163 (by decide) (fun h163 => ?_) (fun h163 => ?_)) | ((with_reducible refine mk_n ?_); refine n_if_le (tgt := 170) dX11_rounds_163 (by decide) (by omega) (fun h163 => ?_) (fun h163 => ?_)) | refine e_if_le (tgt := 170) dX11_rounds_163 (by decide) (fun h163 => ?_) (fun h163 => ?_)
                                                  · try first | contradiction | omega
                                                    all_goals
                                                      refine e_iconst (v := nI 0) dX11_rounds_170 rfl ?_
                                                      refine e_istore_n dX11_rounds_171 rfl (Nat.le_of_ble_eq_true rfl) rfl ?_
                                                      refine e_goto (tgt := 39) dX11_rounds_172 (by decide) ?_
                                                      first | (exfalso; omega) | (rw [h163] at ih2; exact ih2)
                                                  · try first | contradiction | omega
                                                    all_goals
                                                      refine e_iconst (v := nI 1) dX11_rounds_166 rfl ?_
                                                      refine e_goto (tgt := 171) dX11_rounds_167 (by decide) ?_
                                                      refine e_istore_n dX11_rounds_171 rfl (Nat.le_of_ble_eq_true rfl) rfl ?_
                                                      refine e_goto (tgt := 39) dX11_rounds_172 (by decide) ?_
                                                      first | (exfalso; omega) | (rw [h163] at ih2; exact ih2)
                                          · try first | contradiction | omega | (simp only [decide_eq_true_eq, decide_eq_false_iff_not] at h134; omega)
                                            all_goals
                                              refine e_iload dX11_rounds_137 rfl ?_
                                              first | ((with_reducible refine mk_b ?_); refine b_if_eq (tgt := 146) dX11_rounds_139 (by decide) (fun h139 => ?_) (fun h139 => ?_)) | ((with_reducible refine mk_ll ?_); refine m_if_eq (tgt := 146) dX11_rounds_139 (by decide) (by omega) (by omega) (fun h139 => ?_) (fun h139 => ?_)) | ((with_reducible refine mk_lc ?_); refine l_if_eq (tgt := 146) dX11_rounds_139 (by decide) (fun h139 => ?_) (fun h139 => ?_)) | ((with_reducible refine mk_n ?_); refine n_if_eq (tgt := 146) dX11_rounds_139 (by decide) (by omega) (fun h139 => ?_) (fun h139 => ?_)) | refine e_if_eq (tgt := 146) dX11_rounds_139 (by decide) (fun h139 => ?_) (fun h139 => ?_)
                                              · try first | contradiction | omega | (simp only [decide_eq_true_eq, decide_eq_false_iff_not] at h139; omega)
                                                all_goals
                                                  refine e_iconst (v := nI 1) dX11_rounds_146 rfl ?_
                                                  first | ((with_reducible refine mk_nn ?_); refine n_iadd dX11_rounds_147 ?_) | refine e_iadd dX11_rounds_147 ?_
                                                  refine e_istore_n dX11_rounds_148 rfl (Nat.le_of_ble_eq_true rfl) rfl ?_
                                                  refine e_aload_n dX11_rounds_149 rfl rfl ?_
                                                  refine e_getI dX11_rounds_150 fl_X11_365 rfl ?_
                                                  rw [nxH_a]
                                                  first | ((with_reducible refine mk_b ?_); refine b_if_eq (tgt := 170) dX11_rounds_153 (by decide) (fun h153 => ?_) (fun h153 => ?_)) | ((with_reducible refine mk_ll ?_); refine m_if_eq (tgt := 170) dX11_rounds_153 (by decide) (by omega) (by omega) (fun h153 => ?_) (fun h153 => ?_)) | ((with_reducible refine mk_lc ?_); refine l_if_eq (tgt := 170) dX11_rounds_153 (by decide) (fun h153 => ?_) (fun h153 => ?_)) | ((with_reducible refine mk_n ?_); refine n_if_eq (tgt := 170) dX11_rounds_153 (by decide) (by omega) (fun h153 => ?_) (fun h153 => ?_)) | refine e_if_eq (tgt := 170) dX11_rounds_153 (by decide) (fun h153 => ?_) (fun h153 => ?_)
                                                  · try first | contradiction | omega | (simp only [decide_eq_true_eq, decide_eq_false_iff_not] at h153; omega)
                                                    all_goals
                                                      refine e_iconst (v := nI 0) dX11_rounds_170 rfl ?_
                                                      refine e_istore_n dX11_rounds_171 rfl (Nat.le_of_ble_eq_true rfl) rfl ?_
                                                      refine e_goto (tgt := 39) dX11_rounds_172 (by decide) ?_
                                                      first | (exfalso; omega) | (rw [h163] at ih2; exact ih2)
                                                  · try first | contradiction | omega | (simp only [decide_eq_true_eq, decide_eq_false_iff_not] at h153; omega)
                                                    all_goals
                                                      refine e_aload_n dX11_rounds_156 rfl rfl ?_
                                                      refine x_V0 (M' := mX11_evenOf) dX11_rounds_157 ml_X11_358 ok_X11_evenOf (by decide) rfl im_X11_evenOf se_X11_evenOf (ct_X11_evenOf ‹_› ap1) (Nat.le_of_ble_eq_true rfl) (by decide) (Nat.le_of_ble_eq_true rfl) ?_
                                                      refine e_iload_n dX11_rounds_160 rfl rfl ?_
                                                      first | ((with_reducible refine mk_n ?_); refine n_i2l dX11_rounds_161 (by omega) ?_) | refine e_i2l dX11_rounds_161 ?_
                                                      refine e_lcmp dX11_rounds_162 ?_
                                                      first | ((with_reducible refine mk_lo ?_); refine o_if_le (tgt := 170) dX11_rounds_163 (by decide) (by omega) (by first | assumption | (intro _ he; cases he; done)) (fun h163 => ?_) (fun h163 => ?_)) | ((with_reducible refine mk_ll ?_); refine m_if_le (tgt := 170) dX11_rounds_163 (by decide) (by omega) (by omega) (fun h163 => ?_) (fun h163 => ?_)) | ((with_reducible refine mk_lc ?_); refine l_if_le (tgt := 170) dX11_rounds_163 (by decide) (fun h163 => ?_) (fun h163 => ?_)) | ((with_reducible refine mk_n ?_); refine n_if_le (tgt := 170) dX11_rounds_163 (by decide) (by omega) (fun h163 => ?_) (fun h163 => ?_)) | refine e_if_le (tgt := 170) dX11_rounds_163 (by decide) (fun h163 => ?_) (fun h163 => ?_)
                                                      · try first | contradiction | omega
                                                        all_goals
                                                          refine e_iconst (v := nI 0) dX11_rounds_170 rfl ?_
                                                          refine e_istore_n dX11_rounds_171 rfl (Nat.le_of_ble_eq_true rfl) rfl ?_
                                                          refine e_goto (tgt := 39) dX11_rounds_172 (by decide) ?_
                                                          first | (exfalso; omega) | (rw [h163] at ih2; exact ih2)
                                                      · try first | contradiction | omega
                                                        all_goals
                                                          refine e_iconst (v := nI 1) dX11_rounds_166 rfl ?_
                                                          refine e_goto (tgt := 171) dX11_rounds_167 (by decide) ?_
                                                          refine e_istore_n dX11_rounds_171 rfl (Nat.le_of_ble_eq_true rfl) rfl ?_
                                                          refine e_goto (tgt := 39) dX11_rounds_172 (by decide) ?_
                                                          first | (exfalso; omega) | (rw [h163] at ih2; exact ih2)
                                              · try first | contradiction | omega | (simp only [decide_eq_true_eq, decide_eq_false_iff_not] at h139; omega)
                                                all_goals
                                                  refine e_iconst (v := nI 0) dX11_rounds_142 rfl ?_
                                                  refine e_goto (tgt := 147) dX11_rounds_143 (by decide) ?_
                                                  first | ((with_reducible refine mk_nn ?_); refine n_iadd dX11_rounds_147 ?_) | refine e_iadd dX11_rounds_147 ?_
                                                  refine e_istore_n dX11_rounds_148 rfl (Nat.le_of_ble_eq_true rfl) rfl ?_
                                                  refine e_aload_n dX11_rounds_149 rfl rfl ?_
                                                  refine e_getI dX11_rounds_150 fl_X11_365 rfl ?_
                                                  rw [nxH_a]
                                                  first | ((with_reducible refine mk_b ?_); refine b_if_eq (tgt := 170) dX11_rounds_153 (by decide) (fun h153 => ?_) (fun h153 => ?_)) | ((with_reducible refine mk_ll ?_); refine m_if_eq (tgt := 170) dX11_rounds_153 (by decide) (by omega) (by omega) (fun h153 => ?_) (fun h153 => ?_)) | ((with_reducible refine mk_lc ?_); refine l_if_eq (tgt := 170) dX11_rounds_153 (by decide) (fun h153 => ?_) (fun h153 => ?_)) | ((with_reducible refine mk_n ?_); refine n_if_eq (tgt := 170) dX11_rounds_153 (by decide) (by omega) (fun h153 => ?_) (fun h153 => ?_)) | refine e_if_eq (tgt := 170) dX11_rounds_153 (by decide) (fun h153 => ?_) (fun h153 => ?_)
                                                  · try first | contradiction | omega | (simp only [decide_eq_true_eq, decide_eq_false_iff_not] at h153; omega)
                                                    all_goals
                                                      refine e_iconst (v := nI 0) dX11_rounds_170 rfl ?_
                                                      refine e_istore_n dX11_rounds_171 rfl (Nat.le_of_ble_eq_true rfl) rfl ?_
                                                      refine e_goto (tgt := 39) dX11_rounds_172 (by decide) ?_
                                                      first | (exfalso; omega) | (rw [h163] at ih2; exact ih2)
                                                  · try first | contradiction | omega | (simp only [decide_eq_true_eq, decide_eq_false_iff_not] at h153; omega)
                                                    all_goals
                                                      refine e_aload_n dX11_rounds_156 rfl rfl ?_
                                                      refine x_V0 (M' := mX11_evenOf) dX11_rounds_157 ml_X11_358 ok_X11_evenOf (by decide) rfl im_X11_evenOf se_X11_evenOf (ct_X11_evenOf ‹_› ap1) (Nat.le_of_ble_eq_true rfl) (by decide) (Nat.le_of_ble_eq_true rfl) ?_
                                                      refine e_iload_n dX11_rounds_160 rfl rfl ?_
                                                      first | ((with_reducible refine mk_n ?_); refine n_i2l dX11_rounds_161 (by omega) ?_) | refine e_i2l dX11_rounds_161 ?_
                                                      refine e_lcmp dX11_rounds_162 ?_
                                                      first | ((with_reducible refine mk_lo ?_); refine o_if_le (tgt := 170) dX11_rounds_163 (by decide) (by omega) (by first | assumption | (intro _ he; cases he; done)) (fun h163 => ?_) (fun h163 => ?_)) | ((with_reducible refine mk_ll ?_); refine m_if_le (tgt := 170) dX11_rounds_163 (by decide) (by omega) (by omega) (fun h163 => ?_) (fun h163 => ?_)) | ((with_reducible refine mk_lc ?_); refine l_if_le (tgt := 170) dX11_rounds_163 (by decide) (fun h163 => ?_) (fun h163 => ?_)) | ((with_reducible refine mk_n ?_); refine n_if_le (tgt := 170) dX11_rounds_163 (by decide) (by omega) (fun h163 => ?_) (fun h163 => ?_)) | refine e_if_le (tgt := 170) dX11_rounds_163 (by decide) (fun h163 => ?_) (fun h163 => ?_)
                                                      · try first | contradiction | omega
                                                        all_goals
                                                          refine e_iconst (v := nI 0) dX11_rounds_170 rfl ?_
                                                          refine e_istore_n dX11_rounds_171 rfl (Nat.le_of_ble_eq_true rfl) rfl ?_
                                                          refine e_goto (tgt := 39) dX11_rounds_172 (by decide) ?_
                                                          first | (exfalso; omega) | (rw [h163] at ih2; exact ih2)
                                                      · try first | contradiction | omega
                                                        all_goals
                                                          refine e_iconst (v := nI 1) dX11_rounds_166 rfl ?_
                                                          refine e_goto (tgt := 171) dX11_rounds_167 (by decide) ?_
                                                          refine e_istore_n dX11_rounds_171 rfl (Nat.le_of_ble_eq_true rfl) rfl ?_
                                                          refine e_goto (tgt := 39) dX11_rounds_172 (by decide) ?_
                                                          first | (exfalso; omega) | (rw [h163] at ih2; exact ih2)
                              · try first | contradiction | omega | (simp only [decide_eq_true_eq, decide_eq_false_iff_not] at h82; omega)
                                all_goals
                                  refine e_aload_n dX11_rounds_85 rfl rfl ?_
                                  refine e_getR dX11_rounds_86 fl_X11_7 rfl (by assumption) ?_
                                  refine e_bipush (v := nI 42) dX11_rounds_89 rfl ?_
                                  refine e_aload_n dX11_rounds_91 rfl rfl ?_
                                  refine e_getI dX11_rounds_92 fl_X11_368 rfl ?_
                                  rw [nxH_b]
                                  first | ((with_reducible refine mk_nn ?_); refine n_iadd dX11_rounds_95 ?_) | refine e_iadd dX11_rounds_95 ?_
                                  refine e_aload_n dX11_rounds_96 rfl rfl ?_
                                  refine e_getI dX11_rounds_97 fl_X11_371 rfl ?_
                                  rw [nxH_c]
                                  first | ((with_reducible refine mk_stw ?_); refine e_stw dX11_rounds_100 (by omega) ?_) | refine e_iast _ dX11_rounds_100 ⟨by decide, by decide⟩ rfl rfl (by simp only [lenK]; omega) ?_
                                  refine e_goto (tgt := 129) dX11_rounds_101 (by decide) ?_
                                  refine e_iload_n dX11_rounds_129 rfl rfl ?_
                                  refine e_aload_n dX11_rounds_130 rfl rfl ?_
                                  refine e_getI dX11_rounds_131 fl_X11_365 rfl ?_
                                  rw [nxH_a]
                                  first | ((with_reducible refine mk_b ?_); refine b_if_eq (tgt := 142) dX11_rounds_134 (by decide) (fun h134 => ?_) (fun h134 => ?_)) | ((with_reducible refine mk_ll ?_); refine m_if_eq (tgt := 142) dX11_rounds_134 (by decide) (by omega) (by omega) (fun h134 => ?_) (fun h134 => ?_)) | ((with_reducible refine mk_lc ?_); refine l_if_eq (tgt := 142) dX11_rounds_134 (by decide) (fun h134 => ?_) (fun h134 => ?_)) | ((with_reducible refine mk_n ?_); refine n_if_eq (tgt := 142) dX11_rounds_134 (by decide) (by omega) (fun h134 => ?_) (fun h134 => ?_)) | refine e_if_eq (tgt := 142) dX11_rounds_134 (by decide) (fun h134 => ?_) (fun h134 => ?_)
                                  · try first | contradiction | omega | (simp only [decide_eq_true_eq, decide_eq_false_iff_not] at h134; omega)
                                    all_goals
                                      refine e_iconst (v := nI 0) dX11_rounds_142 rfl ?_
                                      refine e_goto (tgt := 147) dX11_rounds_143 (by decide) ?_
                                      first | ((with_reducible refine mk_nn ?_); refine n_iadd dX11_rounds_147 ?_) | refine e_iadd dX11_rounds_147 ?_
                                      refine e_istore_n dX11_rounds_148 rfl (Nat.le_of_ble_eq_true rfl) rfl ?_
                                      refine e_aload_n dX11_rounds_149 rfl rfl ?_
                                      refine e_getI dX11_rounds_150 fl_X11_365 rfl ?_
                                      rw [nxH_a]
                                      first | ((with_reducible refine mk_b ?_); refine b_if_eq (tgt := 170) dX11_rounds_153 (by decide) (fun h153 => ?_) (fun h153 => ?_)) | ((with_reducible refine mk_ll ?_); refine m_if_eq (tgt := 170) dX11_rounds_153 (by decide) (by omega) (by omega) (fun h153 => ?_) (fun h153 => ?_)) | ((with_reducible refine mk_lc ?_); refine l_if_eq (tgt := 170) dX11_rounds_153 (by decide) (fun h153 => ?_) (fun h153 => ?_)) | ((with_reducible refine mk_n ?_); refine n_if_eq (tgt := 170) dX11_rounds_153 (by decide) (by omega) (fun h153 => ?_) (fun h153 => ?_)) | refine e_if_eq (tgt := 170) dX11_rounds_153 (by decide) (fun h153 => ?_) (fun h153 => ?_)
                                      · try first | contradiction | omega | (simp only [decide_eq_true_eq, decide_eq_false_iff_not] at h153; omega)
                                        all_goals
                                          refine e_iconst (v := nI 0) dX11_rounds_170 rfl ?_
                                          refine e_istore_n dX11_rounds_171 rfl (Nat.le_of_ble_eq_true rfl) rfl ?_
                                          refine e_goto (tgt := 39) dX11_rounds_172 (by decide) ?_
                                          first | (exfalso; omega) | (rw [h163] at ih2; exact ih2)
                                      · try first | contradiction | omega | (simp only [decide_eq_true_eq, decide_eq_false_iff_not] at h153; omega)
                                        all_goals
                                          refine e_aload_n dX11_rounds_156 rfl rfl ?_
                                          refine x_V0 (M' := mX11_evenOf) dX11_rounds_157 ml_X11_358 ok_X11_evenOf (by decide) rfl im_X11_evenOf se_X11_evenOf (ct_X11_evenOf ‹_› ap1) (Nat.le_of_ble_eq_true rfl) (by decide) (Nat.le_of_ble_eq_true rfl) ?_
                                          refine e_iload_n dX11_rounds_160 rfl rfl ?_
                                          first | ((with_reducible refine mk_n ?_); refine n_i2l dX11_rounds_161 (by omega) ?_) | refine e_i2l dX11_rounds_161 ?_
                                          refine e_lcmp dX11_rounds_162 ?_
                                          first | ((with_reducible refine mk_lo ?_); refine o_if_le (tgt := 170) dX11_rounds_163 (by decide) (by omega) (by first | assumption | (intro _ he; cases he; done)) (fun h163 => ?_) (fun h163 => ?_)) | ((with_reducible refine mk_ll ?_); refine m_if_le (tgt := 170) dX11_rounds_163 (by decide) (by omega) (by omega) (fun h163 => ?_) (fun h163 => ?_)) | ((with_reducible refine mk_lc ?_); refine l_if_le (tgt := 170) dX11_rounds_163 (by decide) (fun h163 => ?_) (fun h163 => ?_)) | ((with_reducible refine mk_n ?_); refine n_if_le (tgt := 170) dX11_rounds_163 (by decide) (by omega) (fun h163 => ?_) (fun h163 => ?_)) | refine e_if_le (tgt := 170) dX11_rounds_163 (by decide) (fun h163 => ?_) (fun h163 => ?_)
                                          · try first | contradiction | omega
                                            all_goals
                                              refine e_iconst (v := nI 0) dX11_rounds_170 rfl ?_
                                              refine e_istore_n dX11_rounds_171 rfl (Nat.le_of_ble_eq_true rfl) rfl ?_
                                              refine e_goto (tgt := 39) dX11_rounds_172 (by decide) ?_
                                              first | (exfalso; omega) | (rw [h163] at ih2; exact ih2)
                                          · try first | contradiction | omega
                                            all_goals
                                              refine e_iconst (v := nI 1) dX11_rounds_166 rfl ?_
                                              refine e_goto (tgt := 171) dX11_rounds_167 (by decide) ?_
                                              refine e_istore_n dX11_rounds_171 rfl (Nat.le_of_ble_eq_true rfl) rfl ?_
                                              refine e_goto (tgt := 39) dX11_rounds_172 (by decide) ?_
                                              first | (exfalso; omega) | (rw [h163] at ih2; exact ih2)
                                  · try first | contradiction | omega | (simp only [decide_eq_true_eq, decide_eq_false_iff_not] at h134; omega)
                                    all_goals
                                      refine e_iload dX11_rounds_137 rfl ?_
                                      first | ((with_reducible refine mk_b ?_); refine b_if_eq (tgt := 146) dX11_rounds_139 (by decide) (fun h139 => ?_) (fun h139 => ?_)) | ((with_reducible refine mk_ll ?_); refine m_if_eq (tgt := 146) dX11_rounds_139 (by decide) (by omega) (by omega) (fun h139 => ?_) (fun h139 => ?_)) | ((with_reducible refine mk_lc ?_); refine l_if_eq (tgt := 146) dX11_rounds_139 (by decide) (fun h139 => ?_) (fun h139 => ?_)) | ((with_reducible refine mk_n ?_); refine n_if_eq (tgt := 146) dX11_rounds_139 (by decide) (by omega) (fun h139 => ?_) (fun h139 => ?_)) | refine e_if_eq (tgt := 146) dX11_rounds_139 (by decide) (fun h139 => ?_) (fun h139 => ?_)
                                      · try first | contradiction | omega | (simp only [decide_eq_true_eq, decide_eq_false_iff_not] at h139; omega)
                                        all_goals
                                          refine e_iconst (v := nI 1) dX11_rounds_146 rfl ?_
                                          first | ((with_reducible refine mk_nn ?_); refine n_iadd dX11_rounds_147 ?_) | refine e_iadd dX11_rounds_147 ?_
                                          refine e_istore_n dX11_rounds_148 rfl (Nat.le_of_ble_eq_true rfl) rfl ?_
                                          refine e_aload_n dX11_rounds_149 rfl rfl ?_
                                          refine e_getI dX11_rounds_150 fl_X11_365 rfl ?_
                                          rw [nxH_a]
                                          first | ((with_reducible refine mk_b ?_); refine b_if_eq (tgt := 170) dX11_rounds_153 (by decide) (fun h153 => ?_) (fun h153 => ?_)) | ((with_reducible refine mk_ll ?_); refine m_if_eq (tgt := 170) dX11_rounds_153 (by decide) (by omega) (by omega) (fun h153 => ?_) (fun h153 => ?_)) | ((with_reducible refine mk_lc ?_); refine l_if_eq (tgt := 170) dX11_rounds_153 (by decide) (fun h153 => ?_) (fun h153 => ?_)) | ((with_reducible refine mk_n ?_); refine n_if_eq (tgt := 170) dX11_rounds_153 (by decide) (by omega) (fun h153 => ?_) (fun h153 => ?_)) | refine e_if_eq (tgt := 170) dX11_rounds_153 (by decide) (fun h153 => ?_) (fun h153 => ?_)
                                          · try first | contradiction | omega | (simp only [decide_eq_true_eq, decide_eq_false_iff_not] at h153; omega)
                                            all_goals
                                              refine e_iconst (v := nI 0) dX11_rounds_170 rfl ?_
                                              refine e_istore_n dX11_rounds_171 rfl (Nat.le_of_ble_eq_true rfl) rfl ?_
                                              refine e_goto (tgt := 39) dX11_rounds_172 (by decide) ?_
                                              first | (exfalso; omega) | (rw [h163] at ih2; exact ih2)
                                          · try first | contradiction | omega | (simp only [decide_eq_true_eq, decide_eq_false_iff_not] at h153; omega)
                                            all_goals
                                              refine e_aload_n dX11_rounds_156 rfl rfl ?_
                                              refine x_V0 (M' := mX11_evenOf) dX11_rounds_157 ml_X11_358 ok_X11_evenOf (by decide) rfl im_X11_evenOf se_X11_evenOf (ct_X11_evenOf ‹_› ap1) (Nat.le_of_ble_eq_true rfl) (by decide) (Nat.le_of_ble_eq_true rfl) ?_
                                              refine e_iload_n dX11_rounds_160 rfl rfl ?_
                                              first | ((with_reducible refine mk_n ?_); refine n_i2l dX11_rounds_161 (by omega) ?_) | refine e_i2l dX11_rounds_161 ?_
                                              refine e_lcmp dX11_rounds_162 ?_
                                              first | ((with_reducible refine mk_lo ?_); refine o_if_le (tgt := 170) dX11_rounds_163 (by decide) (by omega) (by first | assumption | (intro _ he; cases he; done)) (fun h163 => ?_) (fun h163 => ?_)) | ((with_reducible refine mk_ll ?_); refine m_if_le (tgt := 170) dX11_rounds_163 (by decide) (by omega) (by omega) (fun h163 => ?_) (fun h163 => ?_)) | ((with_reducible refine mk_lc ?_); refine l_if_le (tgt := 170) dX11_rounds_163 (by decide) (fun h163 => ?_) (fun h163 => ?_)) | ((with_reducible refine mk_n ?_); refine n_if_le (tgt := 170) dX11_rounds_163 (by decide) (by omega) (fun h163 => ?_) (fun h163 => ?_)) | refine e_if_le (tgt := 170) dX11_rounds_163 (by decide) (fun h163 => ?_) (fun h163 => ?_)
                                              · try first | contradiction | omega
                                                all_goals
                                                  refine e_iconst (v := nI 0) dX11_rounds_170 rfl ?_
                                                  refine e_istore_n dX11_rounds_171 rfl (Nat.le_of_ble_eq_true rfl) rfl ?_
                                                  refine e_goto (tgt := 39) dX11_rounds_172 (by decide) ?_
                                                  first | (exfalso; omega) | (rw [h163] at ih2; exact ih2)
                                              · try first | contradiction | omega
                                                all_goals
                                                  refine e_iconst (v := nI 1) dX11_rounds_166 rfl ?_
                                                  refine e_goto (tgt := 171) dX11_rounds_167 (by decide) ?_
                                                  refine e_istore_n dX11_rounds_171 rfl (Nat.le_of_ble_eq_true rfl) rfl ?_
                                                  refine e_goto (tgt := 39) dX11_rounds_172 (by decide) ?_
                                                  first | (exfalso; omega) | (rw [h163] at ih2; exact ih2)
                                      · try first | contradiction | omega | (simp only [decide_eq_true_eq, decide_eq_false_iff_not] at h139; omega)
                                        all_goals
                                          refine e_iconst (v := nI 0) dX11_rounds_142 rfl ?_
                                          refine e_goto (tgt := 147) dX11_rounds_143 (by decide) ?_
                                          first | ((with_reducible refine mk_nn ?_); refine n_iadd dX11_rounds_147 ?_) | refine e_iadd dX11_rounds_147 ?_
                                          refine e_istore_n dX11_rounds_148 rfl (Nat.le_of_ble_eq_true rfl) rfl ?_
                                          refine e_aload_n dX11_rounds_149 rfl rfl ?_
                                          refine e_getI dX11_rounds_150 fl_X11_365 rfl ?_
                                          rw [nxH_a]
                                          first | ((with_reducible refine mk_b ?_); refine b_if_eq (tgt := 170) dX11_rounds_153 (by decide) (fun h153 => ?_) (fun h153 => ?_)) | ((with_reducible refine mk_ll ?_); refine m_if_eq (tgt := 170) dX11_rounds_153 (by decide) (by omega) (by omega) (fun h153 => ?_) (fun h153 => ?_)) | ((with_reducible refine mk_lc ?_); refine l_if_eq (tgt := 170) dX11_rounds_153 (by decide) (fun h153 => ?_) (fun h153 => ?_)) | ((with_reducible refine mk_n ?_); refine n_if_eq (tgt := 170) dX11_rounds_153 (by decide) (by omega) (fun h153 => ?_) (fun h153 => ?_)) | refine e_if_eq (tgt := 170) dX11_rounds_153 (by decide) (fun h153 => ?_) (fun h153 => ?_)
                                          · try first | contradiction | omega | (simp only [decide_eq_true_eq, decide_eq_false_iff_not] at h153; omega)
                                            all_goals
                                              refine e_iconst (v := nI 0) dX11_rounds_170 rfl ?_
                                              refine e_istore_n dX11_rounds_171 rfl (Nat.le_of_ble_eq_true rfl) rfl ?_
                                              refine e_goto (tgt := 39) dX11_rounds_172 (by decide) ?_
                                              first | (exfalso; omega) | (rw [h163] at ih2; exact ih2)
                                          · try first | contradiction | omega | (simp only [decide_eq_true_eq, decide_eq_false_iff_not] at h153; omega)
                                            all_goals
                                              refine e_aload_n dX11_rounds_156 rfl rfl ?_
                                              refine x_V0 (M' := mX11_evenOf) dX11_rounds_157 ml_X11_358 ok_X11_evenOf (by decide) rfl im_X11_evenOf se_X11_evenOf (ct_X11_evenOf ‹_› ap1) (Nat.le_of_ble_eq_true rfl) (by decide) (Nat.le_of_ble_eq_true rfl) ?_
                                              refine e_iload_n dX11_rounds_160 rfl rfl ?_
                                              first | ((with_reducible refine mk_n ?_); refine n_i2l dX11_rounds_161 (by omega) ?_) | refine e_i2l dX11_rounds_161 ?_
                                              refine e_lcmp dX11_rounds_162 ?_
                                              first | ((with_reducible refine mk_lo ?_); refine o_if_le (tgt := 170) dX11_rounds_163 (by decide) (by omega) (by first | assumption | (intro _ he; cases he; done)) (fun h163 => ?_) (fun h163 => ?_)) | ((with_reducible refine mk_ll ?_); refine m_if_le (tgt := 170) dX11_rounds_163 (by decide) (by omega) (by omega) (fun h163 => ?_) (fun h163 => ?_)) | ((with_reducible refine mk_lc ?_); refine l_if_le (tgt := 170) dX11_rounds_163 (by decide) (fun h163 => ?_) (fun h163 => ?_)) | ((with_reducible refine mk_n ?_); refine n_if_le (tgt := 170) dX11_rounds_163 (by decide) (by omega) (fun h163 => ?_) (fun h163 => ?_)) | refine e_if_le (tgt := 170) dX11_rounds_163 (by decide) (fun h163 => ?_) (fun h163 => ?_)
                                              · try first | contradiction | omega
                                                all_goals
                                                  refine e_iconst (v := nI 0) dX11_rounds_170 rfl ?_
                                                  refine e_istore_n dX11_rounds_171 rfl (Nat.le_of_ble_eq_true rfl) rfl ?_
                                                  refine e_goto (tgt := 39) dX11_rounds_172 (by decide) ?_
                                                  first | (exfalso; omega) | (rw [h163] at ih2; exact ih2)
                                              · try first | contradiction | omega
                                                all_goals
                                                  refine e_iconst (v := nI 1) dX11_rounds_166 rfl ?_
                                                  refine e_goto (tgt := 171) dX11_rounds_167 (by decide) ?_
                                                  refine e_istore_n dX11_rounds_171 rfl (Nat.le_of_ble_eq_true rfl) rfl ?_
                                                  refine e_goto (tgt := 39) dX11_rounds_172 (by decide) ?_
                                                  first | (exfalso; omega) | (rw [h163] at ih2; exact ih2)
                      · try first | contradiction | omega
                        all_goals
                          omega
            · have eap : apW v q = splW v q.2.1 q.2.2 := by unfold apW; rw [if_neg (by omega)]
              rw [eap] at ih2 ap1 hol2
              refine e_iload_n dX11_rounds_39 rfl rfl ?_
              first | ((with_reducible refine mk_b ?_); refine b_if_eq (tgt := 175) dX11_rounds_40 (by decide) (fun h40 => ?_) (fun h40 => ?_)) | ((with_reducible refine mk_ll ?_); refine m_if_eq (tgt := 175) dX11_rounds_40 (by decide) (by omega) (by omega) (fun h40 => ?_) (fun h40 => ?_)) | ((with_reducible refine mk_lc ?_); refine l_if_eq (tgt := 175) dX11_rounds_40 (by decide) (fun h40 => ?_) (fun h40 => ?_)) | ((with_reducible refine mk_n ?_); refine n_if_eq (tgt := 175) dX11_rounds_40 (by decide) (by omega) (fun h40 => ?_) (fun h40 => ?_)) | refine e_if_eq (tgt := 175) dX11_rounds_40 (by decide) (fun h40 => ?_) (fun h40 => ?_)
              · try first | contradiction | omega | (simp only [decide_eq_true_eq, decide_eq_false_iff_not] at h40; omega)
                all_goals
                  refine e_aload_n dX11_rounds_175 rfl rfl ?_
                  refine y_V0 (M' := mX11_comesBack) dX11_rounds_176 ml_X11_386 ok_X11_comesBack (by decide) rfl im_X11_comesBack se_X11_comesBack (ct_X11_comesBack ‹_› hv) (Nat.le_of_ble_eq_true rfl) (by decide) (Nat.le_of_ble_eq_true rfl) ?_
                  refine e_iload_n dX11_rounds_179 rfl rfl ?_
                  first | ((with_reducible refine mk_b ?_); refine b_if_eq (tgt := 187) dX11_rounds_180 (by decide) (fun h180 => ?_) (fun h180 => ?_)) | ((with_reducible refine mk_ll ?_); refine m_if_eq (tgt := 187) dX11_rounds_180 (by decide) (by omega) (by omega) (fun h180 => ?_) (fun h180 => ?_)) | ((with_reducible refine mk_lc ?_); refine l_if_eq (tgt := 187) dX11_rounds_180 (by decide) (fun h180 => ?_) (fun h180 => ?_)) | ((with_reducible refine mk_n ?_); refine n_if_eq (tgt := 187) dX11_rounds_180 (by decide) (by omega) (fun h180 => ?_) (fun h180 => ?_)) | refine e_if_eq (tgt := 187) dX11_rounds_180 (by decide) (fun h180 => ?_) (fun h180 => ?_)
                  · try first | contradiction | omega | (simp only [decide_eq_true_eq, decide_eq_false_iff_not] at h180; omega)
                    all_goals
                      refine e_iload_n dX11_rounds_187 rfl rfl ?_
                      refine e_ret (some _) rfl (r_int dX11_rounds_188 rfl) ?_
                      first | contradiction | exact ⟨rfl, hfi, rfl, ⟨_, by rw [ov_w hvq]⟩, rfl, rfl⟩
                  · try first | contradiction | omega | (simp only [decide_eq_true_eq, decide_eq_false_iff_not] at h180; omega)
                    all_goals
                      refine e_iconst (v := -1) dX11_rounds_183 rfl ?_
                      refine e_goto (tgt := 188) dX11_rounds_184 (by decide) ?_
                      refine e_ret (some _) rfl (r_int dX11_rounds_188 rfl) ?_
                      first | contradiction | exact ⟨rfl, hfi, rfl, ⟨_, by rw [ov_w hvq]⟩, rfl, rfl⟩
              · try first | contradiction | omega | (simp only [decide_eq_true_eq, decide_eq_false_iff_not] at h40; omega)
                all_goals
                  refine e_iload dX11_rounds_43 rfl ?_
                  first | ((with_reducible refine mk_b ?_); refine b_if_ne (tgt := 175) dX11_rounds_45 (by decide) (fun h45 => ?_) (fun h45 => ?_)) | ((with_reducible refine mk_ll ?_); refine m_if_ne (tgt := 175) dX11_rounds_45 (by decide) (by omega) (by omega) (fun h45 => ?_) (fun h45 => ?_)) | ((with_reducible refine mk_lc ?_); refine l_if_ne (tgt := 175) dX11_rounds_45 (by decide) (fun h45 => ?_) (fun h45 => ?_)) | ((with_reducible refine mk_n ?_); refine n_if_ne (tgt := 175) dX11_rounds_45 (by decide) (by omega) (fun h45 => ?_) (fun h45 => ?_)) | refine e_if_ne (tgt := 175) dX11_rounds_45 (by decide) (fun h45 => ?_) (fun h45 => ?_)
                  · try first | contradiction | omega | (simp only [decide_eq_true_eq, decide_eq_false_iff_not] at h45; omega)
                    all_goals
                      refine e_aload_n dX11_rounds_175 rfl rfl ?_
                      refine y_V0 (M' := mX11_comesBack) dX11_rounds_176 ml_X11_386 ok_X11_comesBack (by decide) rfl im_X11_comesBack se_X11_comesBack (ct_X11_comesBack ‹_› hv) (Nat.le_of_ble_eq_true rfl) (by decide) (Nat.le_of_ble_eq_true rfl) ?_
                      refine e_iload_n dX11_rounds_179 rfl rfl ?_
                      first | ((with_reducible refine mk_b ?_); refine b_if_eq (tgt := 187) dX11_rounds_180 (by decide) (fun h180 => ?_) (fun h180 => ?_)) | ((with_reducible refine mk_ll ?_); refine m_if_eq (tgt := 187) dX11_rounds_180 (by decide) (by omega) (by omega) (fun h180 => ?_) (fun h180 => ?_)) | ((with_reducible refine mk_lc ?_); refine l_if_eq (tgt := 187) dX11_rounds_180 (by decide) (fun h180 => ?_) (fun h180 => ?_)) | ((with_reducible refine mk_n ?_); refine n_if_eq (tgt := 187) dX11_rounds_180 (by decide) (by omega) (fun h180 => ?_) (fun h180 => ?_)) | refine e_if_eq (tgt := 187) dX11_rounds_180 (by decide) (fun h180 => ?_) (fun h180 => ?_)
                      · try first | contradiction | omega | (simp only [decide_eq_true_eq, decide_eq_false_iff_not] at h180; omega)
                        all_goals
                          refine e_iload_n dX11_rounds_187 rfl rfl ?_
                          refine e_ret (some _) rfl (r_int dX11_rounds_188 rfl) ?_
                          first | contradiction | exact ⟨rfl, hfi, rfl, ⟨_, by rw [ov_w hvq]⟩, rfl, rfl⟩
                      · try first | contradiction | omega | (simp only [decide_eq_true_eq, decide_eq_false_iff_not] at h180; omega)
                        all_goals
                          refine e_iconst (v := -1) dX11_rounds_183 rfl ?_
                          refine e_goto (tgt := 188) dX11_rounds_184 (by decide) ?_
                          refine e_ret (some _) rfl (r_int dX11_rounds_188 rfl) ?_
                          first | contradiction | exact ⟨rfl, hfi, rfl, ⟨_, by rw [ov_w hvq]⟩, rfl, rfl⟩
                  · try first | contradiction | omega | (simp only [decide_eq_true_eq, decide_eq_false_iff_not] at h45; omega)
                    all_goals
                      refine e_aload_n dX11_rounds_48 rfl rfl ?_
                      refine y_V0 (M' := mX11_laysNext) dX11_rounds_49 ml_X11_381 ok_X11_laysNext (by decide) rfl im_X11_laysNext se_X11_laysNext (ct_X11_laysNext ‹_› hv1) (Nat.le_of_ble_eq_true rfl) (by decide) (Nat.le_of_ble_eq_true rfl) ?_
                      rw [hnx, nxH_2, er1, er2, er3]
                      refine e_iload_n dX11_rounds_52 rfl rfl ?_
                      refine e_bipush (v := nI 40) dX11_rounds_53 rfl ?_
                      first | ((with_reducible refine mk_mo ?_); refine p_icmp_ne (tgt := 69) dX11_rounds_55 (by decide) (fun h55 => ?_) (fun h55 => ?_)) | ((with_reducible refine mk_ms ?_); refine s_icmp_ne (tgt := 69) dX11_rounds_55 (by decide) (by omega) (fun h55 => ?_) (fun h55 => ?_)) | ((with_reducible refine mk_mn ?_); refine q_icmp_ne (tgt := 69) dX11_rounds_55 (by decide) (by omega) (fun h55 => ?_) (fun h55 => ?_)) | ((with_reducible refine mk_nn ?_); refine n_icmp_ne (tgt := 69) dX11_rounds_55 (by decide) (by omega) (by omega) (fun h55 => ?_) (fun h55 => ?_)) | refine e_icmp_ne (tgt := 69) dX11_rounds_55 (by decide) (fun h55 => ?_) (fun h55 => ?_)
                      · try first | contradiction | omega
                        all_goals
                          refine e_iconst (v := nI 0) dX11_rounds_69 rfl ?_
                          refine e_istore dX11_rounds_70 (Nat.le_of_ble_eq_true rfl) rfl ?_
                          refine e_aload_n dX11_rounds_72 rfl rfl ?_
                          refine e_getI dX11_rounds_73 fl_X11_365 rfl ?_
                          rw [nxH_a]
                          refine e_iconst (v := nI 1) dX11_rounds_76 rfl ?_
                          first | ((with_reducible refine mk_mo ?_); refine p_icmp_ne (tgt := 104) dX11_rounds_77 (by decide) (fun h77 => ?_) (fun h77 => ?_)) | ((with_reducible refine mk_ms ?_); refine s_icmp_ne (tgt := 104) dX11_rounds_77 (by decide) (by omega) (fun h77 => ?_) (fun h77 => ?_)) | ((with_reducible refine mk_mn ?_); refine q_icmp_ne (tgt := 104) dX11_rounds_77 (by decide) (by omega) (fun h77 => ?_) (fun h77 => ?_)) | ((with_reducible refine mk_nn ?_); refine n_icmp_ne (tgt := 104) dX11_rounds_77 (by decide) (by omega) (by omega) (fun h77 => ?_) (fun h77 => ?_)) | refine e_icmp_ne (tgt := 104) dX11_rounds_77 (by decide) (fun h77 => ?_) (fun h77 => ?_)
                          · try first | contradiction | omega
                            all_goals
                              refine e_aload_n dX11_rounds_104 rfl rfl ?_
                              refine e_getI dX11_rounds_105 fl_X11_365 rfl ?_
                              rw [nxH_a]
                              refine e_iconst (v := nI 2) dX11_rounds_108 rfl ?_
                              first | ((with_reducible refine mk_mo ?_); refine p_icmp_ne (tgt := 129) dX11_rounds_109 (by decide) (fun h109 => ?_) (fun h109 => ?_)) | ((with_reducible refine mk_ms ?_); refine s_icmp_ne (tgt := 129) dX11_rounds_109 (by decide) (by omega) (fun h109 => ?_) (fun h109 => ?_)) | ((with_reducible refine mk_mn ?_); refine q_icmp_ne (tgt := 129) dX11_rounds_109 (by decide) (by omega) (fun h109 => ?_) (fun h109 => ?_)) | ((with_reducible refine mk_nn ?_); refine n_icmp_ne (tgt := 129) dX11_rounds_109 (by decide) (by omega) (by omega) (fun h109 => ?_) (fun h109 => ?_)) | refine e_icmp_ne (tgt := 129) dX11_rounds_109 (by decide) (fun h109 => ?_) (fun h109 => ?_)
                              · try first | contradiction | omega
                                all_goals
                                  refine e_iload_n dX11_rounds_129 rfl rfl ?_
                                  refine e_aload_n dX11_rounds_130 rfl rfl ?_
                                  refine e_getI dX11_rounds_131 fl_X11_365 rfl ?_
                                  rw [nxH_a]
                                  first | ((with_reducible refine mk_b ?_); refine b_if_eq (tgt := 142) dX11_rounds_134 (by decide) (fun h134 => ?_) (fun h134 => ?_)) | ((with_reducible refine mk_ll ?_); refine m_if_eq (tgt := 142) dX11_rounds_134 (by decide) (by omega) (by omega) (fun h134 => ?_) (fun h134 => ?_)) | ((with_reducible refine mk_lc ?_); refine l_if_eq (tgt := 142) dX11_rounds_134 (by decide) (fun h134 => ?_) (fun h134 => ?_)) | ((with_reducible refine mk_n ?_); refine n_if_eq (tgt := 142) dX11_rounds_134 (by decide) (by omega) (fun h134 => ?_) (fun h134 => ?_)) | refine e_if_eq (tgt := 142) dX11_rounds_134 (by decide) (fun h134 => ?_) (fun h134 => ?_)
                                  · try first | contradiction | omega | (simp only [decide_eq_true_eq, decide_eq_false_iff_not] at h134; omega)
                                    all_goals
                                      refine e_iconst (v := nI 0) dX11_rounds_142 rfl ?_
                                      refine e_goto (tgt := 147) dX11_rounds_143 (by decide) ?_
                                      first | ((with_reducible refine mk_nn ?_); refine n_iadd dX11_rounds_147 ?_) | refine e_iadd dX11_rounds_147 ?_
                                      refine e_istore_n dX11_rounds_148 rfl (Nat.le_of_ble_eq_true rfl) rfl ?_
                                      refine e_aload_n dX11_rounds_149 rfl rfl ?_
                                      refine e_getI dX11_rounds_150 fl_X11_365 rfl ?_
                                      rw [nxH_a]
                                      first | ((with_reducible refine mk_b ?_); refine b_if_eq (tgt := 170) dX11_rounds_153 (by decide) (fun h153 => ?_) (fun h153 => ?_)) | ((with_reducible refine mk_ll ?_); refine m_if_eq (tgt := 170) dX11_rounds_153 (by decide) (by omega) (by omega) (fun h153 => ?_) (fun h153 => ?_)) | ((with_reducible refine mk_lc ?_); refine l_if_eq (tgt := 170) dX11_rounds_153 (by decide) (fun h153 => ?_) (fun h153 => ?_)) | ((with_reducible refine mk_n ?_); refine n_if_eq (tgt := 170) dX11_rounds_153 (by decide) (by omega) (fun h153 => ?_) (fun h153 => ?_)) | refine e_if_eq (tgt := 170) dX11_rounds_153 (by decide) (fun h153 => ?_) (fun h153 => ?_)
                                      · try first | contradiction | omega | (simp only [decide_eq_true_eq, decide_eq_false_iff_not] at h153; omega)
                                        all_goals
                                          refine e_iconst (v := nI 0) dX11_rounds_170 rfl ?_
                                          refine e_istore_n dX11_rounds_171 rfl (Nat.le_of_ble_eq_true rfl) rfl ?_
                                          refine e_goto (tgt := 39) dX11_rounds_172 (by decide) ?_
                                          first | (exfalso; omega) | (rw [h163] at ih2; exact ih2)
                                      · try first | contradiction | omega | (simp only [decide_eq_true_eq, decide_eq_false_iff_not] at h153; omega)
                                        all_goals
                                          refine e_aload_n dX11_rounds_156 rfl rfl ?_
                                          refine x_V0 (M' := mX11_evenOf) dX11_rounds_157 ml_X11_358 ok_X11_evenOf (by decide) rfl im_X11_evenOf se_X11_evenOf (ct_X11_evenOf ‹_› ap1) (Nat.le_of_ble_eq_true rfl) (by decide) (Nat.le_of_ble_eq_true rfl) ?_
                                          refine e_iload_n dX11_rounds_160 rfl rfl ?_
                                          first | ((with_reducible refine mk_n ?_); refine n_i2l dX11_rounds_161 (by omega) ?_) | refine e_i2l dX11_rounds_161 ?_
                                          refine e_lcmp dX11_rounds_162 ?_
                                          first | ((with_reducible refine mk_lo ?_); refine o_if_le (tgt := 170) dX11_rounds_163 (by decide) (by omega) (by first | assumption | (intro _ he; cases he; done)) (fun h163 => ?_) (fun h163 => ?_)) | ((with_reducible refine mk_ll ?_); refine m_if_le (tgt := 170) dX11_rounds_163 (by decide) (by omega) (by omega) (fun h163 => ?_) (fun h163 => ?_)) | ((with_reducible refine mk_lc ?_); refine l_if_le (tgt := 170) dX11_rounds_163 (by decide) (fun h163 => ?_) (fun h163 => ?_)) | ((with_reducible refine mk_n ?_); refine n_if_le (tgt := 170) dX11_rounds_163 (by decide) (by omega) (fun h163 => ?_) (fun h163 => ?_)) | refine e_if_le (tgt := 170) dX11_rounds_163 (by decide) (fun h163 => ?_) (fun h163 => ?_)
                                          · try first | contradiction | omega
                                            all_goals
                                              refine e_iconst (v := nI 0) dX11_rounds_170 rfl ?_
                                              refine e_istore_n dX11_rounds_171 rfl (Nat.le_of_ble_eq_true rfl) rfl ?_
                                              refine e_goto (tgt := 39) dX11_rounds_172 (by decide) ?_
                                              first | (exfalso; omega) | (rw [h163] at ih2; exact ih2)
                                          · try first | contradiction | omega
                                            all_goals
                                              refine e_iconst (v := nI 1) dX11_rounds_166 rfl ?_
                                              refine e_goto (tgt := 171) dX11_rounds_167 (by decide) ?_
                                              refine e_istore_n dX11_rounds_171 rfl (Nat.le_of_ble_eq_true rfl) rfl ?_
                                              refine e_goto (tgt := 39) dX11_rounds_172 (by decide) ?_
                                              first | (exfalso; omega) | (rw [h163] at ih2; exact ih2)
                                  · try first | contradiction | omega | (simp only [decide_eq_true_eq, decide_eq_false_iff_not] at h134; omega)
                                    all_goals
                                      refine e_iload dX11_rounds_137 rfl ?_
                                      first | ((with_reducible refine mk_b ?_); refine b_if_eq (tgt := 146) dX11_rounds_139 (by decide) (fun h139 => ?_) (fun h139 => ?_)) | ((with_reducible refine mk_ll ?_); refine m_if_eq (tgt := 146) dX11_rounds_139 (by decide) (by omega) (by omega) (fun h139 => ?_) (fun h139 => ?_)) | ((with_reducible refine mk_lc ?_); refine l_if_eq (tgt := 146) dX11_rounds_139 (by decide) (fun h139 => ?_) (fun h139 => ?_)) | ((with_reducible refine mk_n ?_); refine n_if_eq (tgt := 146) dX11_rounds_139 (by decide) (by omega) (fun h139 => ?_) (fun h139 => ?_)) | refine e_if_eq (tgt := 146) dX11_rounds_139 (by decide) (fun h139 => ?_) (fun h139 => ?_)
                                      · try first | contradiction | omega | (simp only [decide_eq_true_eq, decide_eq_false_iff_not] at h139; omega)
                                        all_goals
                                          refine e_iconst (v := nI 1) dX11_rounds_146 rfl ?_
                                          first | ((with_reducible refine mk_nn ?_); refine n_iadd dX11_rounds_147 ?_) | refine e_iadd dX11_rounds_147 ?_
                                          refine e_istore_n dX11_rounds_148 rfl (Nat.le_of_ble_eq_true rfl) rfl ?_
                                          refine e_aload_n dX11_rounds_149 rfl rfl ?_
                                          refine e_getI dX11_rounds_150 fl_X11_365 rfl ?_
                                          rw [nxH_a]
                                          first | ((with_reducible refine mk_b ?_); refine b_if_eq (tgt := 170) dX11_rounds_153 (by decide) (fun h153 => ?_) (fun h153 => ?_)) | ((with_reducible refine mk_ll ?_); refine m_if_eq (tgt := 170) dX11_rounds_153 (by decide) (by omega) (by omega) (fun h153 => ?_) (fun h153 => ?_)) | ((with_reducible refine mk_lc ?_); refine l_if_eq (tgt := 170) dX11_rounds_153 (by decide) (fun h153 => ?_) (fun h153 => ?_)) | ((with_reducible refine mk_n ?_); refine n_if_eq (tgt := 170) dX11_rounds_153 (by decide) (by omega) (fun h153 => ?_) (fun h153 => ?_)) | refine e_if_eq (tgt := 170) dX11_rounds_153 (by decide) (fun h153 => ?_) (fun h153 => ?_)
                                          · try first | contradiction | omega | (simp only [decide_eq_true_eq, decide_eq_false_iff_not] at h153; omega)
                                            all_goals
                                              refine e_iconst (v := nI 0) dX11_rounds_170 rfl ?_
                                              refine e_istore_n dX11_rounds_171 rfl (Nat.le_of_ble_eq_true rfl) rfl ?_
                                              refine e_goto (tgt := 39) dX11_rounds_172 (by decide) ?_
                                              first | (exfalso; omega) | (rw [h163] at ih2; exact ih2)
                                          · try first | contradiction | omega | (simp only [decide_eq_true_eq, decide_eq_false_iff_not] at h153; omega)
                                            all_goals
                                              refine e_aload_n dX11_rounds_156 rfl rfl ?_
                                              refine x_V0 (M' := mX11_evenOf) dX11_rounds_157 ml_X11_358 ok_X11_evenOf (by decide) rfl im_X11_evenOf se_X11_evenOf (ct_X11_evenOf ‹_› ap1) (Nat.le_of_ble_eq_true rfl) (by decide) (Nat.le_of_ble_eq_true rfl) ?_
                                              refine e_iload_n dX11_rounds_160 rfl rfl ?_
                                              first | ((with_reducible refine mk_n ?_); refine n_i2l dX11_rounds_161 (by omega) ?_) | refine e_i2l dX11_rounds_161 ?_
                                              refine e_lcmp dX11_rounds_162 ?_
                                              first | ((with_reducible refine mk_lo ?_); refine o_if_le (tgt := 170) dX11_rounds_163 (by decide) (by omega) (by first | assumption | (intro _ he; cases he; done)) (fun h163 => ?_) (fun h163 => ?_)) | ((with_reducible refine mk_ll ?_); refine m_if_le (tgt := 170) dX11_rounds_163 (by decide) (by omega) (by omega) (fun h163 => ?_) (fun h163 => ?_)) | ((with_reducible refine mk_lc ?_); refine l_if_le (tgt := 170) dX11_rounds_163 (by decide) (fun h163 => ?_) (fun h163 => ?_)) | ((with_reducible refine mk_n ?_); refine n_if_le (tgt := 170) dX11_rounds_163 (by decide) (by omega) (fun h163 => ?_) (fun h163 => ?_)) | refine e_if_le (tgt := 170) dX11_rounds_163 (by decide) (fun h163 => ?_) (fun h163 => ?_)
                                              · try first | contradiction | omega
                                                all_goals
                                                  refine e_iconst (v := nI 0) dX11_rounds_170 rfl ?_
                                                  refine e_istore_n dX11_rounds_171 rfl (Nat.le_of_ble_eq_true rfl) rfl ?_
                                                  refine e_goto (tgt := 39) dX11_rounds_172 (by decide) ?_
                                                  first | (exfalso; omega) | (rw [h163] at ih2; exact ih2)
                                              · try first | contradiction | omega
                                                all_goals
                                                  refine e_iconst (v := nI 1) dX11_rounds_166 rfl ?_
                                                  refine e_goto (tgt := 171) dX11_rounds_167 (by decide) ?_
                                                  refine e_istore_n dX11_rounds_171 rfl (Nat.le_of_ble_eq_true rfl) rfl ?_
                                                  refine e_goto (tgt := 39) dX11_rounds_172 (by decide) ?_
                                                  first | (exfalso; omega) | (rw [h163] at ih2; exact ih2)
                                      · try first | contradiction | omega | (simp only [decide_eq_true_eq, decide_eq_false_iff_not] at h139; omega)
                                        all_goals
                                          refine e_iconst (v := nI 0) dX11_rounds_142 rfl ?_
                                          refine e_goto (tgt := 147) dX11_rounds_143 (by decide) ?_
                                          first | ((with_reducible refine mk_nn ?_); refine n_iadd dX11_rounds_147 ?_) | refine e_iadd dX11_rounds_147 ?_
                                          refine e_istore_n dX11_rounds_148 rfl (Nat.le_of_ble_eq_true rfl) rfl ?_
                                          refine e_aload_n dX11_rounds_149 rfl rfl ?_
                                          refine e_getI dX11_rounds_150 fl_X11_365 rfl ?_
                                          rw [nxH_a]
                                          first | ((with_reducible refine mk_b ?_); refine b_if_eq (tgt := 170) dX11_rounds_153 (by decide) (fun h153 => ?_) (fun h153 => ?_)) | ((with_reducible refine mk_ll ?_); refine m_if_eq (tgt := 170) dX11_rounds_153 (by decide) (by omega) (by omega) (fun h153 => ?_) (fun h153 => ?_)) | ((with_reducible refine mk_lc ?_); refine l_if_eq (tgt := 170) dX11_rounds_153 (by decide) (fun h153 => ?_) (fun h153 => ?_)) | ((with_reducible refine mk_n ?_); refine n_if_eq (tgt := 170) dX11_rounds_153 (by decide) (by omega) (fun h153 => ?_) (fun h153 => ?_)) | refine e_if_eq (tgt := 170) dX11_rounds_153 (by decide) (fun h153 => ?_) (fun h153 => ?_)
                                          · try first | contradiction | omega | (simp only [decide_eq_true_eq, decide_eq_false_iff_not] at h153; omega)
                                            all_goals
                                              refine e_iconst (v := nI 0) dX11_rounds_170 rfl ?_
                                              refine e_istore_n dX11_rounds_171 rfl (Nat.le_of_ble_eq_true rfl) rfl ?_
                                              refine e_goto (tgt := 39) dX11_rounds_172 (by decide) ?_
                                              first | (exfalso; omega) | (rw [h163] at ih2; exact ih2)
                                          · try first | contradiction | omega | (simp only [decide_eq_true_eq, decide_eq_false_iff_not] at h153; omega)
                                            all_goals
                                              refine e_aload_n dX11_rounds_156 rfl rfl ?_
                                              refine x_V0 (M' := mX11_evenOf) dX11_rounds_157 ml_X11_358 ok_X11_evenOf (by decide) rfl im_X11_evenOf se_X11_evenOf (ct_X11_evenOf ‹_› ap1) (Nat.le_of_ble_eq_true rfl) (by decide) (Nat.le_of_ble_eq_true rfl) ?_
                                              refine e_iload_n dX11_rounds_160 rfl rfl ?_
                                              first | ((with_reducible refine mk_n ?_); refine n_i2l dX11_rounds_161 (by omega) ?_) | refine e_i2l dX11_rounds_161 ?_
                                              refine e_lcmp dX11_rounds_162 ?_
                                              first | ((with_reducible refine mk_lo ?_); refine o_if_le (tgt := 170) dX11_rounds_163 (by decide) (by omega) (by first | assumption | (intro _ he; cases he; done)) (fun h163 => ?_) (fun h163 => ?_)) | ((with_reducible refine mk_ll ?_); refine m_if_le (tgt := 170) dX11_rounds_163 (by decide) (by omega) (by omega) (fun h163 => ?_) (fun h163 => ?_)) | ((with_reducible refine mk_lc ?_); refine l_if_le (tgt := 170) dX11_rounds_163 (by decide) (fun h163 => ?_) (fun h163 => ?_)) | ((with_reducible refine mk_n ?_); refine n_if_le (tgt := 170) dX11_rounds_163 (by decide) (by omega) (fun h163 => ?_) (fun h163 => ?_)) | refine e_if_le (tgt := 170) dX11_rounds_163 (by decide) (fun h163 => ?_) (fun h163 => ?_)
                                              · try first | contradiction | omega
                                                all_goals
                                                  refine e_iconst (v := nI 0) dX11_rounds_170 rfl ?_
                                                  refine e_istore_n dX11_rounds_171 rfl (Nat.le_of_ble_eq_true rfl) rfl ?_
                                                  refine e_goto (tgt := 39) dX11_rounds_172 (by decide) ?_
                                                  first | (exfalso; omega) | (rw [h163] at ih2; exact ih2)
                                              · try first | contradiction | omega
                                                all_goals
                                                  refine e_iconst (v := nI 1) dX11_rounds_166 rfl ?_
                                                  refine e_goto (tgt := 171) dX11_rounds_167 (by decide) ?_
                                                  refine e_istore_n dX11_rounds_171 rfl (Nat.le_of_ble_eq_true rfl) rfl ?_
                                                  refine e_goto (tgt := 39) dX11_rounds_172 (by decide) ?_
                                                  first | (exfalso; omega) | (rw [h163] at ih2; exact ih2)
                              · try first | contradiction | omega
                                all_goals
                                  refine e_iload dX11_rounds_112 rfl ?_
                                  first | ((with_reducible refine mk_b ?_); refine b_if_ne (tgt := 129) dX11_rounds_114 (by decide) (fun h114 => ?_) (fun h114 => ?_)) | ((with_reducible refine mk_ll ?_); refine m_if_ne (tgt := 129) dX11_rounds_114 (by decide) (by omega) (by omega) (fun h114 => ?_) (fun h114 => ?_)) | ((with_reducible refine mk_lc ?_); refine l_if_ne (tgt := 129) dX11_rounds_114 (by decide) (fun h114 => ?_) (fun h114 => ?_)) | ((with_reducible refine mk_n ?_); refine n_if_ne (tgt := 129) dX11_rounds_114 (by decide) (by omega) (fun h114 => ?_) (fun h114 => ?_)) | refine e_if_ne (tgt := 129) dX11_rounds_114 (by decide) (fun h114 => ?_) (fun h114 => ?_)
                                  · try first | contradiction | omega | (simp only [decide_eq_true_eq, decide_eq_false_iff_not] at h114; omega)
                                    all_goals
                                      refine e_iload_n dX11_rounds_129 rfl rfl ?_
                                      refine e_aload_n dX11_rounds_130 rfl rfl ?_
                                      refine e_getI dX11_rounds_131 fl_X11_365 rfl ?_
                                      rw [nxH_a]
                                      first | ((with_reducible refine mk_b ?_); refine b_if_eq (tgt := 142) dX11_rounds_134 (by decide) (fun h134 => ?_) (fun h134 => ?_)) | ((with_reducible refine mk_ll ?_); refine m_if_eq (tgt := 142) dX11_rounds_134 (by decide) (by omega) (by omega) (fun h134 => ?_) (fun h134 => ?_)) | ((with_reducible refine mk_lc ?_); refine l_if_eq (tgt := 142) dX11_rounds_134 (by decide) (fun h134 => ?_) (fun h134 => ?_)) | ((with_reducible refine mk_n ?_); refine n_if_eq (tgt := 142) dX11_rounds_134 (by decide) (by omega) (fun h134 => ?_) (fun h134 => ?_)) | refine e_if_eq (tgt := 142) dX11_rounds_134 (by decide) (fun h134 => ?_) (fun h134 => ?_)
                                      · try first | contradiction | omega | (simp only [decide_eq_true_eq, decide_eq_false_iff_not] at h134; omega)
                                        all_goals
                                          refine e_iconst (v := nI 0) dX11_rounds_142 rfl ?_
                                          refine e_goto (tgt := 147) dX11_rounds_143 (by decide) ?_
                                          first | ((with_reducible refine mk_nn ?_); refine n_iadd dX11_rounds_147 ?_) | refine e_iadd dX11_rounds_147 ?_
                                          refine e_istore_n dX11_rounds_148 rfl (Nat.le_of_ble_eq_true rfl) rfl ?_
                                          refine e_aload_n dX11_rounds_149 rfl rfl ?_
                                          refine e_getI dX11_rounds_150 fl_X11_365 rfl ?_
                                          rw [nxH_a]
                                          first | ((with_reducible refine mk_b ?_); refine b_if_eq (tgt := 170) dX11_rounds_153 (by decide) (fun h153 => ?_) (fun h153 => ?_)) | ((with_reducible refine mk_ll ?_); refine m_if_eq (tgt := 170) dX11_rounds_153 (by decide) (by omega) (by omega) (fun h153 => ?_) (fun h153 => ?_)) | ((with_reducible refine mk_lc ?_); refine l_if_eq (tgt := 170) dX11_rounds_153 (by decide) (fun h153 => ?_) (fun h153 => ?_)) | ((with_reducible refine mk_n ?_); refine n_if_eq (tgt := 170) dX11_rounds_153 (by decide) (by omega) (fun h153 => ?_) (fun h153 => ?_)) | refine e_if_eq (tgt := 170) dX11_rounds_153 (by decide) (fun h153 => ?_) (fun h153 => ?_)
                                          · try first | contradiction | omega | (simp only [decide_eq_true_eq, decide_eq_false_iff_not] at h153; omega)
                                            all_goals
                                              refine e_iconst (v := nI 0) dX11_rounds_170 rfl ?_
                                              refine e_istore_n dX11_rounds_171 rfl (Nat.le_of_ble_eq_true rfl) rfl ?_
                                              refine e_goto (tgt := 39) dX11_rounds_172 (by decide) ?_
                                              first | (exfalso; omega) | (rw [h163] at ih2; exact ih2)
                                          · try first | contradiction | omega | (simp only [decide_eq_true_eq, decide_eq_false_iff_not] at h153; omega)
                                            all_goals
                                              refine e_aload_n dX11_rounds_156 rfl rfl ?_
                                              refine x_V0 (M' := mX11_evenOf) dX11_rounds_157 ml_X11_358 ok_X11_evenOf (by decide) rfl im_X11_evenOf se_X11_evenOf (ct_X11_evenOf ‹_› ap1) (Nat.le_of_ble_eq_true rfl) (by decide) (Nat.le_of_ble_eq_true rfl) ?_
                                              refine e_iload_n dX11_rounds_160 rfl rfl ?_
                                              first | ((with_reducible refine mk_n ?_); refine n_i2l dX11_rounds_161 (by omega) ?_) | refine e_i2l dX11_rounds_161 ?_
                                              refine e_lcmp dX11_rounds_162 ?_
                                              first | ((with_reducible refine mk_lo ?_); refine o_if_le (tgt := 170) dX11_rounds_163 (by decide) (by omega) (by first | assumption | (intro _ he; cases he; done)) (fun h163 => ?_) (fun h163 => ?_)) | ((with_reducible refine mk_ll ?_); refine m_if_le (tgt := 170) dX11_rounds_163 (by decide) (by omega) (by omega) (fun h163 => ?_) (fun h163 => ?_)) | ((with_reducible refine mk_lc ?_); refine l_if_le (tgt := 170) dX11_rounds_163 (by decide) (fun h163 => ?_) (fun h163 => ?_)) | ((with_reducible refine mk_n ?_); refine n_if_le (tgt := 170) dX11_rounds_163 (by decide) (by omega) (fun h163 => ?_) (fun h163 => ?_)) | refine e_if_le (tgt := 170) dX11_rounds_163 (by decide) (fun h163 => ?_) (fun h163 => ?_)
                                              · try first | contradiction | omega
                                                all_goals
                                                  refine e_iconst (v := nI 0) dX11_rounds_170 rfl ?_
                                                  refine e_istore_n dX11_rounds_171 rfl (Nat.le_of_ble_eq_true rfl) rfl ?_
                                                  refine e_goto (tgt := 39) dX11_rounds_172 (by decide) ?_
                                                  first | (exfalso; omega) | (rw [h163] at ih2; exact ih2)
                                              · try first | contradiction | omega
                                                all_goals
                                                  refine e_iconst (v := nI 1) dX11_rounds_166 rfl ?_
                                                  refine e_goto (tgt := 171) dX11_rounds_167 (by decide) ?_
                                                  refine e_istore_n dX11_rounds_171 rfl (Nat.le_of_ble_eq_true rfl) rfl ?_
                                                  refine e_goto (tgt := 39) dX11_rounds_172 (by decide) ?_
                                                  first | (exfalso; omega) | (rw [h163] at ih2; exact ih2)
                                      · try first | contradiction | omega | (simp only [decide_eq_true_eq, decide_eq_false_iff_not] at h134; omega)
                                        all_goals
                                          refine e_iload dX11_rounds_137 rfl ?_
                                          first | ((with_reducible refine mk_b ?_); refine b_if_eq (tgt := 146) dX11_rounds_139 (by decide) (fun h139 => ?_) (fun h139 => ?_)) | ((with_reducible refine mk_ll ?_); refine m_if_eq (tgt := 146) dX11_rounds_139 (by decide) (by omega) (by omega) (fun h139 => ?_) (fun h139 => ?_)) | ((with_reducible refine mk_lc ?_); refine l_if_eq (tgt := 146) dX11_rounds_139 (by decide) (fun h139 => ?_) (fun h139 => ?_)) | ((with_reducible refine mk_n ?_); refine n_if_eq (tgt := 146) dX11_rounds_139 (by decide) (by omega) (fun h139 => ?_) (fun h139 => ?_)) | refine e_if_eq (tgt := 146) dX11_rounds_139 (by decide) (fun h139 => ?_) (fun h139 => ?_)
                                          · try first | contradiction | omega | (simp only [decide_eq_true_eq, decide_eq_false_iff_not] at h139; omega)
                                            all_goals
                                              refine e_iconst (v := nI 1) dX11_rounds_146 rfl ?_
                                              first | ((with_reducible refine mk_nn ?_); refine n_iadd dX11_rounds_147 ?_) | refine e_iadd dX11_rounds_147 ?_
                                              refine e_istore_n dX11_rounds_148 rfl (Nat.le_of_ble_eq_true rfl) rfl ?_
                                              refine e_aload_n dX11_rounds_149 rfl rfl ?_
                                              refine e_getI dX11_rounds_150 fl_X11_365 rfl ?_
                                              rw [nxH_a]
                                              first | ((with_reducible refine mk_b ?_); refine b_if_eq (tgt := 170) dX11_rounds_153 (by decide) (fun h153 => ?_) (fun h153 => ?_)) | ((with_reducible refine mk_ll ?_); refine m_if_eq (tgt := 170) dX11_rounds_153 (by decide) (by omega) (by omega) (fun h153 => ?_) (fun h153 => ?_)) | ((with_reducible refine mk_lc ?_); refine l_if_eq (tgt := 170) dX11_rounds_153 (by decide) (fun h153 => ?_) (fun h153 => ?_)) | ((with_reducible refine mk_n ?_); refine n_if_eq (tgt := 170) dX11_rounds_153 (by decide) (by omega) (fun h153 => ?_) (fun h153 => ?_)) | refine e_if_eq (tgt := 170) dX11_rounds_153 (by decide) (fun h153 => ?_) (fun h153 => ?_)
                                              · try first | contradiction | omega | (simp only [decide_eq_true_eq, decide_eq_false_iff_not] at h153; omega)
                                                all_goals
                                                  refine e_iconst (v := nI 0) dX11_rounds_170 rfl ?_
                                                  refine e_istore_n dX11_rounds_171 rfl (Nat.le_of_ble_eq_true rfl) rfl ?_
                                                  refine e_goto (tgt := 39) dX11_rounds_172 (by decide) ?_
                                                  first | (exfalso; omega) | (rw [h163] at ih2; exact ih2)
                                              · try first | contradiction | omega | (simp only [decide_eq_true_eq, decide_eq_false_iff_not] at h153; omega)
                                                all_goals
                                                  refine e_aload_n dX11_rounds_156 rfl rfl ?_
                                                  refine x_V0 (M' := mX11_evenOf) dX11_rounds_157 ml_X11_358 ok_X11_evenOf (by decide) rfl im_X11_evenOf se_X11_evenOf (ct_X11_evenOf ‹_› ap1) (Nat.le_of_ble_eq_true rfl) (by decide) (Nat.le_of_ble_eq_true rfl) ?_
                                                  refine e_iload_n dX11_rounds_160 rfl rfl ?_
                                                  first | ((with_reducible refine mk_n ?_); refine n_i2l dX11_rounds_161 (by omega) ?_) | refine e_i2l dX11_rounds_161 ?_
                                                  refine e_lcmp dX11_rounds_162 ?_
                                                  first | ((with_reducible refine mk_lo ?_); refine o_if_le (tgt := 170) dX11_rounds_163 (by decide) (by omega) (by first | assumption | (intro _ he; cases he; done)) (fun h163 => ?_) (fun h163 => ?_)) | ((with_reducible refine mk_ll ?_); refine m_if_le (tgt := 170) dX11_rounds_163 (by decide) (by omega) (by omega) (fun h163 => ?_) (fun h163 => ?_)) | ((with_reducible refine mk_lc ?_); refine l_if_le (tgt := 170) dX11_rounds_163 (by decide) (fun h163 => ?_) (fun h163 => ?_)) | ((with_reducible refine mk_n ?_); refine n_if_le (tgt := 170) dX11_rounds_163 (by decide) (by omega) (fun h163 => ?_) (fun h163 => ?_)) | refine e_if_le (tgt := 170) dX11_rounds_163 (by decide) (fun h163 => ?_) (fun h163 => ?_)
                                                  · try first | contradiction | omega
                                                    all_goals
                                                      refine e_iconst (v := nI 0) dX11_rounds_170 rfl ?_
                                                      refine e_istore_n dX11_rounds_171 rfl (Nat.le_of_ble_eq_true rfl) rfl ?_
                                                      refine e_goto (tgt := 39) dX11_rounds_172 (by decide) ?_
                                                      first | (exfalso; omega) | (rw [h163] at ih2; exact ih2)
                                                  · try first | contradiction | omega
                                                    all_goals
                                                      refine e_iconst (v := nI 1) dX11_rounds_166 rfl ?_
                                                      refine e_goto (tgt := 171) dX11_rounds_167 (by decide) ?_
                                                      refine e_istore_n dX11_rounds_171 rfl (Nat.le_of_ble_eq_true rfl) rfl ?_
                                                      refine e_goto (tgt := 39) dX11_rounds_172 (by decide) ?_
                                                      first | (exfalso; omega) | (rw [h163] at ih2; exact ih2)
                                          · try first | contradiction | omega | (simp only [decide_eq_true_eq, decide_eq_false_iff_not] at h139; omega)
                                            all_goals
                                              refine e_iconst (v := nI 0) dX11_rounds_142 rfl ?_
                                              refine e_goto (tgt := 147) dX11_rounds_143 (by decide) ?_
                                              first | ((with_reducible refine mk_nn ?_); refine n_iadd dX11_rounds_147 ?_) | refine e_iadd dX11_rounds_147 ?_
                                              refine e_istore_n dX11_rounds_148 rfl (Nat.le_of_ble_eq_true rfl) rfl ?_
                                              refine e_aload_n dX11_rounds_149 rfl rfl ?_
                                              refine e_getI dX11_rounds_150 fl_X11_365 rfl ?_
                                              rw [nxH_a]
                                              first | ((with_reducible refine mk_b ?_); refine b_if_eq (tgt := 170) dX11_rounds_153 (by decide) (fun h153 => ?_) (fun h153 => ?_)) | ((with_reducible refine mk_ll ?_); refine m_if_eq (tgt := 170) dX11_rounds_153 (by decide) (by omega) (by omega) (fun h153 => ?_) (fun h153 => ?_)) | ((with_reducible refine mk_lc ?_); refine l_if_eq (tgt := 170) dX11_rounds_153 (by decide) (fun h153 => ?_) (fun h153 => ?_)) | ((with_reducible refine mk_n ?_); refine n_if_eq (tgt := 170) dX11_rounds_153 (by decide) (by omega) (fun h153 => ?_) (fun h153 => ?_)) | refine e_if_eq (tgt := 170) dX11_rounds_153 (by decide) (fun h153 => ?_) (fun h153 => ?_)
                                              · try first | contradiction | omega | (simp only [decide_eq_true_eq, decide_eq_false_iff_not] at h153; omega)
                                                all_goals
                                                  refine e_iconst (v := nI 0) dX11_rounds_170 rfl ?_
                                                  refine e_istore_n dX11_rounds_171 rfl (Nat.le_of_ble_eq_true rfl) rfl ?_
                                                  refine e_goto (tgt := 39) dX11_rounds_172 (by decide) ?_
                                                  first | (exfalso; omega) | (rw [h163] at ih2; exact ih2)
                                              · try first | contradiction | omega | (simp only [decide_eq_true_eq, decide_eq_false_iff_not] at h153; omega)
                                                all_goals
                                                  refine e_aload_n dX11_rounds_156 rfl rfl ?_
                                                  refine x_V0 (M' := mX11_evenOf) dX11_rounds_157 ml_X11_358 ok_X11_evenOf (by decide) rfl im_X11_evenOf se_X11_evenOf (ct_X11_evenOf ‹_› ap1) (Nat.le_of_ble_eq_true rfl) (by decide) (Nat.le_of_ble_eq_true rfl) ?_
                                                  refine e_iload_n dX11_rounds_160 rfl rfl ?_
                                                  first | ((with_reducible refine mk_n ?_); refine n_i2l dX11_rounds_161 (by omega) ?_) | refine e_i2l dX11_rounds_161 ?_
                                                  refine e_lcmp dX11_rounds_162 ?_
                                                  first | ((with_reducible refine mk_lo ?_); refine o_if_le (tgt := 170) dX11_rounds_163 (by decide) (by omega) (by first | assumption | (intro _ he; cases he; done)) (fun h163 => ?_) (fun h163 => ?_)) | ((with_reducible refine mk_ll ?_); refine m_if_le (tgt := 170) dX11_rounds_163 (by decide) (by omega) (by omega) (fun h163 => ?_) (fun h163 => ?_)) | ((with_reducible refine mk_lc ?_); refine l_if_le (tgt := 170) dX11_rounds_163 (by decide) (fun h163 => ?_) (fun h163 => ?_)) | ((with_reducible refine mk_n ?_); refine n_if_le (tgt := 170) dX11_rounds_163 (by decide) (by omega) (fun h163 => ?_) (fun h163 => ?_)) | refine e_if_le (tgt := 170) dX11_rounds_163 (by decide) (fun h163 => ?_) (fun h163 => ?_)
                                                  · try first | contradiction | omega
                                                    all_goals
                                                      refine e_iconst (v := nI 0) dX11_rounds_170 rfl ?_
                                                      refine e_istore_n dX11_rounds_171 rfl (Nat.le_of_ble_eq_true rfl) rfl ?_
                                                      refine e_goto (tgt := 39) dX11_rounds_172 (by decide) ?_
                                                      first | (exfalso; omega) | (rw [h163] at ih2; exact ih2)
                                                  · try first | contradiction | omega
                                                    all_goals
                                                      refine e_iconst (v := nI 1) dX11_rounds_166 rfl ?_
                                                      refine e_goto (tgt := 171) dX11_rounds_167 (by decide) ?_
                                                      refine e_istore_n dX11_rounds_171 rfl (Nat.le_of_ble_eq_true rfl) rfl ?_
                                                      refine e_goto (tgt := 39) dX11_rounds_172 (by decide) ?_
                                                      first | (exfalso; omega) | (rw [h163] at ih2; exact ih2)
                                  · try first | contradiction | omega | (simp only [decide_eq_true_eq, decide_eq_false_iff_not] at h114; omega)
                                    all_goals
                                      refine e_aload_n dX11_rounds_117 rfl rfl ?_
                                      refine e_aload_n dX11_rounds_118 rfl rfl ?_
                                      refine e_getI dX11_rounds_119 fl_X11_368 rfl ?_
                                      rw [nxH_b]
                                      refine e_aload_n dX11_rounds_122 rfl rfl ?_
                                      refine e_getI dX11_rounds_123 fl_X11_371 rfl ?_
                                      rw [nxH_c]
                                      refine y_V2 (M' := mX11_splits) dX11_rounds_126 ml_X11_89 ok_X11_splits (by decide) rfl im_X11_splits se_X11_splits (ct_X11_splits ‹_› hv1 hq.1 (by omega)) (Nat.le_of_ble_eq_true rfl) (by decide) (Nat.le_of_ble_eq_true rfl) ?_
                                      refine e_iload_n dX11_rounds_129 rfl rfl ?_
                                      refine e_aload_n dX11_rounds_130 rfl rfl ?_
                                      refine e_getI dX11_rounds_131 fl_X11_365 rfl ?_
                                      rw [nxH_a]
                                      first | ((with_reducible refine mk_b ?_); refine b_if_eq (tgt := 142) dX11_rounds_134 (by decide) (fun h134 => ?_) (fun h134 => ?_)) | ((with_reducible refine mk_ll ?_); refine m_if_eq (tgt := 142) dX11_rounds_134 (by decide) (by omega) (by omega) (fun h134 => ?_) (fun h134 => ?_)) | ((with_reducible refine mk_lc ?_); refine l_if_eq (tgt := 142) dX11_rounds_134 (by decide) (fun h134 => ?_) (fun h134 => ?_)) | ((with_reducible refine mk_n ?_); refine n_if_eq (tgt := 142) dX11_rounds_134 (by decide) (by omega) (fun h134 => ?_) (fun h134 => ?_)) | refine e_if_eq (tgt := 142) dX11_rounds_134 (by decide) (fun h134 => ?_) (fun h134 => ?_)
                                      · try first | contradiction | omega | (simp only [decide_eq_true_eq, decide_eq_false_iff_not] at h134; omega)
                                        all_goals
                                          refine e_iconst (v := nI 0) dX11_rounds_142 rfl ?_
                                          refine e_goto (tgt := 147) dX11_rounds_143 (by decide) ?_
                                          first | ((with_reducible refine mk_nn ?_); refine n_iadd dX11_rounds_147 ?_) | refine e_iadd dX11_rounds_147 ?_
                                          refine e_istore_n dX11_rounds_148 rfl (Nat.le_of_ble_eq_true rfl) rfl ?_
                                          refine e_aload_n dX11_rounds_149 rfl rfl ?_
                                          refine e_getI dX11_rounds_150 fl_X11_365 rfl ?_
                                          rw [nxH_a]
                                          first | ((with_reducible refine mk_b ?_); refine b_if_eq (tgt := 170) dX11_rounds_153 (by decide) (fun h153 => ?_) (fun h153 => ?_)) | ((with_reducible refine mk_ll ?_); refine m_if_eq (tgt := 170) dX11_rounds_153 (by decide) (by omega) (by omega) (fun h153 => ?_) (fun h153 => ?_)) | ((with_reducible refine mk_lc ?_); refine l_if_eq (tgt := 170) dX11_rounds_153 (by decide) (fun h153 => ?_) (fun h153 => ?_)) | ((with_reducible refine mk_n ?_); refine n_if_eq (tgt := 170) dX11_rounds_153 (by decide) (by omega) (fun h153 => ?_) (fun h153 => ?_)) | refine e_if_eq (tgt := 170) dX11_rounds_153 (by decide) (fun h153 => ?_) (fun h153 => ?_)
                                          · try first | contradiction | omega | (simp only [decide_eq_true_eq, decide_eq_false_iff_not] at h153; omega)
                                            all_goals
                                              refine e_iconst (v := nI 0) dX11_rounds_170 rfl ?_
                                              refine e_istore_n dX11_rounds_171 rfl (Nat.le_of_ble_eq_true rfl) rfl ?_
                                              refine e_goto (tgt := 39) dX11_rounds_172 (by decide) ?_
                                              first | (exfalso; omega) | (rw [h163] at ih2; exact ih2)
                                          · try first | contradiction | omega | (simp only [decide_eq_true_eq, decide_eq_false_iff_not] at h153; omega)
                                            all_goals
                                              refine e_aload_n dX11_rounds_156 rfl rfl ?_
                                              refine x_V0 (M' := mX11_evenOf) dX11_rounds_157 ml_X11_358 ok_X11_evenOf (by decide) rfl im_X11_evenOf se_X11_evenOf (ct_X11_evenOf ‹_› ap1) (Nat.le_of_ble_eq_true rfl) (by decide) (Nat.le_of_ble_eq_true rfl) ?_
                                              refine e_iload_n dX11_rounds_160 rfl rfl ?_
                                              first | ((with_reducible refine mk_n ?_); refine n_i2l dX11_rounds_161 (by omega) ?_) | refine e_i2l dX11_rounds_161 ?_
                                              refine e_lcmp dX11_rounds_162 ?_
                                              first | ((with_reducible refine mk_lo ?_); refine o_if_le (tgt := 170) dX11_rounds_163 (by decide) (by omega) (by first | assumption | (intro _ he; cases he; done)) (fun h163 => ?_) (fun h163 => ?_)) | ((with_reducible refine mk_ll ?_); refine m_if_le (tgt := 170) dX11_rounds_163 (by decide) (by omega) (by omega) (fun h163 => ?_) (fun h163 => ?_)) | ((with_reducible refine mk_lc ?_); refine l_if_le (tgt := 170) dX11_rounds_163 (by decide) (fun h163 => ?_) (fun h163 => ?_)) | ((with_reducible refine mk_n ?_); refine n_if_le (tgt := 170) dX11_rounds_163 (by decide) (by omega) (fun h163 => ?_) (fun h163 => ?_)) | refine e_if_le (tgt := 170) dX11_rounds_163 (by decide) (fun h163 => ?_) (fun h163 => ?_)
                                              · try first | contradiction | omega
                                                all_goals
                                                  refine e_iconst (v := nI 0) dX11_rounds_170 rfl ?_
                                                  refine e_istore_n dX11_rounds_171 rfl (Nat.le_of_ble_eq_true rfl) rfl ?_
                                                  refine e_goto (tgt := 39) dX11_rounds_172 (by decide) ?_
                                                  first | (exfalso; omega) | (rw [h163] at ih2; exact ih2)
                                              · try first | contradiction | omega
                                                all_goals
                                                  refine e_iconst (v := nI 1) dX11_rounds_166 rfl ?_
                                                  refine e_goto (tgt := 171) dX11_rounds_167 (by decide) ?_
                                                  refine e_istore_n dX11_rounds_171 rfl (Nat.le_of_ble_eq_true rfl) rfl ?_
                                                  refine e_goto (tgt := 39) dX11_rounds_172 (by decide) ?_
                                                  first | (exfalso; omega) | (rw [h163] at ih2; exact ih2)
                                      · try first | contradiction | omega | (simp only [decide_eq_true_eq, decide_eq_false_iff_not] at h134; omega)
                                        all_goals
                                          refine e_iload dX11_rounds_137 rfl ?_
                                          first | ((with_reducible refine mk_b ?_); refine b_if_eq (tgt := 146) dX11_rounds_139 (by decide) (fun h139 => ?_) (fun h139 => ?_)) | ((with_reducible refine mk_ll ?_); refine m_if_eq (tgt := 146) dX11_rounds_139 (by decide) (by omega) (by omega) (fun h139 => ?_) (fun h139 => ?_)) | ((with_reducible refine mk_lc ?_); refine l_if_eq (tgt := 146) dX11_rounds_139 (by decide) (fun h139 => ?_) (fun h139 => ?_)) | ((with_reducible refine mk_n ?_); refine n_if_eq (tgt := 146) dX11_rounds_139 (by decide) (by omega) (fun h139 => ?_) (fun h139 => ?_)) | refine e_if_eq (tgt := 146) dX11_rounds_139 (by decide) (fun h139 => ?_) (fun h139 => ?_)
                                          · try first | contradiction | omega | (simp only [decide_eq_true_eq, decide_eq_false_iff_not] at h139; omega)
                                            all_goals
                                              refine e_iconst (v := nI 1) dX11_rounds_146 rfl ?_
                                              first | ((with_reducible refine mk_nn ?_); refine n_iadd dX11_rounds_147 ?_) | refine e_iadd dX11_rounds_147 ?_
                                              refine e_istore_n dX11_rounds_148 rfl (Nat.le_of_ble_eq_true rfl) rfl ?_
                                              refine e_aload_n dX11_rounds_149 rfl rfl ?_
                                              refine e_getI dX11_rounds_150 fl_X11_365 rfl ?_
                                              rw [nxH_a]
                                              first | ((with_reducible refine mk_b ?_); refine b_if_eq (tgt := 170) dX11_rounds_153 (by decide) (fun h153 => ?_) (fun h153 => ?_)) | ((with_reducible refine mk_ll ?_); refine m_if_eq (tgt := 170) dX11_rounds_153 (by decide) (by omega) (by omega) (fun h153 => ?_) (fun h153 => ?_)) | ((with_reducible refine mk_lc ?_); refine l_if_eq (tgt := 170) dX11_rounds_153 (by decide) (fun h153 => ?_) (fun h153 => ?_)) | ((with_reducible refine mk_n ?_); refine n_if_eq (tgt := 170) dX11_rounds_153 (by decide) (by omega) (fun h153 => ?_) (fun h153 => ?_)) | refine e_if_eq (tgt := 170) dX11_rounds_153 (by decide) (fun h153 => ?_) (fun h153 => ?_)
                                              · try first | contradiction | omega | (simp only [decide_eq_true_eq, decide_eq_false_iff_not] at h153; omega)
                                                all_goals
                                                  refine e_iconst (v := nI 0) dX11_rounds_170 rfl ?_
                                                  refine e_istore_n dX11_rounds_171 rfl (Nat.le_of_ble_eq_true rfl) rfl ?_
                                                  refine e_goto (tgt := 39) dX11_rounds_172 (by decide) ?_
                                                  first | (exfalso; omega) | (rw [h163] at ih2; exact ih2)
                                              · try first | contradiction | omega | (simp only [decide_eq_true_eq, decide_eq_false_iff_not] at h153; omega)
                                                all_goals
                                                  refine e_aload_n dX11_rounds_156 rfl rfl ?_
                                                  refine x_V0 (M' := mX11_evenOf) dX11_rounds_157 ml_X11_358 ok_X11_evenOf (by decide) rfl im_X11_evenOf se_X11_evenOf (ct_X11_evenOf ‹_› ap1) (Nat.le_of_ble_eq_true rfl) (by decide) (Nat.le_of_ble_eq_true rfl) ?_
                                                  refine e_iload_n dX11_rounds_160 rfl rfl ?_
                                                  first | ((with_reducible refine mk_n ?_); refine n_i2l dX11_rounds_161 (by omega) ?_) | refine e_i2l dX11_rounds_161 ?_
                                                  refine e_lcmp dX11_rounds_162 ?_
                                                  first | ((with_reducible refine mk_lo ?_); refine o_if_le (tgt := 170) dX11_rounds_163 (by decide) (by omega) (by first | assumption | (intro _ he; cases he; done)) (fun h163 => ?_) (fun h163 => ?_)) | ((with_reducible refine mk_ll ?_); refine m_if_le (tgt := 170) dX11_rounds_163 (by decide) (by omega) (by omega) (fun h163 => ?_) (fun h163 => ?_)) | ((with_reducible refine mk_lc ?_); refine l_if_le (tgt := 170) dX11_rounds_163 (by decide) (fun h163 => ?_) (fun h163 => ?_)) | ((with_reducible refine mk_n ?_); refine n_if_le (tgt := 170) dX11_rounds_163 (by decide) (by omega) (fun h163 => ?_) (fun h163 => ?_)) | refine e_if_le (tgt := 170) dX11_rounds_163 (by decide) (fun h163 => ?_) (fun h163 => ?_)
                                                  · try first | contradiction | omega
                                                    all_goals
                                                      refine e_iconst (v := nI 0) dX11_rounds_170 rfl ?_
                                                      refine e_istore_n dX11_rounds_171 rfl (Nat.le_of_ble_eq_true rfl) rfl ?_
                                                      refine e_goto (tgt := 39) dX11_rounds_172 (by decide) ?_
                                                      first | (exfalso; omega) | (rw [h163] at ih2; exact ih2)
                                                  · try first | contradiction | omega
                                                    all_goals
                                                      refine e_iconst (v := nI 1) dX11_rounds_166 rfl ?_
                                                      refine e_goto (tgt := 171) dX11_rounds_167 (by decide) ?_
                                                      refine e_istore_n dX11_rounds_171 rfl (Nat.le_of_ble_eq_true rfl) rfl ?_
                                                      refine e_goto (tgt := 39) dX11_rounds_172 (by decide) ?_
                                                      first | (exfalso; omega) | (rw [h163] at ih2; exact ih2)
                                          · try first | contradiction | omega | (simp only [decide_eq_true_eq, decide_eq_false_iff_not] at h139; omega)
                                            all_goals
                                              refine e_iconst (v := nI 0) dX11_rounds_142 rfl ?_
                                              refine e_goto (tgt := 147) dX11_rounds_143 (by decide) ?_
                                              first | ((with_reducible refine mk_nn ?_); refine n_iadd dX11_rounds_147 ?_) | refine e_iadd dX11_rounds_147 ?_
                                              refine e_istore_n dX11_rounds_148 rfl (Nat.le_of_ble_eq_true rfl) rfl ?_
                                              refine e_aload_n dX11_rounds_149 rfl rfl ?_
                                              refine e_getI dX11_rounds_150 fl_X11_365 rfl ?_
                                              rw [nxH_a]
                                              first | ((with_reducible refine mk_b ?_); refine b_if_eq (tgt := 170) dX11_rounds_153 (by decide) (fun h153 => ?_) (fun h153 => ?_)) | ((with_reducible refine mk_ll ?_); refine m_if_eq (tgt := 170) dX11_rounds_153 (by decide) (by omega) (by omega) (fun h153 => ?_) (fun h153 => ?_)) | ((with_reducible refine mk_lc ?_); refine l_if_eq (tgt := 170) dX11_rounds_153 (by decide) (fun h153 => ?_) (fun h153 => ?_)) | ((with_reducible refine mk_n ?_); refine n_if_eq (tgt := 170) dX11_rounds_153 (by decide) (by omega) (fun h153 => ?_) (fun h153 => ?_)) | refine e_if_eq (tgt := 170) dX11_rounds_153 (by decide) (fun h153 => ?_) (fun h153 => ?_)
                                              · try first | contradiction | omega | (simp only [decide_eq_true_eq, decide_eq_false_iff_not] at h153; omega)
                                                all_goals
                                                  refine e_iconst (v := nI 0) dX11_rounds_170 rfl ?_
                                                  refine e_istore_n dX11_rounds_171 rfl (Nat.le_of_ble_eq_true rfl) rfl ?_
                                                  refine e_goto (tgt := 39) dX11_rounds_172 (by decide) ?_
                                                  first | (exfalso; omega) | (rw [h163] at ih2; exact ih2)
                                              · try first | contradiction | omega | (simp only [decide_eq_true_eq, decide_eq_false_iff_not] at h153; omega)
                                                all_goals
                                                  refine e_aload_n dX11_rounds_156 rfl rfl ?_
                                                  refine x_V0 (M' := mX11_evenOf) dX11_rounds_157 ml_X11_358 ok_X11_evenOf (by decide) rfl im_X11_evenOf se_X11_evenOf (ct_X11_evenOf ‹_› ap1) (Nat.le_of_ble_eq_true rfl) (by decide) (Nat.le_of_ble_eq_true rfl) ?_
                                                  refine e_iload_n dX11_rounds_160 rfl rfl ?_
                                                  first | ((with_reducible refine mk_n ?_); refine n_i2l dX11_rounds_161 (by omega) ?_) | refine e_i2l dX11_rounds_161 ?_
                                                  refine e_lcmp dX11_rounds_162 ?_
                                                  first | ((with_reducible refine mk_lo ?_); refine o_if_le (tgt := 170) dX11_rounds_163 (by decide) (by omega) (by first | assumption | (intro _ he; cases he; done)) (fun h163 => ?_) (fun h163 => ?_)) | ((with_reducible refine mk_ll ?_); refine m_if_le (tgt := 170) dX11_rounds_163 (by decide) (by omega) (by omega) (fun h163 => ?_) (fun h163 => ?_)) | ((with_reducible refine mk_lc ?_); refine l_if_le (tgt := 170) dX11_rounds_163 (by decide) (fun h163 => ?_) (fun h163 => ?_)) | ((with_reducible refine mk_n ?_); refine n_if_le (tgt := 170) dX11_rounds_163 (by decide) (by omega) (fun h163 => ?_) (fun h163 => ?_)) | refine e_if_le (tgt := 170) dX11_rounds_163 (by decide) (fun h163 => ?_) (fun h163 => ?_)
                                                  · try first | contradiction | omega
                                                    all_goals
                                                      refine e_iconst (v := nI 0) dX11_rounds_170 rfl ?_
                                                      refine e_istore_n dX11_rounds_171 rfl (Nat.le_of_ble_eq_true rfl) rfl ?_
                                                      refine e_goto (tgt := 39) dX11_rounds_172 (by decide) ?_
                                                      first | (exfalso; omega) | (rw [h163] at ih2; exact ih2)
                                                  · try first | contradiction | omega
                                                    all_goals
                                                      refine e_iconst (v := nI 1) dX11_rounds_166 rfl ?_
                                                      refine e_goto (tgt := 171) dX11_rounds_167 (by decide) ?_
                                                      refine e_istore_n dX11_rounds_171 rfl (Nat.le_of_ble_eq_true rfl) rfl ?_
                                                      refine e_goto (tgt := 39) dX11_rounds_172 (by decide) ?_
                                                      first | (exfalso; omega) | (rw [h163] at ih2; exact ih2)
                          · try first | contradiction | omega
                            all_goals
                              refine e_iload dX11_rounds_80 rfl ?_
                              first | ((with_reducible refine mk_b ?_); refine b_if_ne (tgt := 104) dX11_rounds_82 (by decide) (fun h82 => ?_) (fun h82 => ?_)) | ((with_reducible refine mk_ll ?_); refine m_if_ne (tgt := 104) dX11_rounds_82 (by decide) (by omega) (by omega) (fun h82 => ?_) (fun h82 => ?_)) | ((with_reducible refine mk_lc ?_); refine l_if_ne (tgt := 104) dX11_rounds_82 (by decide) (fun h82 => ?_) (fun h82 => ?_)) | ((with_reducible refine mk_n ?_); refine n_if_ne (tgt := 104) dX11_rounds_82 (by decide) (by omega) (fun h82 => ?_) (fun h82 => ?_)) | refine e_if_ne (tgt := 104) dX11_rounds_82 (by decide) (fun h82 => ?_) (fun h82 => ?_)
                              · try first | contradiction | omega | (simp only [decide_eq_true_eq, decide_eq_false_iff_not] at h82; omega)
                                all_goals
                                  refine e_aload_n dX11_rounds_104 rfl rfl ?_
                                  refine e_getI dX11_rounds_105 fl_X11_365 rfl ?_
                                  rw [nxH_a]
                                  refine e_iconst (v := nI 2) dX11_rounds_108 rfl ?_
                                  first | ((with_reducible refine mk_mo ?_); refine p_icmp_ne (tgt := 129) dX11_rounds_109 (by decide) (fun h109 => ?_) (fun h109 => ?_)) | ((with_reducible refine mk_ms ?_); refine s_icmp_ne (tgt := 129) dX11_rounds_109 (by decide) (by omega) (fun h109 => ?_) (fun h109 => ?_)) | ((with_reducible refine mk_mn ?_); refine q_icmp_ne (tgt := 129) dX11_rounds_109 (by decide) (by omega) (fun h109 => ?_) (fun h109 => ?_)) | ((with_reducible refine mk_nn ?_); refine n_icmp_ne (tgt := 129) dX11_rounds_109 (by decide) (by omega) (by omega) (fun h109 => ?_) (fun h109 => ?_)) | refine e_icmp_ne (tgt := 129) dX11_rounds_109 (by decide) (fun h109 => ?_) (fun h109 => ?_)
                                  · try first | contradiction | omega
                                    all_goals
                                      refine e_iload_n dX11_rounds_129 rfl rfl ?_
                                      refine e_aload_n dX11_rounds_130 rfl rfl ?_
                                      refine e_getI dX11_rounds_131 fl_X11_365 rfl ?_
                                      rw [nxH_a]
                                      first | ((with_reducible refine mk_b ?_); refine b_if_eq (tgt := 142) dX11_rounds_134 (by decide) (fun h134 => ?_) (fun h134 => ?_)) | ((with_reducible refine mk_ll ?_); refine m_if_eq (tgt := 142) dX11_rounds_134 (by decide) (by omega) (by omega) (fun h134 => ?_) (fun h134 => ?_)) | ((with_reducible refine mk_lc ?_); refine l_if_eq (tgt := 142) dX11_rounds_134 (by decide) (fun h134 => ?_) (fun h134 => ?_)) | ((with_reducible refine mk_n ?_); refine n_if_eq (tgt := 142) dX11_rounds_134 (by decide) (by omega) (fun h134 => ?_) (fun h134 => ?_)) | refine e_if_eq (tgt := 142) dX11_rounds_134 (by decide) (fun h134 => ?_) (fun h134 => ?_)
                                      · try first | contradiction | omega | (simp only [decide_eq_true_eq, decide_eq_false_iff_not] at h134; omega)
                                        all_goals
                                          refine e_iconst (v := nI 0) dX11_rounds_142 rfl ?_
                                          refine e_goto (tgt := 147) dX11_rounds_143 (by decide) ?_
                                          first | ((with_reducible refine mk_nn ?_); refine n_iadd dX11_rounds_147 ?_) | refine e_iadd dX11_rounds_147 ?_
                                          refine e_istore_n dX11_rounds_148 rfl (Nat.le_of_ble_eq_true rfl) rfl ?_
                                          refine e_aload_n dX11_rounds_149 rfl rfl ?_
                                          refine e_getI dX11_rounds_150 fl_X11_365 rfl ?_
                                          rw [nxH_a]
                                          first | ((with_reducible refine mk_b ?_); refine b_if_eq (tgt := 170) dX11_rounds_153 (by decide) (fun h153 => ?_) (fun h153 => ?_)) | ((with_reducible refine mk_ll ?_); refine m_if_eq (tgt := 170) dX11_rounds_153 (by decide) (by omega) (by omega) (fun h153 => ?_) (fun h153 => ?_)) | ((with_reducible refine mk_lc ?_); refine l_if_eq (tgt := 170) dX11_rounds_153 (by decide) (fun h153 => ?_) (fun h153 => ?_)) | ((with_reducible refine mk_n ?_); refine n_if_eq (tgt := 170) dX11_rounds_153 (by decide) (by omega) (fun h153 => ?_) (fun h153 => ?_)) | refine e_if_eq (tgt := 170) dX11_rounds_153 (by decide) (fun h153 => ?_) (fun h153 => ?_)
                                          · try first | contradiction | omega | (simp only [decide_eq_true_eq, decide_eq_false_iff_not] at h153; omega)
                                            all_goals
                                              refine e_iconst (v := nI 0) dX11_rounds_170 rfl ?_
                                              refine e_istore_n dX11_rounds_171 rfl (Nat.le_of_ble_eq_true rfl) rfl ?_
                                              refine e_goto (tgt := 39) dX11_rounds_172 (by decide) ?_
                                              first | (exfalso; omega) | (rw [h163] at ih2; exact ih2)
                                          · try first | contradiction | omega | (simp only [decide_eq_true_eq, decide_eq_false_iff_not] at h153; omega)
                                            all_goals
                                              refine e_aload_n dX11_rounds_156 rfl rfl ?_
                                              refine x_V0 (M' := mX11_evenOf) dX11_rounds_157 ml_X11_358 ok_X11_evenOf (by decide) rfl im_X11_evenOf se_X11_evenOf (ct_X11_evenOf ‹_› ap1) (Nat.le_of_ble_eq_true rfl) (by decide) (Nat.le_of_ble_eq_true rfl) ?_
                                              refine e_iload_n dX11_rounds_160 rfl rfl ?_
                                              first | ((with_reducible refine mk_n ?_); refine n_i2l dX11_rounds_161 (by omega) ?_) | refine e_i2l dX11_rounds_161 ?_
                                              refine e_lcmp dX11_rounds_162 ?_
                                              first | ((with_reducible refine mk_lo ?_); refine o_if_le (tgt := 170) dX11_rounds_163 (by decide) (by omega) (by first | assumption | (intro _ he; cases he; done)) (fun h163 => ?_) (fun h163 => ?_)) | ((with_reducible refine mk_ll ?_); refine m_if_le (tgt := 170) dX11_rounds_163 (by decide) (by omega) (by omega) (fun h163 => ?_) (fun h163 => ?_)) | ((with_reducible refine mk_lc ?_); refine l_if_le (tgt := 170) dX11_rounds_163 (by decide) (fun h163 => ?_) (fun h163 => ?_)) | ((with_reducible refine mk_n ?_); refine n_if_le (tgt := 170) dX11_rounds_163 (by decide) (by omega) (fun h163 => ?_) (fun h163 => ?_)) | refine e_if_le (tgt := 170) dX11_rounds_163 (by decide) (fun h163 => ?_) (fun h163 => ?_)
                                              · try first | contradiction | omega
                                                all_goals
                                                  refine e_iconst (v := nI 0) dX11_rounds_170 rfl ?_
                                                  refine e_istore_n dX11_rounds_171 rfl (Nat.le_of_ble_eq_true rfl) rfl ?_
                                                  refine e_goto (tgt := 39) dX11_rounds_172 (by decide) ?_
                                                  first | (exfalso; omega) | (rw [h163] at ih2; exact ih2)
                                              · try first | contradiction | omega
                                                all_goals
                                                  refine e_iconst (v := nI 1) dX11_rounds_166 rfl ?_
                                                  refine e_goto (tgt := 171) dX11_rounds_167 (by decide) ?_
                                                  refine e_istore_n dX11_rounds_171 rfl (Nat.le_of_ble_eq_true rfl) rfl ?_
                                                  refine e_goto (tgt := 39) dX11_rounds_172 (by decide) ?_
                                                  first | (exfalso; omega) | (rw [h163] at ih2; exact ih2)
                                      · try first | contradiction | omega | (simp only [decide_eq_true_eq, decide_eq_false_iff_not] at h134; omega)
                                        all_goals
                                          refine e_iload dX11_rounds_137 rfl ?_
                                          first | ((with_reducible refine mk_b ?_); refine b_if_eq (tgt := 146) dX11_rounds_139 (by decide) (fun h139 => ?_) (fun h139 => ?_)) | ((with_reducible refine mk_ll ?_); refine m_if_eq (tgt := 146) dX11_rounds_139 (by decide) (by omega) (by omega) (fun h139 => ?_) (fun h139 => ?_)) | ((with_reducible refine mk_lc ?_); refine l_if_eq (tgt := 146) dX11_rounds_139 (by decide) (fun h139 => ?_) (fun h139 => ?_)) | ((with_reducible refine mk_n ?_); refine n_if_eq (tgt := 146) dX11_rounds_139 (by decide) (by omega) (fun h139 => ?_) (fun h139 => ?_)) | refine e_if_eq (tgt := 146) dX11_rounds_139 (by decide) (fun h139 => ?_) (fun h139 => ?_)
                                          · try first | contradiction | omega | (simp only [decide_eq_true_eq, decide_eq_false_iff_not] at h139; omega)
                                            all_goals
                                              refine e_iconst (v := nI 1) dX11_rounds_146 rfl ?_
                                              first | ((with_reducible refine mk_nn ?_); refine n_iadd dX11_rounds_147 ?_) | refine e_iadd dX11_rounds_147 ?_
                                              refine e_istore_n dX11_rounds_148 rfl (Nat.le_of_ble_eq_true rfl) rfl ?_
                                              refine e_aload_n dX11_rounds_149 rfl rfl ?_
                                              refine e_getI dX11_rounds_150 fl_X11_365 rfl ?_
                                              rw [nxH_a]
                                              first | ((with_reducible refine mk_b ?_); refine b_if_eq (tgt := 170) dX11_rounds_153 (by decide) (fun h153 => ?_) (fun h153 => ?_)) | ((with_reducible refine mk_ll ?_); refine m_if_eq (tgt := 170) dX11_rounds_153 (by decide) (by omega) (by omega) (fun h153 => ?_) (fun h153 => ?_)) | ((with_reducible refine mk_lc ?_); refine l_if_eq (tgt := 170) dX11_rounds_153 (by decide) (fun h153 => ?_) (fun h153 => ?_)) | ((with_reducible refine mk_n ?_); refine n_if_eq (tgt := 170) dX11_rounds_153 (by decide) (by omega) (fun h153 => ?_) (fun h153 => ?_)) | refine e_if_eq (tgt := 170) dX11_rounds_153 (by decide) (fun h153 => ?_) (fun h153 => ?_)
                                              · try first | contradiction | omega | (simp only [decide_eq_true_eq, decide_eq_false_iff_not] at h153; omega)
                                                all_goals
                                                  refine e_iconst (v := nI 0) dX11_rounds_170 rfl ?_
                                                  refine e_istore_n dX11_rounds_171 rfl (Nat.le_of_ble_eq_true rfl) rfl ?_
                                                  refine e_goto (tgt := 39) dX11_rounds_172 (by decide) ?_
                                                  first | (exfalso; omega) | (rw [h163] at ih2; exact ih2)
                                              · try first | contradiction | omega | (simp only [decide_eq_true_eq, decide_eq_false_iff_not] at h153; omega)
                                                all_goals
                                                  refine e_aload_n dX11_rounds_156 rfl rfl ?_
                                                  refine x_V0 (M' := mX11_evenOf) dX11_rounds_157 ml_X11_358 ok_X11_evenOf (by decide) rfl im_X11_evenOf se_X11_evenOf (ct_X11_evenOf ‹_› ap1) (Nat.le_of_ble_eq_true rfl) (by decide) (Nat.le_of_ble_eq_true rfl) ?_
                                                  refine e_iload_n dX11_rounds_160 rfl rfl ?_
                                                  first | ((with_reducible refine mk_n ?_); refine n_i2l dX11_rounds_161 (by omega) ?_) | refine e_i2l dX11_rounds_161 ?_
                                                  refine e_lcmp dX11_rounds_162 ?_
                                                  first | ((with_reducible refine mk_lo ?_); refine o_if_le (tgt := 170) dX11_rounds_163 (by decide) (by omega) (by first | assumption | (intro _ he; cases he; done)) (fun h163 => ?_) (fun h163 => ?_)) | ((with_reducible refine mk_ll ?_); refine m_if_le (tgt := 170) dX11_rounds_163 (by decide) (by omega) (by omega) (fun h163 => ?_) (fun h163 => ?_)) | ((with_reducible refine mk_lc ?_); refine l_if_le (tgt := 170) dX11_rounds_163 (by decide) (fun h163 => ?_) (fun h163 => ?_)) | ((with_reducible refine mk_n ?_); refine n_if_le (tgt := 170) dX11_rounds_163 (by decide) (by omega) (fun h163 => ?_) (fun h163 => ?_)) | refine e_if_le (tgt := 170) dX11_rounds_163 (by decide) (fun h163 => ?_) (fun h163 => ?_)
                                                  · try first | contradiction | omega
                                                    all_goals
                                                      refine e_iconst (v := nI 0) dX11_rounds_170 rfl ?_
                                                      refine e_istore_n dX11_rounds_171 rfl (Nat.le_of_ble_eq_true rfl) rfl ?_
                                                      refine e_goto (tgt := 39) dX11_rounds_172 (by decide) ?_
                                                      first | (exfalso; omega) | (rw [h163] at ih2; exact ih2)
                                                  · try first | contradiction | omega
                                                    all_goals
                                                      refine e_iconst (v := nI 1) dX11_rounds_166 rfl ?_
                                                      refine e_goto (tgt := 171) dX11_rounds_167 (by decide) ?_
                                                      refine e_istore_n dX11_rounds_171 rfl (Nat.le_of_ble_eq_true rfl) rfl ?_
                                                      refine e_goto (tgt := 39) dX11_rounds_172 (by decide) ?_
                                                      first | (exfalso; omega) | (rw [h163] at ih2; exact ih2)
                                          · try first | contradiction | omega | (simp only [decide_eq_true_eq, decide_eq_false_iff_not] at h139; omega)
                                            all_goals
                                              refine e_iconst (v := nI 0) dX11_rounds_142 rfl ?_
                                              refine e_goto (tgt := 147) dX11_rounds_143 (by decide) ?_
                                              first | ((with_reducible refine mk_nn ?_); refine n_iadd dX11_rounds_147 ?_) | refine e_iadd dX11_rounds_147 ?_
                                              refine e_istore_n dX11_rounds_148 rfl (Nat.le_of_ble_eq_true rfl) rfl ?_
                                              refine e_aload_n dX11_rounds_149 rfl rfl ?_
                                              refine e_getI dX11_rounds_150 fl_X11_365 rfl ?_
                                              rw [nxH_a]
                                              first | ((with_reducible refine mk_b ?_); refine b_if_eq (tgt := 170) dX11_rounds_153 (by decide) (fun h153 => ?_) (fun h153 => ?_)) | ((with_reducible refine mk_ll ?_); refine m_if_eq (tgt := 170) dX11_rounds_153 (by decide) (by omega) (by omega) (fun h153 => ?_) (fun h153 => ?_)) | ((with_reducible refine mk_lc ?_); refine l_if_eq (tgt := 170) dX11_rounds_153 (by decide) (fun h153 => ?_) (fun h153 => ?_)) | ((with_reducible refine mk_n ?_); refine n_if_eq (tgt := 170) dX11_rounds_153 (by decide) (by omega) (fun h153 => ?_) (fun h153 => ?_)) | refine e_if_eq (tgt := 170) dX11_rounds_153 (by decide) (fun h153 => ?_) (fun h153 => ?_)
                                              · try first | contradiction | omega | (simp only [decide_eq_true_eq, decide_eq_false_iff_not] at h153; omega)
                                                all_goals
                                                  refine e_iconst (v := nI 0) dX11_rounds_170 rfl ?_
                                                  refine e_istore_n dX11_rounds_171 rfl (Nat.le_of_ble_eq_true rfl) rfl ?_
                                                  refine e_goto (tgt := 39) dX11_rounds_172 (by decide) ?_
                                                  first | (exfalso; omega) | (rw [h163] at ih2; exact ih2)
                                              · try first | contradiction | omega | (simp only [decide_eq_true_eq, decide_eq_false_iff_not] at h153; omega)
                                                all_goals
                                                  refine e_aload_n dX11_rounds_156 rfl rfl ?_
                                                  refine x_V0 (M' := mX11_evenOf) dX11_rounds_157 ml_X11_358 ok_X11_evenOf (by decide) rfl im_X11_evenOf se_X11_evenOf (ct_X11_evenOf ‹_› ap1) (Nat.le_of_ble_eq_true rfl) (by decide) (Nat.le_of_ble_eq_true rfl) ?_
                                                  refine e_iload_n dX11_rounds_160 rfl rfl ?_
                                                  first | ((with_reducible refine mk_n ?_); refine n_i2l dX11_rounds_161 (by omega) ?_) | refine e_i2l dX11_rounds_161 ?_
                                                  refine e_lcmp dX11_rounds_162 ?_
                                                  first | ((with_reducible refine mk_lo ?_); refine o_if_le (tgt := 170) dX11_rounds_163 (by decide) (by omega) (by first | assumption | (intro _ he; cases he; done)) (fun h163 => ?_) (fun h163 => ?_)) | ((with_reducible refine mk_ll ?_); refine m_if_le (tgt := 170) dX11_rounds_163 (by decide) (by omega) (by omega) (fun h163 => ?_) (fun h163 => ?_)) | ((with_reducible refine mk_lc ?_); refine l_if_le (tgt := 170) dX11_rounds_163 (by decide) (fun h163 => ?_) (fun h163 => ?_)) | ((with_reducible refine mk_n ?_); refine n_if_le (tgt := 170) dX11_rounds_163 (by decide) (by omega) (fun h163 => ?_) (fun h163 => ?_)) | refine e_if_le (tgt := 170) dX11_rounds_163 (by decide) (fun h163 => ?_) (fun h163 => ?_)
                                                  · try first | contradiction | omega
                                                    all_goals
                                                      refine e_iconst (v := nI 0) dX11_rounds_170 rfl ?_
                                                      refine e_istore_n dX11_rounds_171 rfl (Nat.le_of_ble_eq_true rfl) rfl ?_
                                                      refine e_goto (tgt := 39) dX11_rounds_172 (by decide) ?_
                                                      first | (exfalso; omega) | (rw [h163] at ih2; exact ih2)
                                                  · try first | contradiction | omega
                                                    all_goals
                                                      refine e_iconst (v := nI 1) dX11_rounds_166 rfl ?_
                                                      refine e_goto (tgt := 171) dX11_rounds_167 (by decide) ?_
                                                      refine e_istore_n dX11_rounds_171 rfl (Nat.le_of_ble_eq_true rfl) rfl ?_
                                                      refine e_goto (tgt := 39) dX11_rounds_172 (by decide) ?_
                                                      first | (exfalso; omega) | (rw [h163] at ih2; exact ih2)
                                  · try first | contradiction | omega
                                    all_goals
                                      refine e_iload dX11_rounds_112 rfl ?_
                                      first | ((with_reducible refine mk_b ?_); refine b_if_ne (tgt := 129) dX11_rounds_114 (by decide) (fun h114 => ?_) (fun h114 => ?_)) | ((with_reducible refine mk_ll ?_); refine m_if_ne (tgt := 129) dX11_rounds_114 (by decide) (by omega) (by omega) (fun h114 => ?_) (fun h114 => ?_)) | ((with_reducible refine mk_lc ?_); refine l_if_ne (tgt := 129) dX11_rounds_114 (by decide) (fun h114 => ?_) (fun h114 => ?_)) | ((with_reducible refine mk_n ?_); refine n_if_ne (tgt := 129) dX11_rounds_114 (by decide) (by omega) (fun h114 => ?_) (fun h114 => ?_)) | refine e_if_ne (tgt := 129) dX11_rounds_114 (by decide) (fun h114 => ?_) (fun h114 => ?_)
                                      · try first | contradiction | omega | (simp only [decide_eq_true_eq, decide_eq_false_iff_not] at h114; omega)
                                        all_goals
                                          refine e_iload_n dX11_rounds_129 rfl rfl ?_
                                          refine e_aload_n dX11_rounds_130 rfl rfl ?_
                                          refine e_getI dX11_rounds_131 fl_X11_365 rfl ?_
                                          rw [nxH_a]
                                          first | ((with_reducible refine mk_b ?_); refine b_if_eq (tgt := 142) dX11_rounds_134 (by decide) (fun h134 => ?_) (fun h134 => ?_)) | ((with_reducible refine mk_ll ?_); refine m_if_eq (tgt := 142) dX11_rounds_134 (by decide) (by omega) (by omega) (fun h134 => ?_) (fun h134 => ?_)) | ((with_reducible refine mk_lc ?_); refine l_if_eq (tgt := 142) dX11_rounds_134 (by decide) (fun h134 => ?_) (fun h134 => ?_)) | ((with_reducible refine mk_n ?_); refine n_if_eq (tgt := 142) dX11_rounds_134 (by decide) (by omega) (fun h134 => ?_) (fun h134 => ?_)) | refine e_if_eq (tgt := 142) dX11_rounds_134 (by decide) (fun h134 => ?_) (fun h134 => ?_)
                                          · try first | contradiction | omega | (simp only [decide_eq_true_eq, decide_eq_false_iff_not] at h134; omega)
                                            all_goals
                                              refine e_iconst (v := nI 0) dX11_rounds_142 rfl ?_
                                              refine e_goto (tgt := 147) dX11_rounds_143 (by decide) ?_
                                              first | ((with_reducible refine mk_nn ?_); refine n_iadd dX11_rounds_147 ?_) | refine e_iadd dX11_rounds_147 ?_
                                              refine e_istore_n dX11_rounds_148 rfl (Nat.le_of_ble_eq_true rfl) rfl ?_
                                              refine e_aload_n dX11_rounds_149 rfl rfl ?_
                                              refine e_getI dX11_rounds_150 fl_X11_365 rfl ?_
                                              rw [nxH_a]
                                              first | ((with_reducible refine mk_b ?_); refine b_if_eq (tgt := 170) dX11_rounds_153 (by decide) (fun h153 => ?_) (fun h153 => ?_)) | ((with_reducible refine mk_ll ?_); refine m_if_eq (tgt := 170) dX11_rounds_153 (by decide) (by omega) (by omega) (fun h153 => ?_) (fun h153 => ?_)) | ((with_reducible refine mk_lc ?_); refine l_if_eq (tgt := 170) dX11_rounds_153 (by decide) (fun h153 => ?_) (fun h153 => ?_)) | ((with_reducible refine mk_n ?_); refine n_if_eq (tgt := 170) dX11_rounds_153 (by decide) (by omega) (fun h153 => ?_) (fun h153 => ?_)) | refine e_if_eq (tgt := 170) dX11_rounds_153 (by decide) (fun h153 => ?_) (fun h153 => ?_)
                                              · try first | contradiction | omega | (simp only [decide_eq_true_eq, decide_eq_false_iff_not] at h153; omega)
                                                all_goals
                                                  refine e_iconst (v := nI 0) dX11_rounds_170 rfl ?_
                                                  refine e_istore_n dX11_rounds_171 rfl (Nat.le_of_ble_eq_true rfl) rfl ?_
                                                  refine e_goto (tgt := 39) dX11_rounds_172 (by decide) ?_
                                                  first | (exfalso; omega) | (rw [h163] at ih2; exact ih2)
                                              · try first | contradiction | omega | (simp only [decide_eq_true_eq, decide_eq_false_iff_not] at h153; omega)
                                                all_goals
                                                  refine e_aload_n dX11_rounds_156 rfl rfl ?_
                                                  refine x_V0 (M' := mX11_evenOf) dX11_rounds_157 ml_X11_358 ok_X11_evenOf (by decide) rfl im_X11_evenOf se_X11_evenOf (ct_X11_evenOf ‹_› ap1) (Nat.le_of_ble_eq_true rfl) (by decide) (Nat.le_of_ble_eq_true rfl) ?_
                                                  refine e_iload_n dX11_rounds_160 rfl rfl ?_
                                                  first | ((with_reducible refine mk_n ?_); refine n_i2l dX11_rounds_161 (by omega) ?_) | refine e_i2l dX11_rounds_161 ?_
                                                  refine e_lcmp dX11_rounds_162 ?_
                                                  first | ((with_reducible refine mk_lo ?_); refine o_if_le (tgt := 170) dX11_rounds_163 (by decide) (by omega) (by first | assumption | (intro _ he; cases he; done)) (fun h163 => ?_) (fun h163 => ?_)) | ((with_reducible refine mk_ll ?_); refine m_if_le (tgt := 170) dX11_rounds_163 (by decide) (by omega) (by omega) (fun h163 => ?_) (fun h163 => ?_)) | ((with_reducible refine mk_lc ?_); refine l_if_le (tgt := 170) dX11_rounds_163 (by decide) (fun h163 => ?_) (fun h163 => ?_)) | ((with_reducible refine mk_n ?_); refine n_if_le (tgt := 170) dX11_rounds_163 (by decide) (by omega) (fun h163 => ?_) (fun h163 => ?_)) | refine e_if_le (tgt := 170) dX11_rounds_163 (by decide) (fun h163 => ?_) (fun h163 => ?_)
                                                  · try first | contradiction | omega
                                                    all_goals
                                                      refine e_iconst (v := nI 0) dX11_rounds_170 rfl ?_
                                                      refine e_istore_n dX11_rounds_171 rfl (Nat.le_of_ble_eq_true rfl) rfl ?_
                                                      refine e_goto (tgt := 39) dX11_rounds_172 (by decide) ?_
                                                      first | (exfalso; omega) | (rw [h163] at ih2; exact ih2)
                                                  · try first | contradiction | omega
                                                    all_goals
                                                      refine e_iconst (v := nI 1) dX11_rounds_166 rfl ?_
                                                      refine e_goto (tgt := 171) dX11_rounds_167 (by decide) ?_
                                                      refine e_istore_n dX11_rounds_171 rfl (Nat.le_of_ble_eq_true rfl) rfl ?_
                                                      refine e_goto (tgt := 39) dX11_rounds_172 (by decide) ?_
                                                      first | (exfalso; omega) | (rw [h163] at ih2; exact ih2)
                                          · try first | contradiction | omega | (simp only [decide_eq_true_eq, decide_eq_false_iff_not] at h134; omega)
                                            all_goals
                                              refine e_iload dX11_rounds_137 rfl ?_
                                              first | ((with_reducible refine mk_b ?_); refine b_if_eq (tgt := 146) dX11_rounds_139 (by decide) (fun h139 => ?_) (fun h139 => ?_)) | ((with_reducible refine mk_ll ?_); refine m_if_eq (tgt := 146) dX11_rounds_139 (by decide) (by omega) (by omega) (fun h139 => ?_) (fun h139 => ?_)) | ((with_reducible refine mk_lc ?_); refine l_if_eq (tgt := 146) dX11_rounds_139 (by decide) (fun h139 => ?_) (fun h139 => ?_)) | ((with_reducible refine mk_n ?_); refine n_if_eq (tgt := 146) dX11_rounds_139 (by decide) (by omega) (fun h139 => ?_) (fun h139 => ?_)) | refine e_if_eq (tgt := 146) dX11_rounds_139 (by decide) (fun h139 => ?_) (fun h139 => ?_)
                                              · try first | contradiction | omega | (simp only [decide_eq_true_eq, decide_eq_false_iff_not] at h139; omega)
                                                all_goals
                                                  refine e_iconst (v := nI 1) dX11_rounds_146 rfl ?_
                                                  first | ((with_reducible refine mk_nn ?_); refine n_iadd dX11_rounds_147 ?_) | refine e_iadd dX11_rounds_147 ?_
                                                  refine e_istore_n dX11_rounds_148 rfl (Nat.le_of_ble_eq_true rfl) rfl ?_
                                                  refine e_aload_n dX11_rounds_149 rfl rfl ?_
                                                  refine e_getI dX11_rounds_150 fl_X11_365 rfl ?_
                                                  rw [nxH_a]
                                                  first | ((with_reducible refine mk_b ?_); refine b_if_eq (tgt := 170) dX11_rounds_153 (by decide) (fun h153 => ?_) (fun h153 => ?_)) | ((with_reducible refine mk_ll ?_); refine m_if_eq (tgt := 170) dX11_rounds_153 (by decide) (by omega) (by omega) (fun h153 => ?_) (fun h153 => ?_)) | ((with_reducible refine mk_lc ?_); refine l_if_eq (tgt := 170) dX11_rounds_153 (by decide) (fun h153 => ?_) (fun h153 => ?_)) | ((with_reducible refine mk_n ?_); refine n_if_eq (tgt := 170) dX11_rounds_153 (by decide) (by omega) (fun h153 => ?_) (fun h153 => ?_)) | refine e_if_eq (tgt := 170) dX11_rounds_153 (by decide) (fun h153 => ?_) (fun h153 => ?_)
                                                  · try first | contradiction | omega | (simp only [decide_eq_true_eq, decide_eq_false_iff_not] at h153; omega)
                                                    all_goals
                                                      refine e_iconst (v := nI 0) dX11_rounds_170 rfl ?_
                                                      refine e_istore_n dX11_rounds_171 rfl (Nat.le_of_ble_eq_true rfl) rfl ?_
                                                      refine e_goto (tgt := 39) dX11_rounds_172 (by decide) ?_
                                                      first | (exfalso; omega) | (rw [h163] at ih2; exact ih2)
                                                  · try first | contradiction | omega | (simp only [decide_eq_true_eq, decide_eq_false_iff_not] at h153; omega)
                                                    all_goals
                                                      refine e_aload_n dX11_rounds_156 rfl rfl ?_
                                                      refine x_V0 (M' := mX11_evenOf) dX11_rounds_157 ml_X11_358 ok_X11_evenOf (by decide) rfl im_X11_evenOf se_X11_evenOf (ct_X11_evenOf ‹_› ap1) (Nat.le_of_ble_eq_true rfl) (by decide) (Nat.le_of_ble_eq_true rfl) ?_
                                                      refine e_iload_n dX11_rounds_160 rfl rfl ?_
                                                      first | ((with_reducible refine mk_n ?_); refine n_i2l dX11_rounds_161 (by omega) ?_) | refine e_i2l dX11_rounds_161 ?_
                                                      refine e_lcmp dX11_rounds_162 ?_
                                                      first | ((with_reducible refine mk_lo ?_); refine o_if_le (tgt := 170) dX11_rounds_163 (by decide) (by omega) (by first | assumption | (intro _ he; cases he; done)) (fun h163 => ?_) (fun h163 => ?_)) | ((with_reducible refine mk_ll ?_); refine m_if_le (tgt := 170) dX11_rounds_163 (by decide) (by omega) (by omega) (fun h163 => ?_) (fun h163 => ?_)) | ((with_reducible refine mk_lc ?_); refine l_if_le (tgt := 170) dX11_rounds_163 (by decide) (fun h163 => ?_) (fun h163 => ?_)) | ((with_reducible refine mk_n ?_); refine n_if_le (tgt := 170) dX11_rounds_163 (by decide) (by omega) (fun h163 => ?_) (fun h163 => ?_)) | refine e_if_le (tgt := 170) dX11_rounds_163 (by decide) (fun h163 => ?_) (fun h163 => ?_)
                                                      · try first | contradiction | omega
                                                        all_goals
                                                          refine e_iconst (v := nI 0) dX11_rounds_170 rfl ?_
                                                          refine e_istore_n dX11_rounds_171 rfl (Nat.le_of_ble_eq_true rfl) rfl ?_
                                                          refine e_goto (tgt := 39) dX11_rounds_172 (by decide) ?_
                                                          first | (exfalso; omega) | (rw [h163] at ih2; exact ih2)
                                                      · try first | contradiction | omega
                                                        all_goals
                                                          refine e_iconst (v := nI 1) dX11_rounds_166 rfl ?_
                                                          refine e_goto (tgt := 171) dX11_rounds_167 (by decide) ?_
                                                          refine e_istore_n dX11_rounds_171 rfl (Nat.le_of_ble_eq_true rfl) rfl ?_
                                                          refine e_goto (tgt := 39) dX11_rounds_172 (by decide) ?_
                                                          first | (exfalso; omega) | (rw [h163] at ih2; exact ih2)
                                              · try first | contradiction | omega | (simp only [decide_eq_true_eq, decide_eq_false_iff_not] at h139; omega)
                                                all_goals
                                                  refine e_iconst (v := nI 0) dX11_rounds_142 rfl ?_
                                                  refine e_goto (tgt := 147) dX11_rounds_143 (by decide) ?_
                                                  first | ((with_reducible refine mk_nn ?_); refine n_iadd dX11_rounds_147 ?_) | refine e_iadd dX11_rounds_147 ?_
                                                  refine e_istore_n dX11_rounds_148 rfl (Nat.le_of_ble_eq_true rfl) rfl ?_
                                                  refine e_aload_n dX11_rounds_149 rfl rfl ?_
                                                  refine e_getI dX11_rounds_150 fl_X11_365 rfl ?_
                                                  rw [nxH_a]
                                                  first | ((with_reducible refine mk_b ?_); refine b_if_eq (tgt := 170) dX11_rounds_153 (by decide) (fun h153 => ?_) (fun h153 => ?_)) | ((with_reducible refine mk_ll ?_); refine m_if_eq (tgt := 170) dX11_rounds_153 (by decide) (by omega) (by omega) (fun h153 => ?_) (fun h153 => ?_)) | ((with_reducible refine mk_lc ?_); refine l_if_eq (tgt := 170) dX11_rounds_153 (by decide) (fun h153 => ?_) (fun h153 => ?_)) | ((with_reducible refine mk_n ?_); refine n_if_eq (tgt := 170) dX11_rounds_153 (by decide) (by omega) (fun h153 => ?_) (fun h153 => ?_)) | refine e_if_eq (tgt := 170) dX11_rounds_153 (by decide) (fun h153 => ?_) (fun h153 => ?_)
                                                  · try first | contradiction | omega | (simp only [decide_eq_true_eq, decide_eq_false_iff_not] at h153; omega)
                                                    all_goals
                                                      refine e_iconst (v := nI 0) dX11_rounds_170 rfl ?_
                                                      refine e_istore_n dX11_rounds_171 rfl (Nat.le_of_ble_eq_true rfl) rfl ?_
                                                      refine e_goto (tgt := 39) dX11_rounds_172 (by decide) ?_
                                                      first | (exfalso; omega) | (rw [h163] at ih2; exact ih2)
                                                  · try first | contradiction | omega | (simp only [decide_eq_true_eq, decide_eq_false_iff_not] at h153; omega)
                                                    all_goals
                                                      refine e_aload_n dX11_rounds_156 rfl rfl ?_
                                                      refine x_V0 (M' := mX11_evenOf) dX11_rounds_157 ml_X11_358 ok_X11_evenOf (by decide) rfl im_X11_evenOf se_X11_evenOf (ct_X11_evenOf ‹_› ap1) (Nat.le_of_ble_eq_true rfl) (by decide) (Nat.le_of_ble_eq_true rfl) ?_
                                                      refine e_iload_n dX11_rounds_160 rfl rfl ?_
                                                      first | ((with_reducible refine mk_n ?_); refine n_i2l dX11_rounds_161 (by omega) ?_) | refine e_i2l dX11_rounds_161 ?_
                                                      refine e_lcmp dX11_rounds_162 ?_
                                                      first | ((with_reducible refine mk_lo ?_); refine o_if_le (tgt := 170) dX11_rounds_163 (by decide) (by omega) (by first | assumption | (intro _ he; cases he; done)) (fun h163 => ?_) (fun h163 => ?_)) | ((with_reducible refine mk_ll ?_); refine m_if_le (tgt := 170) dX11_rounds_163 (by decide) (by omega) (by omega) (fun h163 => ?_) (fun h163 => ?_)) | ((with_reducible refine mk_lc ?_); refine l_if_le (tgt := 170) dX11_rounds_163 (by decide) (fun h163 => ?_) (fun h163 => ?_)) | ((with_reducible refine mk_n ?_); refine n_if_le (tgt := 170) dX11_rounds_163 (by decide) (by omega) (fun h163 => ?_) (fun h163 => ?_)) | refine e_if_le (tgt := 170) dX11_rounds_163 (by decide) (fun h163 => ?_) (fun h163 => ?_)
                                                      · try first | contradiction | omega
                                                        all_goals
                                                          refine e_iconst (v := nI 0) dX11_rounds_170 rfl ?_
                                                          refine e_istore_n dX11_rounds_171 rfl (Nat.le_of_ble_eq_true rfl) rfl ?_
                                                          refine e_goto (tgt := 39) dX11_rounds_172 (by decide) ?_
                                                          first | (exfalso; omega) | (rw [h163] at ih2; exact ih2)
                                                      · try first | contradiction | omega
                                                        all_goals
                                                          refine e_iconst (v := nI 1) dX11_rounds_166 rfl ?_
                                                          refine e_goto (tgt := 171) dX11_rounds_167 (by decide) ?_
                                                          refine e_istore_n dX11_rounds_171 rfl (Nat.le_of_ble_eq_true rfl) rfl ?_
                                                          refine e_goto (tgt := 39) dX11_rounds_172 (by decide) ?_
                                                          first | (exfalso; omega) | (rw [h163] at ih2; exact ih2)
                                      · try first | contradiction | omega | (simp only [decide_eq_true_eq, decide_eq_false_iff_not] at h114; omega)
                                        all_goals
                                          refine e_aload_n dX11_rounds_117 rfl rfl ?_
                                          refine e_aload_n dX11_rounds_118 rfl rfl ?_
                                          refine e_getI dX11_rounds_119 fl_X11_368 rfl ?_
                                          rw [nxH_b]
                                          refine e_aload_n dX11_rounds_122 rfl rfl ?_
                                          refine e_getI dX11_rounds_123 fl_X11_371 rfl ?_
                                          rw [nxH_c]
                                          refine y_V2 (M' := mX11_splits) dX11_rounds_126 ml_X11_89 ok_X11_splits (by decide) rfl im_X11_splits se_X11_splits (ct_X11_splits ‹_› hv1 hq.1 (by omega)) (Nat.le_of_ble_eq_true rfl) (by decide) (Nat.le_of_ble_eq_true rfl) ?_
                                          refine e_iload_n dX11_rounds_129 rfl rfl ?_
                                          refine e_aload_n dX11_rounds_130 rfl rfl ?_
                                          refine e_getI dX11_rounds_131 fl_X11_365 rfl ?_
                                          rw [nxH_a]
                                          first | ((with_reducible refine mk_b ?_); refine b_if_eq (tgt := 142) dX11_rounds_134 (by decide) (fun h134 => ?_) (fun h134 => ?_)) | ((with_reducible refine mk_ll ?_); refine m_if_eq (tgt := 142) dX11_rounds_134 (by decide) (by omega) (by omega) (fun h134 => ?_) (fun h134 => ?_)) | ((with_reducible refine mk_lc ?_); refine l_if_eq (tgt := 142) dX11_rounds_134 (by decide) (fun h134 => ?_) (fun h134 => ?_)) | ((with_reducible refine mk_n ?_); refine n_if_eq (tgt := 142) dX11_rounds_134 (by decide) (by omega) (fun h134 => ?_) (fun h134 => ?_)) | refine e_if_eq (tgt := 142) dX11_rounds_134 (by decide) (fun h134 => ?_) (fun h134 => ?_)
                                          · try first | contradiction | omega | (simp only [decide_eq_true_eq, decide_eq_false_iff_not] at h134; omega)
                                            all_goals
                                              refine e_iconst (v := nI 0) dX11_rounds_142 rfl ?_
                                              refine e_goto (tgt := 147) dX11_rounds_143 (by decide) ?_
                                              first | ((with_reducible refine mk_nn ?_); refine n_iadd dX11_rounds_147 ?_) | refine e_iadd dX11_rounds_147 ?_
                                              refine e_istore_n dX11_rounds_148 rfl (Nat.le_of_ble_eq_true rfl) rfl ?_
                                              refine e_aload_n dX11_rounds_149 rfl rfl ?_
                                              refine e_getI dX11_rounds_150 fl_X11_365 rfl ?_
                                              rw [nxH_a]
                                              first | ((with_reducible refine mk_b ?_); refine b_if_eq (tgt := 170) dX11_rounds_153 (by decide) (fun h153 => ?_) (fun h153 => ?_)) | ((with_reducible refine mk_ll ?_); refine m_if_eq (tgt := 170) dX11_rounds_153 (by decide) (by omega) (by omega) (fun h153 => ?_) (fun h153 => ?_)) | ((with_reducible refine mk_lc ?_); refine l_if_eq (tgt := 170) dX11_rounds_153 (by decide) (fun h153 => ?_) (fun h153 => ?_)) | ((with_reducible refine mk_n ?_); refine n_if_eq (tgt := 170) dX11_rounds_153 (by decide) (by omega) (fun h153 => ?_) (fun h153 => ?_)) | refine e_if_eq (tgt := 170) dX11_rounds_153 (by decide) (fun h153 => ?_) (fun h153 => ?_)
                                              · try first | contradiction | omega | (simp only [decide_eq_true_eq, decide_eq_false_iff_not] at h153; omega)
                                                all_goals
                                                  refine e_iconst (v := nI 0) dX11_rounds_170 rfl ?_
                                                  refine e_istore_n dX11_rounds_171 rfl (Nat.le_of_ble_eq_true rfl) rfl ?_
                                                  refine e_goto (tgt := 39) dX11_rounds_172 (by decide) ?_
                                                  first | (exfalso; omega) | (rw [h163] at ih2; exact ih2)
                                              · try first | contradiction | omega | (simp only [decide_eq_true_eq, decide_eq_false_iff_not] at h153; omega)
                                                all_goals
                                                  refine e_aload_n dX11_rounds_156 rfl rfl ?_
                                                  refine x_V0 (M' := mX11_evenOf) dX11_rounds_157 ml_X11_358 ok_X11_evenOf (by decide) rfl im_X11_evenOf se_X11_evenOf (ct_X11_evenOf ‹_› ap1) (Nat.le_of_ble_eq_true rfl) (by decide) (Nat.le_of_ble_eq_true rfl) ?_
                                                  refine e_iload_n dX11_rounds_160 rfl rfl ?_
                                                  first | ((with_reducible refine mk_n ?_); refine n_i2l dX11_rounds_161 (by omega) ?_) | refine e_i2l dX11_rounds_161 ?_
                                                  refine e_lcmp dX11_rounds_162 ?_
                                                  first | ((with_reducible refine mk_lo ?_); refine o_if_le (tgt := 170) dX11_rounds_163 (by decide) (by omega) (by first | assumption | (intro _ he; cases he; done)) (fun h163 => ?_) (fun h163 => ?_)) | ((with_reducible refine mk_ll ?_); refine m_if_le (tgt := 170) dX11_rounds_163 (by decide) (by omega) (by omega) (fun h163 => ?_) (fun h163 => ?_)) | ((with_reducible refine mk_lc ?_); refine l_if_le (tgt := 170) dX11_rounds_163 (by decide) (fun h163 => ?_) (fun h163 => ?_)) | ((with_reducible refine mk_n ?_); refine n_if_le (tgt := 170) dX11_rounds_163 (by decide) (by omega) (fun h163 => ?_) (fun h163 => ?_)) | refine e_if_le (tgt := 170) dX11_rounds_163 (by decide) (fun h163 => ?_) (fun h163 => ?_)
                                                  · try first | contradiction | omega
                                                    all_goals
                                                      refine e_iconst (v := nI 0) dX11_rounds_170 rfl ?_
                                                      refine e_istore_n dX11_rounds_171 rfl (Nat.le_of_ble_eq_true rfl) rfl ?_
                                                      refine e_goto (tgt := 39) dX11_rounds_172 (by decide) ?_
                                                      first | (exfalso; omega) | (rw [h163] at ih2; exact ih2)
                                                  · try first | contradiction | omega
                                                    all_goals
                                                      refine e_iconst (v := nI 1) dX11_rounds_166 rfl ?_
                                                      refine e_goto (tgt := 171) dX11_rounds_167 (by decide) ?_
                                                      refine e_istore_n dX11_rounds_171 rfl (Nat.le_of_ble_eq_true rfl) rfl ?_
                                                      refine e_goto (tgt := 39) dX11_rounds_172 (by decide) ?_
                                                      first | (exfalso; omega) | (rw [h163] at ih2; exact ih2)
                                          · try first | contradiction | omega | (simp only [decide_eq_true_eq, decide_eq_false_iff_not] at h134; omega)
                                            all_goals
                                              refine e_iload dX11_rounds_137 rfl ?_
                                              first | ((with_reducible refine mk_b ?_); refine b_if_eq (tgt := 146) dX11_rounds_139 (by decide) (fun h139 => ?_) (fun h139 => ?_)) | ((with_reducible refine mk_ll ?_); refine m_if_eq (tgt := 146) dX11_rounds_139 (by decide) (by omega) (by omega) (fun h139 => ?_) (fun h139 => ?_)) | ((with_reducible refine mk_lc ?_); refine l_if_eq (tgt := 146) dX11_rounds_139 (by decide) (fun h139 => ?_) (fun h139 => ?_)) | ((with_reducible refine mk_n ?_); refine n_if_eq (tgt := 146) dX11_rounds_139 (by decide) (by omega) (fun h139 => ?_) (fun h139 => ?_)) | refine e_if_eq (tgt := 146) dX11_rounds_139 (by decide) (fun h139 => ?_) (fun h139 => ?_)
                                              · try first | contradiction | omega | (simp only [decide_eq_true_eq, decide_eq_false_iff_not] at h139; omega)
                                                all_goals
                                                  refine e_iconst (v := nI 1) dX11_rounds_146 rfl ?_
                                                  first | ((with_reducible refine mk_nn ?_); refine n_iadd dX11_rounds_147 ?_) | refine e_iadd dX11_rounds_147 ?_
                                                  refine e_istore_n dX11_rounds_148 rfl (Nat.le_of_ble_eq_true rfl) rfl ?_
                                                  refine e_aload_n dX11_rounds_149 rfl rfl ?_
                                                  refine e_getI dX11_rounds_150 fl_X11_365 rfl ?_
                                                  rw [nxH_a]
                                                  first | ((with_reducible refine mk_b ?_); refine b_if_eq (tgt := 170) dX11_rounds_153 (by decide) (fun h153 => ?_) (fun h153 => ?_)) | ((with_reducible refine mk_ll ?_); refine m_if_eq (tgt := 170) dX11_rounds_153 (by decide) (by omega) (by omega) (fun h153 => ?_) (fun h153 => ?_)) | ((with_reducible refine mk_lc ?_); refine l_if_eq (tgt := 170) dX11_rounds_153 (by decide) (fun h153 => ?_) (fun h153 => ?_)) | ((with_reducible refine mk_n ?_); refine n_if_eq (tgt := 170) dX11_rounds_153 (by decide) (by omega) (fun h153 => ?_) (fun h153 => ?_)) | refine e_if_eq (tgt := 170) dX11_rounds_153 (by decide) (fun h153 => ?_) (fun h153 => ?_)
                                                  · try first | contradiction | omega | (simp only [decide_eq_true_eq, decide_eq_false_iff_not] at h153; omega)
                                                    all_goals
                                                      refine e_iconst (v := nI 0) dX11_rounds_170 rfl ?_
                                                      refine e_istore_n dX11_rounds_171 rfl (Nat.le_of_ble_eq_true rfl) rfl ?_
                                                      refine e_goto (tgt := 39) dX11_rounds_172 (by decide) ?_
                                                      first | (exfalso; omega) | (rw [h163] at ih2; exact ih2)
                                                  · try first | contradiction | omega | (simp only [decide_eq_true_eq, decide_eq_false_iff_not] at h153; omega)
                                                    all_goals
                                                      refine e_aload_n dX11_rounds_156 rfl rfl ?_
                                                      refine x_V0 (M' := mX11_evenOf) dX11_rounds_157 ml_X11_358 ok_X11_evenOf (by decide) rfl im_X11_evenOf se_X11_evenOf (ct_X11_evenOf ‹_› ap1) (Nat.le_of_ble_eq_true rfl) (by decide) (Nat.le_of_ble_eq_true rfl) ?_
                                                      refine e_iload_n dX11_rounds_160 rfl rfl ?_
                                                      first | ((with_reducible refine mk_n ?_); refine n_i2l dX11_rounds_161 (by omega) ?_) | refine e_i2l dX11_rounds_161 ?_
                                                      refine e_lcmp dX11_rounds_162 ?_
                                                      first | ((with_reducible refine mk_lo ?_); refine o_if_le (tgt := 170) dX11_rounds_163 (by decide) (by omega) (by first | assumption | (intro _ he; cases he; done)) (fun h163 => ?_) (fun h163 => ?_)) | ((with_reducible refine mk_ll ?_); refine m_if_le (tgt := 170) dX11_rounds_163 (by decide) (by omega) (by omega) (fun h163 => ?_) (fun h163 => ?_)) | ((with_reducible refine mk_lc ?_); refine l_if_le (tgt := 170) dX11_rounds_163 (by decide) (fun h163 => ?_) (fun h163 => ?_)) | ((with_reducible refine mk_n ?_); refine n_if_le (tgt := 170) dX11_rounds_163 (by decide) (by omega) (fun h163 => ?_) (fun h163 => ?_)) | refine e_if_le (tgt := 170) dX11_rounds_163 (by decide) (fun h163 => ?_) (fun h163 => ?_)
                                                      · try first | contradiction | omega
                                                        all_goals
                                                          refine e_iconst (v := nI 0) dX11_rounds_170 rfl ?_
                                                          refine e_istore_n dX11_rounds_171 rfl (Nat.le_of_ble_eq_true rfl) rfl ?_
                                                          refine e_goto (tgt := 39) dX11_rounds_172 (by decide) ?_
                                                          first | (exfalso; omega) | (rw [h163] at ih2; exact ih2)
                                                      · try first | contradiction | omega
                                                        all_goals
                                                          refine e_iconst (v := nI 1) dX11_rounds_166 rfl ?_
                                                          refine e_goto (tgt := 171) dX11_rounds_167 (by decide) ?_
                                                          refine e_istore_n dX11_rounds_171 rfl (Nat.le_of_ble_eq_true rfl) rfl ?_
                                                          refine e_goto (tgt := 39) dX11_rounds_172 (by decide) ?_
                                                          first | (exfalso; omega) | (rw [h163] at ih2; exact ih2)
                                              · try first | contradiction | omega | (simp only [decide_eq_true_eq, decide_eq_false_iff_not] at h139; omega)
                                                all_goals
                                                  refine e_iconst (v := nI 0) dX11_rounds_142 rfl ?_
                                                  refine e_goto (tgt := 147) dX11_rounds_143 (by decide) ?_
                                                  first | ((with_reducible refine mk_nn ?_); refine n_iadd dX11_rounds_147 ?_) | refine e_iadd dX11_rounds_147 ?_
                                                  refine e_istore_n dX11_rounds_148 rfl (Nat.le_of_ble_eq_true rfl) rfl ?_
                                                  refine e_aload_n dX11_rounds_149 rfl rfl ?_
                                                  refine e_getI dX11_rounds_150 fl_X11_365 rfl ?_
                                                  rw [nxH_a]
                                                  first | ((with_reducible refine mk_b ?_); refine b_if_eq (tgt := 170) dX11_rounds_153 (by decide) (fun h153 => ?_) (fun h153 => ?_)) | ((with_reducible refine mk_ll ?_); refine m_if_eq (tgt := 170) dX11_rounds_153 (by decide) (by omega) (by omega) (fun h153 => ?_) (fun h153 => ?_)) | ((with_reducible refine mk_lc ?_); refine l_if_eq (tgt := 170) dX11_rounds_153 (by decide) (fun h153 => ?_) (fun h153 => ?_)) | ((with_reducible refine mk_n ?_); refine n_if_eq (tgt := 170) dX11_rounds_153 (by decide) (by omega) (fun h153 => ?_) (fun h153 => ?_)) | refine e_if_eq (tgt := 170) dX11_rounds_153 (by decide) (fun h153 => ?_) (fun h153 => ?_)
                                                  · try first | contradiction | omega | (simp only [decide_eq_true_eq, decide_eq_false_iff_not] at h153; omega)
                                                    all_goals
                                                      refine e_iconst (v := nI 0) dX11_rounds_170 rfl ?_
                                                      refine e_istore_n dX11_rounds_171 rfl (Nat.le_of_ble_eq_true rfl) rfl ?_
                                                      refine e_goto (tgt := 39) dX11_rounds_172 (by decide) ?_
                                                      first | (exfalso; omega) | (rw [h163] at ih2; exact ih2)
                                                  · try first | contradiction | omega | (simp only [decide_eq_true_eq, decide_eq_false_iff_not] at h153; omega)
                                                    all_goals
                                                      refine e_aload_n dX11_rounds_156 rfl rfl ?_
                                                      refine x_V0 (M' := mX11_evenOf) dX11_rounds_157 ml_X11_358 ok_X11_evenOf (by decide) rfl im_X11_evenOf se_X11_evenOf (ct_X11_evenOf ‹_› ap1) (Nat.le_of_ble_eq_true rfl) (by decide) (Nat.le_of_ble_eq_true rfl) ?_
                                                      refine e_iload_n dX11_rounds_160 rfl rfl ?_
                                                      first | ((with_reducible refine mk_n ?_); refine n_i2l dX11_rounds_161 (by omega) ?_) | refine e_i2l dX11_rounds_161 ?_
                                                      refine e_lcmp dX11_rounds_162 ?_
                                                      first | ((with_reducible refine mk_lo ?_); refine o_if_le (tgt := 170) dX11_rounds_163 (by decide) (by omega) (by first | assumption | (intro _ he; cases he; done)) (fun h163 => ?_) (fun h163 => ?_)) | ((with_reducible refine mk_ll ?_); refine m_if_le (tgt := 170) dX11_rounds_163 (by decide) (by omega) (by omega) (fun h163 => ?_) (fun h163 => ?_)) | ((with_reducible refine mk_lc ?_); refine l_if_le (tgt := 170) dX11_rounds_163 (by decide) (fun h163 => ?_) (fun h163 => ?_)) | ((with_reducible refine mk_n ?_); refine n_if_le (tgt := 170) dX11_rounds_163 (by decide) (by omega) (fun h163 => ?_) (fun h163 => ?_)) | refine e_if_le (tgt := 170) dX11_rounds_163 (by decide) (fun h163 => ?_) (fun h163 => ?_)
                                                      · try first | contradiction | omega
                                                        all_goals
                                                          refine e_iconst (v := nI 0) dX11_rounds_170 rfl ?_
                                                          refine e_istore_n dX11_rounds_171 rfl (Nat.le_of_ble_eq_true rfl) rfl ?_
                                                          refine e_goto (tgt := 39) dX11_rounds_172 (by decide) ?_
                                                          first | (exfalso; omega) | (rw [h163] at ih2; exact ih2)
                                                      · try first | contradiction | omega
                                                        all_goals
                                                          refine e_iconst (v := nI 1) dX11_rounds_166 rfl ?_
                                                          refine e_goto (tgt := 171) dX11_rounds_167 (by decide) ?_
                                                          refine e_istore_n dX11_rounds_171 rfl (Nat.le_of_ble_eq_true rfl) rfl ?_
                                                          refine e_goto (tgt := 39) dX11_rounds_172 (by decide) ?_
                                                          first | (exfalso; omega) | (rw [h163] at ih2; exact ih2)
                              · try first | contradiction | omega | (simp only [decide_eq_true_eq, decide_eq_false_iff_not] at h82; omega)
                                all_goals
                                  refine e_aload_n dX11_rounds_85 rfl rfl ?_
                                  refine e_getR dX11_rounds_86 fl_X11_7 rfl (by assumption) ?_
                                  refine e_bipush (v := nI 42) dX11_rounds_89 rfl ?_
                                  refine e_aload_n dX11_rounds_91 rfl rfl ?_
                                  refine e_getI dX11_rounds_92 fl_X11_368 rfl ?_
                                  rw [nxH_b]
                                  first | ((with_reducible refine mk_nn ?_); refine n_iadd dX11_rounds_95 ?_) | refine e_iadd dX11_rounds_95 ?_
                                  refine e_aload_n dX11_rounds_96 rfl rfl ?_
                                  refine e_getI dX11_rounds_97 fl_X11_371 rfl ?_
                                  rw [nxH_c]
                                  first | ((with_reducible refine mk_stw ?_); refine e_stw dX11_rounds_100 (by omega) ?_) | refine e_iast _ dX11_rounds_100 ⟨by decide, by decide⟩ rfl rfl (by simp only [lenK]; omega) ?_
                                  refine e_goto (tgt := 129) dX11_rounds_101 (by decide) ?_
                                  refine e_iload_n dX11_rounds_129 rfl rfl ?_
                                  refine e_aload_n dX11_rounds_130 rfl rfl ?_
                                  refine e_getI dX11_rounds_131 fl_X11_365 rfl ?_
                                  rw [nxH_a]
                                  first | ((with_reducible refine mk_b ?_); refine b_if_eq (tgt := 142) dX11_rounds_134 (by decide) (fun h134 => ?_) (fun h134 => ?_)) | ((with_reducible refine mk_ll ?_); refine m_if_eq (tgt := 142) dX11_rounds_134 (by decide) (by omega) (by omega) (fun h134 => ?_) (fun h134 => ?_)) | ((with_reducible refine mk_lc ?_); refine l_if_eq (tgt := 142) dX11_rounds_134 (by decide) (fun h134 => ?_) (fun h134 => ?_)) | ((with_reducible refine mk_n ?_); refine n_if_eq (tgt := 142) dX11_rounds_134 (by decide) (by omega) (fun h134 => ?_) (fun h134 => ?_)) | refine e_if_eq (tgt := 142) dX11_rounds_134 (by decide) (fun h134 => ?_) (fun h134 => ?_)
                                  · try first | contradiction | omega | (simp only [decide_eq_true_eq, decide_eq_false_iff_not] at h134; omega)
                                    all_goals
                                      refine e_iconst (v := nI 0) dX11_rounds_142 rfl ?_
                                      refine e_goto (tgt := 147) dX11_rounds_143 (by decide) ?_
                                      first | ((with_reducible refine mk_nn ?_); refine n_iadd dX11_rounds_147 ?_) | refine e_iadd dX11_rounds_147 ?_
                                      refine e_istore_n dX11_rounds_148 rfl (Nat.le_of_ble_eq_true rfl) rfl ?_
                                      refine e_aload_n dX11_rounds_149 rfl rfl ?_
                                      refine e_getI dX11_rounds_150 fl_X11_365 rfl ?_
                                      rw [nxH_a]
                                      first | ((with_reducible refine mk_b ?_); refine b_if_eq (tgt := 170) dX11_rounds_153 (by decide) (fun h153 => ?_) (fun h153 => ?_)) | ((with_reducible refine mk_ll ?_); refine m_if_eq (tgt := 170) dX11_rounds_153 (by decide) (by omega) (by omega) (fun h153 => ?_) (fun h153 => ?_)) | ((with_reducible refine mk_lc ?_); refine l_if_eq (tgt := 170) dX11_rounds_153 (by decide) (fun h153 => ?_) (fun h153 => ?_)) | ((with_reducible refine mk_n ?_); refine n_if_eq (tgt := 170) dX11_rounds_153 (by decide) (by omega) (fun h153 => ?_) (fun h153 => ?_)) | refine e_if_eq (tgt := 170) dX11_rounds_153 (by decide) (fun h153 => ?_) (fun h153 => ?_)
                                      · try first | contradiction | omega | (simp only [decide_eq_true_eq, decide_eq_false_iff_not] at h153; omega)
                                        all_goals
                                          refine e_iconst (v := nI 0) dX11_rounds_170 rfl ?_
                                          refine e_istore_n dX11_rounds_171 rfl (Nat.le_of_ble_eq_true rfl) rfl ?_
                                          refine e_goto (tgt := 39) dX11_rounds_172 (by decide) ?_
                                          first | (exfalso; omega) | (rw [h163] at ih2; exact ih2)
                                      · try first | contradiction | omega | (simp only [decide_eq_true_eq, decide_eq_false_iff_not] at h153; omega)
                                        all_goals
                                          refine e_aload_n dX11_rounds_156 rfl rfl ?_
                                          refine x_V0 (M' := mX11_evenOf) dX11_rounds_157 ml_X11_358 ok_X11_evenOf (by decide) rfl im_X11_evenOf se_X11_evenOf (ct_X11_evenOf ‹_› ap1) (Nat.le_of_ble_eq_true rfl) (by decide) (Nat.le_of_ble_eq_true rfl) ?_
                                          refine e_iload_n dX11_rounds_160 rfl rfl ?_
                                          first | ((with_reducible refine mk_n ?_); refine n_i2l dX11_rounds_161 (by omega) ?_) | refine e_i2l dX11_rounds_161 ?_
                                          refine e_lcmp dX11_rounds_162 ?_
                                          first | ((with_reducible refine mk_lo ?_); refine o_if_le (tgt := 170) dX11_rounds_163 (by decide) (by omega) (by first | assumption | (intro _ he; cases he; done)) (fun h163 => ?_) (fun h163 => ?_)) | ((with_reducible refine mk_ll ?_); refine m_if_le (tgt := 170) dX11_rounds_163 (by decide) (by omega) (by omega) (fun h163 => ?_) (fun h163 => ?_)) | ((with_reducible refine mk_lc ?_); refine l_if_le (tgt := 170) dX11_rounds_163 (by decide) (fun h163 => ?_) (fun h163 => ?_)) | ((with_reducible refine mk_n ?_); refine n_if_le (tgt := 170) dX11_rounds_163 (by decide) (by omega) (fun h163 => ?_) (fun h163 => ?_)) | refine e_if_le (tgt := 170) dX11_rounds_163 (by decide) (fun h163 => ?_) (fun h163 => ?_)
                                          · try first | contradiction | omega
                                            all_goals
                                              refine e_iconst (v := nI 0) dX11_rounds_170 rfl ?_
                                              refine e_istore_n dX11_rounds_171 rfl (Nat.le_of_ble_eq_true rfl) rfl ?_
                                              refine e_goto (tgt := 39) dX11_rounds_172 (by decide) ?_
                                              first | (exfalso; omega) | (rw [h163] at ih2; exact ih2)
                                          · try first | contradiction | omega
                                            all_goals
                                              refine e_iconst (v := nI 1) dX11_rounds_166 rfl ?_
                                              refine e_goto (tgt := 171) dX11_rounds_167 (by decide) ?_
                                              refine e_istore_n dX11_rounds_171 rfl (Nat.le_of_ble_eq_true rfl) rfl ?_
                                              refine e_goto (tgt := 39) dX11_rounds_172 (by decide) ?_
                                              first | (exfalso; omega) | (rw [h163] at ih2; exact ih2)
                                  · try first | contradiction | omega | (simp only [decide_eq_true_eq, decide_eq_false_iff_not] at h134; omega)
                                    all_goals
                                      refine e_iload dX11_rounds_137 rfl ?_
                                      first | ((with_reducible refine mk_b ?_); refine b_if_eq (tgt := 146) dX11_rounds_139 (by decide) (fun h139 => ?_) (fun h139 => ?_)) | ((with_reducible refine mk_ll ?_); refine m_if_eq (tgt := 146) dX11_rounds_139 (by decide) (by omega) (by omega) (fun h139 => ?_) (fun h139 => ?_)) | ((with_reducible refine mk_lc ?_); refine l_if_eq (tgt := 146) dX11_rounds_139 (by decide) (fun h139 => ?_) (fun h139 => ?_)) | ((with_reducible refine mk_n ?_); refine n_if_eq (tgt := 146) dX11_rounds_139 (by decide) (by omega) (fun h139 => ?_) (fun h139 => ?_)) | refine e_if_eq (tgt := 146) dX11_rounds_139 (by decide) (fun h139 => ?_) (fun h139 => ?_)
                                      · try first | contradiction | omega | (simp only [decide_eq_true_eq, decide_eq_false_iff_not] at h139; omega)
                                        all_goals
                                          refine e_iconst (v := nI 1) dX11_rounds_146 rfl ?_
                                          first | ((with_reducible refine mk_nn ?_); refine n_iadd dX11_rounds_147 ?_) | refine e_iadd dX11_rounds_147 ?_
                                          refine e_istore_n dX11_rounds_148 rfl (Nat.le_of_ble_eq_true rfl) rfl ?_
                                          refine e_aload_n dX11_rounds_149 rfl rfl ?_
                                          refine e_getI dX11_rounds_150 fl_X11_365 rfl ?_
                                          rw [nxH_a]
                                          first | ((with_reducible refine mk_b ?_); refine b_if_eq (tgt := 170) dX11_rounds_153 (by decide) (fun h153 => ?_) (fun h153 => ?_)) | ((with_reducible refine mk_ll ?_); refine m_if_eq (tgt := 170) dX11_rounds_153 (by decide) (by omega) (by omega) (fun h153 => ?_) (fun h153 => ?_)) | ((with_reducible refine mk_lc ?_); refine l_if_eq (tgt := 170) dX11_rounds_153 (by decide) (fun h153 => ?_) (fun h153 => ?_)) | ((with_reducible refine mk_n ?_); refine n_if_eq (tgt := 170) dX11_rounds_153 (by decide) (by omega) (fun h153 => ?_) (fun h153 => ?_)) | refine e_if_eq (tgt := 170) dX11_rounds_153 (by decide) (fun h153 => ?_) (fun h153 => ?_)
                                          · try first | contradiction | omega | (simp only [decide_eq_true_eq, decide_eq_false_iff_not] at h153; omega)
                                            all_goals
                                              refine e_iconst (v := nI 0) dX11_rounds_170 rfl ?_
                                              refine e_istore_n dX11_rounds_171 rfl (Nat.le_of_ble_eq_true rfl) rfl ?_
                                              refine e_goto (tgt := 39) dX11_rounds_172 (by decide) ?_
                                              first | (exfalso; omega) | (rw [h163] at ih2; exact ih2)
                                          · try first | contradiction | omega | (simp only [decide_eq_true_eq, decide_eq_false_iff_not] at h153; omega)
                                            all_goals
                                              refine e_aload_n dX11_rounds_156 rfl rfl ?_
                                              refine x_V0 (M' := mX11_evenOf) dX11_rounds_157 ml_X11_358 ok_X11_evenOf (by decide) rfl im_X11_evenOf se_X11_evenOf (ct_X11_evenOf ‹_› ap1) (Nat.le_of_ble_eq_true rfl) (by decide) (Nat.le_of_ble_eq_true rfl) ?_
                                              refine e_iload_n dX11_rounds_160 rfl rfl ?_
                                              first | ((with_reducible refine mk_n ?_); refine n_i2l dX11_rounds_161 (by omega) ?_) | refine e_i2l dX11_rounds_161 ?_
                                              refine e_lcmp dX11_rounds_162 ?_
                                              first | ((with_reducible refine mk_lo ?_); refine o_if_le (tgt := 170) dX11_rounds_163 (by decide) (by omega) (by first | assumption | (intro _ he; cases he; done)) (fun h163 => ?_) (fun h163 => ?_)) | ((with_reducible refine mk_ll ?_); refine m_if_le (tgt := 170) dX11_rounds_163 (by decide) (by omega) (by omega) (fun h163 => ?_) (fun h163 => ?_)) | ((with_reducible refine mk_lc ?_); refine l_if_le (tgt := 170) dX11_rounds_163 (by decide) (fun h163 => ?_) (fun h163 => ?_)) | ((with_reducible refine mk_n ?_); refine n_if_le (tgt := 170) dX11_rounds_163 (by decide) (by omega) (fun h163 => ?_) (fun h163 => ?_)) | refine e_if_le (tgt := 170) dX11_rounds_163 (by decide) (fun h163 => ?_) (fun h163 => ?_)
                                              · try first | contradiction | omega
                                                all_goals
                                                  refine e_iconst (v := nI 0) dX11_rounds_170 rfl ?_
                                                  refine e_istore_n dX11_rounds_171 rfl (Nat.le_of_ble_eq_true rfl) rfl ?_
                                                  refine e_goto (tgt := 39) dX11_rounds_172 (by decide) ?_
                                                  first | (exfalso; omega) | (rw [h163] at ih2; exact ih2)
                                              · try first | contradiction | omega
                                                all_goals
                                                  refine e_iconst (v := nI 1) dX11_rounds_166 rfl ?_
                                                  refine e_goto (tgt := 171) dX11_rounds_167 (by decide) ?_
                                                  refine e_istore_n dX11_rounds_171 rfl (Nat.le_of_ble_eq_true rfl) rfl ?_
                                                  refine e_goto (tgt := 39) dX11_rounds_172 (by decide) ?_
                                                  first | (exfalso; omega) | (rw [h163] at ih2; exact ih2)
                                      · try first | contradiction | omega | (simp only [decide_eq_true_eq, decide_eq_false_iff_not] at h139; omega)
                                        all_goals
                                          refine e_iconst (v := nI 0) dX11_rounds_142 rfl ?_
                                          refine e_goto (tgt := 147) dX11_rounds_143 (by decide) ?_
                                          first | ((with_reducible refine mk_nn ?_); refine n_iadd dX11_rounds_147 ?_) | refine e_iadd dX11_rounds_147 ?_
                                          refine e_istore_n dX11_rounds_148 rfl (Nat.le_of_ble_eq_true rfl) rfl ?_
                                          refine e_aload_n dX11_rounds_149 rfl rfl ?_
                                          refine e_getI dX11_rounds_150 fl_X11_365 rfl ?_
                                          rw [nxH_a]
                                          first | ((with_reducible refine mk_b ?_); refine b_if_eq (tgt := 170) dX11_rounds_153 (by decide) (fun h153 => ?_) (fun h153 => ?_)) | ((with_reducible refine mk_ll ?_); refine m_if_eq (tgt := 170) dX11_rounds_153 (by decide) (by omega) (by omega) (fun h153 => ?_) (fun h153 => ?_)) | ((with_reducible refine mk_lc ?_); refine l_if_eq (tgt := 170) dX11_rounds_153 (by decide) (fun h153 => ?_) (fun h153 => ?_)) | ((with_reducible refine mk_n ?_); refine n_if_eq (tgt := 170) dX11_rounds_153 (by decide) (by omega) (fun h153 => ?_) (fun h153 => ?_)) | refine e_if_eq (tgt := 170) dX11_rounds_153 (by decide) (fun h153 => ?_) (fun h153 => ?_)
                                          · try first | contradiction | omega | (simp only [decide_eq_true_eq, decide_eq_false_iff_not] at h153; omega)
                                            all_goals
                                              refine e_iconst (v := nI 0) dX11_rounds_170 rfl ?_
                                              refine e_istore_n dX11_rounds_171 rfl (Nat.le_of_ble_eq_true rfl) rfl ?_
                                              refine e_goto (tgt := 39) dX11_rounds_172 (by decide) ?_
                                              first | (exfalso; omega) | (rw [h163] at ih2; exact ih2)
                                          · try first | contradiction | omega | (simp only [decide_eq_true_eq, decide_eq_false_iff_not] at h153; omega)
                                            all_goals
                                              refine e_aload_n dX11_rounds_156 rfl rfl ?_
                                              refine x_V0 (M' := mX11_evenOf) dX11_rounds_157 ml_X11_358 ok_X11_evenOf (by decide) rfl im_X11_evenOf se_X11_evenOf (ct_X11_evenOf ‹_› ap1) (Nat.le_of_ble_eq_true rfl) (by decide) (Nat.le_of_ble_eq_true rfl) ?_
                                              refine e_iload_n dX11_rounds_160 rfl rfl ?_
                                              first | ((with_reducible refine mk_n ?_); refine n_i2l dX11_rounds_161 (by omega) ?_) | refine e_i2l dX11_rounds_161 ?_
                                              refine e_lcmp dX11_rounds_162 ?_
                                              first | ((with_reducible refine mk_lo ?_); refine o_if_le (tgt := 170) dX11_rounds_163 (by decide) (by omega) (by first | assumption | (intro _ he; cases he; done)) (fun h163 => ?_) (fun h163 => ?_)) | ((with_reducible refine mk_ll ?_); refine m_if_le (tgt := 170) dX11_rounds_163 (by decide) (by omega) (by omega) (fun h163 => ?_) (fun h163 => ?_)) | ((with_reducible refine mk_lc ?_); refine l_if_le (tgt := 170) dX11_rounds_163 (by decide) (fun h163 => ?_) (fun h163 => ?_)) | ((with_reducible refine mk_n ?_); refine n_if_le (tgt := 170) dX11_rounds_163 (by decide) (by omega) (fun h163 => ?_) (fun h163 => ?_)) | refine e_if_le (tgt := 170) dX11_rounds_163 (by decide) (fun h163 => ?_) (fun h163 => ?_)
                                              · try first | contradiction | omega
                                                all_goals
                                                  refine e_iconst (v := nI 0) dX11_rounds_170 rfl ?_
                                                  refine e_istore_n dX11_rounds_171 rfl (Nat.le_of_ble_eq_true rfl) rfl ?_
                                                  refine e_goto (tgt := 39) dX11_rounds_172 (by decide) ?_
                                                  first | (exfalso; omega) | (rw [h163] at ih2; exact ih2)
                                              · try first | contradiction | omega
                                                all_goals
                                                  refine e_iconst (v := nI 1) dX11_rounds_166 rfl ?_
                                                  refine e_goto (tgt := 171) dX11_rounds_167 (by decide) ?_
                                                  refine e_istore_n dX11_rounds_171 rfl (Nat.le_of_ble_eq_true rfl) rfl ?_
                                                  refine e_goto (tgt := 39) dX11_rounds_172 (by decide) ?_
                                                  first | (exfalso; omega) | (rw [h163] at ih2; exact ih2)
                      · try first | contradiction | omega
                        all_goals
                          omega
    have kk := key 40 fi w 0 (oI (rnF b 40 w)) (by omega) iv (by omega) ⟨_, _, _, (nxH_id fi).symm⟩ (fun _ _ => rfl) (by congr 1; cases rnF b 40 w <;> rfl)
    have hol := evF_le iv
    refine e_iload_n dX11_rounds_0 rfl rfl ?_
    first | ((with_reducible refine mk_n ?_); refine n_i2l dX11_rounds_1 (by omega) ?_) | refine e_i2l dX11_rounds_1 ?_
    refine e_lconst (v := lN 0) dX11_rounds_2 rfl ?_
    refine e_ldc2 dX11_rounds_3 co_X11_384 ?_
    refine x_S3 (M' := mX11_isIn) dX11_rounds_6 ml_X11_45 ok_X11_isIn rfl sc_X11_isIn (by first | ((with_reducible refine ct_isInN ?_ ?_ ?_) <;> omega) | ((with_reducible refine ct_isInX ?_ ?_) <;> omega) | exact ct_X11_isIn _ _ _) (Nat.le_of_ble_eq_true rfl) (by decide) (Nat.le_of_ble_eq_true rfl) ?_
    first | ((with_reducible refine mk_b ?_); refine b_if_ne (tgt := 14) dX11_rounds_9 (by decide) (fun h9 => ?_) (fun h9 => ?_)) | ((with_reducible refine mk_ll ?_); refine m_if_ne (tgt := 14) dX11_rounds_9 (by decide) (by omega) (by omega) (fun h9 => ?_) (fun h9 => ?_)) | ((with_reducible refine mk_lc ?_); refine l_if_ne (tgt := 14) dX11_rounds_9 (by decide) (fun h9 => ?_) (fun h9 => ?_)) | ((with_reducible refine mk_n ?_); refine n_if_ne (tgt := 14) dX11_rounds_9 (by decide) (by omega) (fun h9 => ?_) (fun h9 => ?_)) | refine e_if_ne (tgt := 14) dX11_rounds_9 (by decide) (fun h9 => ?_) (fun h9 => ?_)
    · try first | contradiction | omega | (simp only [decide_eq_true_eq, decide_eq_false_iff_not] at h9; omega)
      all_goals
        refine e_aload_n dX11_rounds_14 rfl rfl ?_
        refine y_V0 (M' := mX11_laysAside) dX11_rounds_15 ml_X11_311 ok_X11_laysAside (by decide) rfl im_X11_laysAside se_X11_laysAside (ct_X11_laysAside ‹_›) (Nat.le_of_ble_eq_true rfl) (by decide) (Nat.le_of_ble_eq_true rfl) ?_
        refine e_iconst (v := nI 0) dX11_rounds_18 rfl ?_
        refine e_istore_n dX11_rounds_19 rfl (Nat.le_of_ble_eq_true rfl) rfl ?_
        refine e_aload_n dX11_rounds_20 rfl rfl ?_
        refine x_V0 (M' := mX11_evenOf) dX11_rounds_21 ml_X11_358 ok_X11_evenOf (by decide) rfl im_X11_evenOf se_X11_evenOf (ct_X11_evenOf ‹_› ‹_›) (Nat.le_of_ble_eq_true rfl) (by decide) (Nat.le_of_ble_eq_true rfl) ?_
        refine e_iload_n dX11_rounds_24 rfl rfl ?_
        first | ((with_reducible refine mk_n ?_); refine n_i2l dX11_rounds_25 (by omega) ?_) | refine e_i2l dX11_rounds_25 ?_
        refine e_lcmp dX11_rounds_26 ?_
        first | ((with_reducible refine mk_lo ?_); refine o_if_le (tgt := 34) dX11_rounds_27 (by decide) (by omega) (by first | assumption | (intro _ he; cases he; done)) (fun h27 => ?_) (fun h27 => ?_)) | ((with_reducible refine mk_ll ?_); refine m_if_le (tgt := 34) dX11_rounds_27 (by decide) (by omega) (by omega) (fun h27 => ?_) (fun h27 => ?_)) | ((with_reducible refine mk_lc ?_); refine l_if_le (tgt := 34) dX11_rounds_27 (by decide) (fun h27 => ?_) (fun h27 => ?_)) | ((with_reducible refine mk_n ?_); refine n_if_le (tgt := 34) dX11_rounds_27 (by decide) (by omega) (fun h27 => ?_) (fun h27 => ?_)) | refine e_if_le (tgt := 34) dX11_rounds_27 (by decide) (fun h27 => ?_) (fun h27 => ?_)
        · try first | contradiction | omega
          all_goals
            refine e_iconst (v := nI 0) dX11_rounds_34 rfl ?_
            refine e_istore_n dX11_rounds_35 rfl (Nat.le_of_ble_eq_true rfl) rfl ?_
            refine e_iconst (v := nI 0) dX11_rounds_36 rfl ?_
            refine e_istore dX11_rounds_37 (Nat.le_of_ble_eq_true rfl) rfl ?_
            rw [h27] at kk
            exact kk
        · try first | contradiction | omega
          all_goals
            refine e_iconst (v := nI 1) dX11_rounds_30 rfl ?_
            refine e_goto (tgt := 35) dX11_rounds_31 (by decide) ?_
            refine e_istore_n dX11_rounds_35 rfl (Nat.le_of_ble_eq_true rfl) rfl ?_
            refine e_iconst (v := nI 0) dX11_rounds_36 rfl ?_
            refine e_istore dX11_rounds_37 (Nat.le_of_ble_eq_true rfl) rfl ?_
            rw [h27] at kk
            exact kk
    · try first | contradiction | omega | (simp only [decide_eq_true_eq, decide_eq_false_iff_not] at h9; omega)
      all_goals
        omega
