def emF (s : Nat) : Nat → (Nat → Nat) → Nat × (Nat → Nat)
  | 0, w => (0, w)
  | f + 1, w => match hvO w s, obL w s with
    | some i, some t => ((emF s f (upN w (42 + i) t)).1 + 1, (emF s f (upN w (42 + i) t)).2)
    | _, _ => (0, w)
def emG (w : Nat → Nat) (s : Nat) : Nat := match obH w s, obL w s with
  | some a, some l => ldF w a - ldF w l
  | _, _ => 0
def emO (w : Nat → Nat) (s : Nat) : Option Nat := if (hvO w s).isSome then obL w s else none
def emV (b n : Nat) (v : Nat → Nat) (s : Nat) (F : Int32) : Int64 := if b = 0 then lN n else if b = 1 then lN (emG v s) else F.toInt64
def empR (w : Nat → Nat) (x y : Int32) : Int64 := if inR x 6 ∧ inR y 3 ∧ (obL w x.toNatClampNeg).isSome then emV y.toNatClampNeg (emF x.toNatClampNeg 32 w).1 (emF x.toNatClampNeg 32 w).2 x.toNatClampNeg (oI (emO w x.toNatClampNeg)) else -1
theorem ob_some {w v : Nat → Nat} {s : Nat} (h : (obL w s).isSome = true) (hu : ∀ t, t < 6 → v (4 + t) = w (4 + t)) : ∃ a l, obH v s = some a ∧ obL v s = some l ∧ a < 6 ∧ l < 6 ∧ l ≠ s ∧ ldF v l ≤ ldF v a := by
  obtain ⟨t, ht⟩ := Option.isSome_iff_exists.mp h
  have h1 := bst_in ht
  have hc : (decide (v (4 + t) ≠ 0) && decide (t ≠ s)) = true := by rw [hu t h1.1]; exact h1.2
  cases hL : obL v s with
  | none => have := bst_no hL t h1.1; exact absurd (this.symm.trans hc) (by decide)
  | some l =>
    cases hH : obH v s with
    | none => have := bst_no hH t h1.1; exact absurd (this.symm.trans hc) (by decide)
    | some a =>
      have h2 := bst_in hL
      have h3 := bst_in hH
      have h4 := bst_mn hL a h3.1 h3.2
      have h5 := h2.2
      simp only [Bool.and_eq_true, decide_eq_true_eq] at h5
      exact ⟨a, l, rfl, rfl, h3.1, h2.1, h5.2, h4⟩
theorem cnt_up {p q : Nat → Bool} {i : Nat} : ∀ n, i < n → p i = true → q i = false → (∀ j, j ≠ i → q j = p j) → cnt q n + 1 = cnt p n
  | 0, h, _, _, _ => by omega
  | n + 1, h, hp, hq, ho => by
    show cnt q n + (if q n then 1 else 0) + 1 = cnt p n + (if p n then 1 else 0)
    by_cases e : i = n
    · subst e
      rw [hp, hq, cnt_ext i (fun j hj => ho j (by omega))]
      rfl
    · have := cnt_up n (by omega) hp hq ho
      rw [ho n (fun z => e z.symm)]
      omega
theorem oI_l {o : Option Nat} (h : ∀ i, o = some i → i < 2147483648) : (oI o).toInt64 = oL o := by
  cases o with
  | none => rfl
  | some i => exact nI_l (b31 (h i rfl))
theorem emF_1 {s f i t : Nat} {w : Nat → Nat} (h : hvO w s = some i) (g : obL w s = some t) : emF s (f + 1) w = ((emF s f (upN w (42 + i) t)).1 + 1, (emF s f (upN w (42 + i) t)).2) := by
  show (match hvO w s, obL w s with | some i, some t => _ | _, _ => _) = _
  rw [h, g]
theorem emF_0 {s f : Nat} {w : Nat → Nat} (h : hvO w s = none) : emF s f w = (0, w) := by
  cases f with
  | zero => rfl
  | succ f =>
    show (match hvO w s, obL w s with | some i, some t => _ | _, _ => _) = _
    rw [h]
theorem ct_X11_emptied {fi : FI} {fr : FR} {ai : FI} {ar : FR} {N : Nat} {w : Nat → Nat} (sm : SM fr) (iv : Inv w) (y0 y1 : Int32) : CP mX11_emptied 4 0 0 [.ref (rf 11 80), .int y0, .int y1] fi fr (mW ai w) ar N (tQ fi fr ai ar N w (.long (empR w y0 y1))) := by
  obtain ⟨sW, sA0, sK, sU, sC, sKC, sT, sCl⟩ := id sm
  have h1 := iv_n iv
  have h3 := iv_mm iv
  change EV mX11_emptied 4 0 0 0 [some (.ref (rf 11 80)), some (.int y0), some (.int y1), none, none, none, none] [] fi fr (mW ai w) ar N (tQ fi fr ai ar N w (.long (empR w y0 y1)))
  cases hx : inR y0 6 with
  | false =>
    have e1 : empR w y0 y1 = -1 := by unfold empR; rw [if_neg (by rw [hx]; simp)]
    rw [e1]
    refine e_iload_n dX11_emptied_0 rfl rfl ?_
    refine x_S1 (M' := mX11_isServer) dX11_emptied_1 ml_X11_161 ok_X11_isServer rfl sc_X11_isServer (ct_X11_isServer _) (Nat.le_of_ble_eq_true rfl) (by decide) (Nat.le_of_ble_eq_true rfl) ?_
    rw [hx]
    first | ((with_reducible refine mk_b ?_); refine b_if_eq (tgt := 29) dX11_emptied_4 (by decide) (fun h4 => ?_) (fun h4 => ?_)) | ((with_reducible refine mk_ll ?_); refine m_if_eq (tgt := 29) dX11_emptied_4 (by decide) (by omega) (by omega) (fun h4 => ?_) (fun h4 => ?_)) | ((with_reducible refine mk_lc ?_); refine l_if_eq (tgt := 29) dX11_emptied_4 (by decide) (fun h4 => ?_) (fun h4 => ?_)) | ((with_reducible refine mk_n ?_); refine n_if_eq (tgt := 29) dX11_emptied_4 (by decide) (by omega) (fun h4 => ?_) (fun h4 => ?_)) | refine e_if_eq (tgt := 29) dX11_emptied_4 (by decide) (fun h4 => ?_) (fun h4 => ?_)
    · try first | contradiction | omega | (simp only [decide_eq_true_eq, decide_eq_false_iff_not] at h4; omega)
      all_goals
        refine e_ldc2 dX11_emptied_29 co_X11_326 ?_
        refine e_ret (some _) rfl (r_long dX11_emptied_32 rfl) ?_
        exact ⟨rfl, ⟨_, _, _, (nxH_id fi).symm⟩, rfl, ⟨ai (rf 32 82), by rw [sA_self]⟩, rfl, rfl⟩
    · try first | contradiction | omega | (simp only [decide_eq_true_eq, decide_eq_false_iff_not] at h4; omega)
      all_goals
        contradiction
  | true =>
    obtain ⟨s, hs, hs2, rfl⟩ := inR_ex hx
    have hsc : (nI s).toNatClampNeg = s := nI_clamp hs2
    cases hy : inR y1 3 with
    | false =>
      have hy2 := inR_f hy
      have e1 : empR w (nI s) y1 = -1 := by unfold empR; rw [if_neg (by rw [hy]; simp)]
      rw [e1]
      refine e_iload_n dX11_emptied_0 rfl rfl ?_
      refine x_S1 (M' := mX11_isServer) dX11_emptied_1 ml_X11_161 ok_X11_isServer rfl sc_X11_isServer (ct_X11_isServer _) (Nat.le_of_ble_eq_true rfl) (by decide) (Nat.le_of_ble_eq_true rfl) ?_
      rw [hx]
      first | ((with_reducible refine mk_b ?_); refine b_if_eq (tgt := 29) dX11_emptied_4 (by decide) (fun h4 => ?_) (fun h4 => ?_)) | ((with_reducible refine mk_ll ?_); refine m_if_eq (tgt := 29) dX11_emptied_4 (by decide) (by omega) (by omega) (fun h4 => ?_) (fun h4 => ?_)) | ((with_reducible refine mk_lc ?_); refine l_if_eq (tgt := 29) dX11_emptied_4 (by decide) (fun h4 => ?_) (fun h4 => ?_)) | ((with_reducible refine mk_n ?_); refine n_if_eq (tgt := 29) dX11_emptied_4 (by decide) (by omega) (fun h4 => ?_) (fun h4 => ?_)) | refine e_if_eq (tgt := 29) dX11_emptied_4 (by decide) (fun h4 => ?_) (fun h4 => ?_)
      · try first | contradiction | omega | (simp only [decide_eq_true_eq, decide_eq_false_iff_not] at h4; omega)
        all_goals
          refine e_ldc2 dX11_emptied_29 co_X11_326 ?_
          refine e_ret (some _) rfl (r_long dX11_emptied_32 rfl) ?_
          exact ⟨rfl, ⟨_, _, _, (nxH_id fi).symm⟩, rfl, ⟨ai (rf 32 82), by rw [sA_self]⟩, rfl, rfl⟩
      · try first | contradiction | omega | (simp only [decide_eq_true_eq, decide_eq_false_iff_not] at h4; omega)
        all_goals
          refine e_iload_n dX11_emptied_7 rfl rfl ?_
          first | ((with_reducible refine mk_n ?_); refine n_i2l dX11_emptied_8 (by omega) ?_) | refine e_i2l dX11_emptied_8 ?_
          refine e_lconst (v := lN 0) dX11_emptied_9 rfl ?_
          refine e_ldc2 dX11_emptied_10 co_X11_77 ?_
          refine x_S3 (M' := mX11_isIn) dX11_emptied_13 ml_X11_45 ok_X11_isIn rfl sc_X11_isIn (by first | ((with_reducible refine ct_isInN ?_ ?_ ?_) <;> omega) | ((with_reducible refine ct_isInX ?_ ?_) <;> omega) | exact ct_X11_isIn _ _ _) (Nat.le_of_ble_eq_true rfl) (by decide) (Nat.le_of_ble_eq_true rfl) ?_
          first | ((with_reducible refine mk_b ?_); refine b_if_eq (tgt := 29) dX11_emptied_16 (by decide) (fun h16 => ?_) (fun h16 => ?_)) | ((with_reducible refine mk_ll ?_); refine m_if_eq (tgt := 29) dX11_emptied_16 (by decide) (by omega) (by omega) (fun h16 => ?_) (fun h16 => ?_)) | ((with_reducible refine mk_lc ?_); refine l_if_eq (tgt := 29) dX11_emptied_16 (by decide) (fun h16 => ?_) (fun h16 => ?_)) | ((with_reducible refine mk_n ?_); refine n_if_eq (tgt := 29) dX11_emptied_16 (by decide) (by omega) (fun h16 => ?_) (fun h16 => ?_)) | refine e_if_eq (tgt := 29) dX11_emptied_16 (by decide) (fun h16 => ?_) (fun h16 => ?_)
          · try first | contradiction | omega | (simp only [decide_eq_true_eq, decide_eq_false_iff_not] at h16; omega)
            all_goals
              refine e_ldc2 dX11_emptied_29 co_X11_326 ?_
              refine e_ret (some _) rfl (r_long dX11_emptied_32 rfl) ?_
              exact ⟨rfl, ⟨_, _, _, (nxH_id fi).symm⟩, rfl, ⟨ai (rf 32 82), by rw [sA_self]⟩, rfl, rfl⟩
          · try first | contradiction | omega | (simp only [decide_eq_true_eq, decide_eq_false_iff_not] at h16; omega)
            all_goals
              omega
    | true =>
      obtain ⟨b, hb, hb2, rfl⟩ := inR_ex hy
      have hbc : (nI b).toNatClampNeg = b := nI_clamp hb2
      have hbi := nI_toInt (b31 hb2)
      cases ho : (obL w s).isSome with
      | false =>
        have ho2 : obL w s = none := Option.isSome_eq_false_iff.mp ho |> Option.isNone_iff_eq_none.mp
        have e1 : empR w (nI s) (nI b) = -1 := by unfold empR; rw [if_neg (by rw [hsc, ho]; simp)]
        rw [e1]
        refine e_iload_n dX11_emptied_0 rfl rfl ?_
        refine x_S1 (M' := mX11_isServer) dX11_emptied_1 ml_X11_161 ok_X11_isServer rfl sc_X11_isServer (ct_X11_isServer _) (Nat.le_of_ble_eq_true rfl) (by decide) (Nat.le_of_ble_eq_true rfl) ?_
        rw [hx]
        first | ((with_reducible refine mk_b ?_); refine b_if_eq (tgt := 29) dX11_emptied_4 (by decide) (fun h4 => ?_) (fun h4 => ?_)) | ((with_reducible refine mk_ll ?_); refine m_if_eq (tgt := 29) dX11_emptied_4 (by decide) (by omega) (by omega) (fun h4 => ?_) (fun h4 => ?_)) | ((with_reducible refine mk_lc ?_); refine l_if_eq (tgt := 29) dX11_emptied_4 (by decide) (fun h4 => ?_) (fun h4 => ?_)) | ((with_reducible refine mk_n ?_); refine n_if_eq (tgt := 29) dX11_emptied_4 (by decide) (by omega) (fun h4 => ?_) (fun h4 => ?_)) | refine e_if_eq (tgt := 29) dX11_emptied_4 (by decide) (fun h4 => ?_) (fun h4 => ?_)
        · try first | contradiction | omega | (simp only [decide_eq_true_eq, decide_eq_false_iff_not] at h4; omega)
          all_goals
            refine e_ldc2 dX11_emptied_29 co_X11_326 ?_
            refine e_ret (some _) rfl (r_long dX11_emptied_32 rfl) ?_
            exact ⟨rfl, ⟨_, _, _, (nxH_id fi).symm⟩, rfl, ⟨ai (rf 32 82), by rw [sA_self]⟩, rfl, rfl⟩
        · try first | contradiction | omega | (simp only [decide_eq_true_eq, decide_eq_false_iff_not] at h4; omega)
          all_goals
            refine e_iload_n dX11_emptied_7 rfl rfl ?_
            first | ((with_reducible refine mk_n ?_); refine n_i2l dX11_emptied_8 (by omega) ?_) | refine e_i2l dX11_emptied_8 ?_
            refine e_lconst (v := lN 0) dX11_emptied_9 rfl ?_
            refine e_ldc2 dX11_emptied_10 co_X11_77 ?_
            refine x_S3 (M' := mX11_isIn) dX11_emptied_13 ml_X11_45 ok_X11_isIn rfl sc_X11_isIn (by first | ((with_reducible refine ct_isInN ?_ ?_ ?_) <;> omega) | ((with_reducible refine ct_isInX ?_ ?_) <;> omega) | exact ct_X11_isIn _ _ _) (Nat.le_of_ble_eq_true rfl) (by decide) (Nat.le_of_ble_eq_true rfl) ?_
            first | ((with_reducible refine mk_b ?_); refine b_if_eq (tgt := 29) dX11_emptied_16 (by decide) (fun h16 => ?_) (fun h16 => ?_)) | ((with_reducible refine mk_ll ?_); refine m_if_eq (tgt := 29) dX11_emptied_16 (by decide) (by omega) (by omega) (fun h16 => ?_) (fun h16 => ?_)) | ((with_reducible refine mk_lc ?_); refine l_if_eq (tgt := 29) dX11_emptied_16 (by decide) (fun h16 => ?_) (fun h16 => ?_)) | ((with_reducible refine mk_n ?_); refine n_if_eq (tgt := 29) dX11_emptied_16 (by decide) (by omega) (fun h16 => ?_) (fun h16 => ?_)) | refine e_if_eq (tgt := 29) dX11_emptied_16 (by decide) (fun h16 => ?_) (fun h16 => ?_)
            · try first | contradiction | omega | (simp only [decide_eq_true_eq, decide_eq_false_iff_not] at h16; omega)
              all_goals
                refine e_ldc2 dX11_emptied_29 co_X11_326 ?_
                refine e_ret (some _) rfl (r_long dX11_emptied_32 rfl) ?_
                exact ⟨rfl, ⟨_, _, _, (nxH_id fi).symm⟩, rfl, ⟨ai (rf 32 82), by rw [sA_self]⟩, rfl, rfl⟩
            · try first | contradiction | omega | (simp only [decide_eq_true_eq, decide_eq_false_iff_not] at h16; omega)
              all_goals
                refine e_aload_n dX11_emptied_19 rfl rfl ?_
                refine e_iload_n dX11_emptied_20 rfl rfl ?_
                refine e_iconst (v := nI 0) dX11_emptied_21 rfl ?_
                refine x_V2 (M' := mX11_outerBut) dX11_emptied_22 ml_X11_394 ok_X11_outerBut (by decide) rfl im_X11_outerBut se_X11_outerBut (ct_outerBut0 ‹_› ‹_› (by omega)) (Nat.le_of_ble_eq_true rfl) (by decide) (Nat.le_of_ble_eq_true rfl) ?_
                rw [ho2]
                refine e_iconst (v := -1) dX11_emptied_25 rfl ?_
                first | ((with_reducible refine mk_mo ?_); refine p_icmp_ne (tgt := 33) dX11_emptied_26 (by decide) (fun h26 => ?_) (fun h26 => ?_)) | ((with_reducible refine mk_ms ?_); refine s_icmp_ne (tgt := 33) dX11_emptied_26 (by decide) (by omega) (fun h26 => ?_) (fun h26 => ?_)) | ((with_reducible refine mk_mn ?_); refine q_icmp_ne (tgt := 33) dX11_emptied_26 (by decide) (by omega) (fun h26 => ?_) (fun h26 => ?_)) | ((with_reducible refine mk_nn ?_); refine n_icmp_ne (tgt := 33) dX11_emptied_26 (by decide) (by omega) (by omega) (fun h26 => ?_) (fun h26 => ?_)) | refine e_icmp_ne (tgt := 33) dX11_emptied_26 (by decide) (fun h26 => ?_) (fun h26 => ?_)
                · try first | contradiction | omega
                  all_goals
                    contradiction
                · try first | contradiction | omega
                  all_goals
                    refine e_ldc2 dX11_emptied_29 co_X11_326 ?_
                    refine e_ret (some _) rfl (r_long dX11_emptied_32 rfl) ?_
                    exact ⟨rfl, ⟨_, _, _, (nxH_id fi).symm⟩, rfl, ⟨ai (rf 32 82), by rw [sA_self]⟩, rfl, rfl⟩
      | true =>
        have e1 : empR w (nI s) (nI b) = emV b (emF s 32 w).1 (emF s 32 w).2 s (oI (emO w s)) := by unfold empR; rw [if_pos ⟨hx, hy, by rw [hsc]; exact ho⟩, hsc, hbc]
        rw [e1]
        have hv : ∀ k, k < 8597 → (sA ai (rf 32 82) (cpA (ai (rf 32 82)) (fun i => nI (w i)) 0 8597)) (rf 32 82) k = nI (w k) := fun k hk => by rw [sA_s, cpA_in (by omega)]
        have key : ∀ (f : Nat) (v : Nat → Nat) (n : Nat) (F : Int32) (R : Int64), cnt (fun i => decide (v (42 + i) = s)) (v 1) ≤ f → n + f ≤ 32 → Inv v → (∀ q, (q < 10 ∨ 106 ≤ q) → v q = w q) → (n = 0 → F = -1) → (∃ o : Option Nat, F = oI o ∧ ∀ i, o = some i → i < 6) → emV b (n + (emF s f v).1) (emF s f v).2 s (if n = 0 then oI (emO v s) else F) = R → EV mX11_emptied 4 0 0 49 [some (.ref (rf 11 80)), some (.int (nI s)), some (.int (nI b)), some (.int (nI n)), some (.int F), some (.int (oI (hvO v s))), none] [] fi fr (mW (sA ai (rf 32 82) (cpA (ai (rf 32 82)) (fun i => nI (w i)) 0 8597)) v) ar N (tQ fi fr ai ar N w (.long R)) := by
          intro f
          have fin : ∀ (v : Nat → Nat) (n : Nat) (F : Int32) (R : Int64), n ≤ 32 → Inv v → (∀ q, (q < 10 ∨ 106 ≤ q) → v q = w q) → (∃ o : Option Nat, F = oI o ∧ ∀ i, o = some i → i < 6) → hvO v s = none → emV b n v s F = R → EV mX11_emptied 4 0 0 49 [some (.ref (rf 11 80)), some (.int (nI s)), some (.int (nI b)), some (.int (nI n)), some (.int F), some (.int (oI none)), none] [] fi fr (mW (sA ai (rf 32 82) (cpA (ai (rf 32 82)) (fun i => nI (w i)) 0 8597)) v) ar N (tQ fi fr ai ar N w (.long R)) := by
            intro v n F R hn hvI hvq hF hh hR
            obtain ⟨a, l, hH, hL, ha6, hl6, hne, hle⟩ := ob_some (v := v) ho (fun t ht => hvq _ (by omega))
            have la := ldF_le hvI a
            have eG : emG v s = ldF v a - ldF v l := by unfold emG; rw [hH, hL]
            refine e_iload dX11_emptied_49 rfl ?_
            refine e_iconst (v := -1) dX11_emptied_51 rfl ?_
            first | ((with_reducible refine mk_mo ?_); refine p_icmp_eq (tgt := 101) dX11_emptied_52 (by decide) (fun h52 => ?_) (fun h52 => ?_)) | ((with_reducible refine mk_ms ?_); refine s_icmp_eq (tgt := 101) dX11_emptied_52 (by decide) (by omega) (fun h52 => ?_) (fun h52 => ?_)) | ((with_reducible refine mk_mn ?_); refine q_icmp_eq (tgt := 101) dX11_emptied_52 (by decide) (by omega) (fun h52 => ?_) (fun h52 => ?_)) | ((with_reducible refine mk_nn ?_); refine n_icmp_eq (tgt := 101) dX11_emptied_52 (by decide) (by omega) (by omega) (fun h52 => ?_) (fun h52 => ?_)) | refine e_icmp_eq (tgt := 101) dX11_emptied_52 (by decide) (fun h52 => ?_) (fun h52 => ?_)
            · try first | contradiction | omega
              all_goals
                refine e_aload_n dX11_emptied_101 rfl rfl ?_
                refine e_aload_n dX11_emptied_102 rfl rfl ?_
                refine e_iload_n dX11_emptied_103 rfl rfl ?_
                refine e_iconst (v := nI 1) dX11_emptied_104 rfl ?_
                refine x_V2 (M' := mX11_outerBut) dX11_emptied_105 ml_X11_394 ok_X11_outerBut (by decide) rfl im_X11_outerBut se_X11_outerBut (ct_outerBut1 ‹_› hvI (by omega)) (Nat.le_of_ble_eq_true rfl) (by decide) (Nat.le_of_ble_eq_true rfl) ?_
                rw [hH, oI_s]
                refine x_V1 (M' := mX11_loadOf) dX11_emptied_108 ml_X11_337 ok_X11_loadOf (by decide) rfl im_X11_loadOf se_X11_loadOf (ct_X11_loadOf ‹_› hvI (by omega)) (Nat.le_of_ble_eq_true rfl) (by decide) (Nat.le_of_ble_eq_true rfl) ?_
                refine e_aload_n dX11_emptied_111 rfl rfl ?_
                refine e_aload_n dX11_emptied_112 rfl rfl ?_
                refine e_iload_n dX11_emptied_113 rfl rfl ?_
                refine e_iconst (v := nI 0) dX11_emptied_114 rfl ?_
                refine x_V2 (M' := mX11_outerBut) dX11_emptied_115 ml_X11_394 ok_X11_outerBut (by decide) rfl im_X11_outerBut se_X11_outerBut (ct_outerBut0 ‹_› hvI (by omega)) (Nat.le_of_ble_eq_true rfl) (by decide) (Nat.le_of_ble_eq_true rfl) ?_
                rw [hL, oI_s]
                refine x_V1 (M' := mX11_loadOf) dX11_emptied_118 ml_X11_337 ok_X11_loadOf (by decide) rfl im_X11_loadOf se_X11_loadOf (ct_X11_loadOf ‹_› hvI (by omega)) (Nat.le_of_ble_eq_true rfl) (by decide) (Nat.le_of_ble_eq_true rfl) ?_
                first | ((with_reducible refine mk_LL ?_); refine n_lsub dX11_emptied_121 (by omega) ?_) | refine e_lsub dX11_emptied_121 ?_
                refine e_lstore dX11_emptied_122 (Nat.le_of_ble_eq_true rfl) rfl ?_
                refine e_aload_n dX11_emptied_124 rfl rfl ?_
                refine y_V0 (M' := mX11_comesBack) dX11_emptied_125 ml_X11_386 ok_X11_comesBack (by decide) rfl im_X11_comesBack se_X11_comesBack (ct_X11_comesBack ‹_› hv) (Nat.le_of_ble_eq_true rfl) (by decide) (Nat.le_of_ble_eq_true rfl) ?_
                refine e_iload_n dX11_emptied_128 rfl rfl ?_
                first | ((with_reducible refine mk_b ?_); refine b_if_ne (tgt := 137) dX11_emptied_129 (by decide) (fun h129 => ?_) (fun h129 => ?_)) | ((with_reducible refine mk_ll ?_); refine m_if_ne (tgt := 137) dX11_emptied_129 (by decide) (by omega) (by omega) (fun h129 => ?_) (fun h129 => ?_)) | ((with_reducible refine mk_lc ?_); refine l_if_ne (tgt := 137) dX11_emptied_129 (by decide) (fun h129 => ?_) (fun h129 => ?_)) | ((with_reducible refine mk_n ?_); refine n_if_ne (tgt := 137) dX11_emptied_129 (by decide) (by omega) (fun h129 => ?_) (fun h129 => ?_)) | refine e_if_ne (tgt := 137) dX11_emptied_129 (by decide) (fun h129 => ?_) (fun h129 => ?_)
                · try first | contradiction | omega | (simp only [decide_eq_true_eq, decide_eq_false_iff_not] at h129; omega)
                  all_goals
                    refine e_iload_n dX11_emptied_137 rfl rfl ?_
                    refine e_iconst (v := nI 1) dX11_emptied_138 rfl ?_
                    first | ((with_reducible refine mk_mo ?_); refine p_icmp_ne (tgt := 147) dX11_emptied_139 (by decide) (fun h139 => ?_) (fun h139 => ?_)) | ((with_reducible refine mk_ms ?_); refine s_icmp_ne (tgt := 147) dX11_emptied_139 (by decide) (by omega) (fun h139 => ?_) (fun h139 => ?_)) | ((with_reducible refine mk_mn ?_); refine q_icmp_ne (tgt := 147) dX11_emptied_139 (by decide) (by omega) (fun h139 => ?_) (fun h139 => ?_)) | ((with_reducible refine mk_nn ?_); refine n_icmp_ne (tgt := 147) dX11_emptied_139 (by decide) (by omega) (by omega) (fun h139 => ?_) (fun h139 => ?_)) | refine e_icmp_ne (tgt := 147) dX11_emptied_139 (by decide) (fun h139 => ?_) (fun h139 => ?_)
                    · try first | contradiction | omega
                      all_goals
                        refine e_iload dX11_emptied_147 rfl ?_
                        first | ((with_reducible refine mk_n ?_); refine n_i2l dX11_emptied_149 (by omega) ?_) | refine e_i2l dX11_emptied_149 ?_
                        refine e_ret (some _) rfl (r_long dX11_emptied_150 rfl) ?_
                        refine ⟨?_, ⟨_, _, _, (nxH_id fi).symm⟩, rfl, ⟨_, by rw [ov_w (fun q hq => hvq q (by omega))]⟩, rfl, rfl⟩
                        rw [← hR]
                        unfold emV
                        first | rw [if_pos (by omega)] | rw [if_neg (by omega), if_pos (by omega), eG] | rw [if_neg (by omega), if_neg (by omega)]
                    · try first | contradiction | omega
                      all_goals
                        refine e_lload dX11_emptied_142 rfl ?_
                        refine e_goto (tgt := 150) dX11_emptied_144 (by decide) ?_
                        refine e_ret (some _) rfl (r_long dX11_emptied_150 rfl) ?_
                        refine ⟨?_, ⟨_, _, _, (nxH_id fi).symm⟩, rfl, ⟨_, by rw [ov_w (fun q hq => hvq q (by omega))]⟩, rfl, rfl⟩
                        rw [← hR]
                        unfold emV
                        first | rw [if_pos (by omega)] | rw [if_neg (by omega), if_pos (by omega), eG] | rw [if_neg (by omega), if_neg (by omega)]
                · try first | contradiction | omega | (simp only [decide_eq_true_eq, decide_eq_false_iff_not] at h129; omega)
                  all_goals
                    refine e_iload_n dX11_emptied_132 rfl rfl ?_
                    first | ((with_reducible refine mk_n ?_); refine n_i2l dX11_emptied_133 (by omega) ?_) | refine e_i2l dX11_emptied_133 ?_
                    refine e_goto (tgt := 150) dX11_emptied_134 (by decide) ?_
                    refine e_ret (some _) rfl (r_long dX11_emptied_150 rfl) ?_
                    refine ⟨?_, ⟨_, _, _, (nxH_id fi).symm⟩, rfl, ⟨_, by rw [ov_w (fun q hq => hvq q (by omega))]⟩, rfl, rfl⟩
                    rw [← hR]
                    unfold emV
                    first | rw [if_pos (by omega)] | rw [if_neg (by omega), if_pos (by omega), eG] | rw [if_neg (by omega), if_neg (by omega)]
            · try first | contradiction | omega
              all_goals
                contradiction
          induction f with
          | zero =>
            intro v n F R hc hn hvI hvq hF0 hFo hR
            have hno : hvO v s = none := by
              cases hh : hvO v s with
              | none => rfl
              | some i =>
                have := bst_in hh
                have h2 := this.2
                simp only [Bool.and_eq_true, decide_eq_true_eq] at h2
                have : 0 < cnt (fun i => decide (v (42 + i) = s)) (v 1) := by
                  have := cnt_up (p := fun i => decide (v (42 + i) = s)) (q := fun j => decide (j ≠ i) && decide (v (42 + j) = s)) (i := i) (v 1) this.1 (decide_eq_true h2.1) (by simp) (fun j hj => by simp [hj])
                  omega
                omega
            have eo : emO v s = none := by unfold emO; rw [hno]; rfl
            rw [hno]
            refine fin v n F R (by omega) hvI hvq hFo hno ?_
            rw [← hR, emF_0 hno]
            show _ = emV b (n + 0) v s _
            rw [Nat.add_zero]
            congr 1
            split
            · rename_i z; rw [eo, hF0 z]; rfl
            · rfl
          | succ f ih =>
            intro v n F R hc hn hvI hvq hF0 hFo hR
            cases hno : hvO v s with
            | none =>
              have eo : emO v s = none := by unfold emO; rw [hno]; rfl
              refine fin v n F R (by omega) hvI hvq hFo hno ?_
              rw [← hR, emF_0 hno]
              show _ = emV b (n + 0) v s _
              rw [Nat.add_zero]
              congr 1
              split
              · rename_i z; rw [eo, hF0 z]; rfl
              · rfl
            | some i =>
              obtain ⟨a, t, hH, hL, ha6, ht6, hne, hle⟩ := ob_some (v := v) ho (fun t ht => hvq _ (by omega))
              rw [oI_s i]
              have hin := bst_in hno
              have hvn := iv_n hvI
              have h2 := hin.2
              simp only [Bool.and_eq_true, decide_eq_true_eq] at h2
              have iv2 := own_Inv hvI hin.1 ht6
              have eo : emO v s = some t := by unfold emO; rw [hno, hL]; rfl
              have hcc := cnt_up (p := fun j => decide (v (42 + j) = s)) (q := fun j => decide (upN v (42 + i) t (42 + j) = s)) (i := i) (v 1) hin.1 (decide_eq_true h2.1) (by show decide (upN v (42 + i) t (42 + i) = s) = false; rw [upN_s]; exact decide_eq_false hne) (fun j hj => by show decide (upN v (42 + i) t (42 + j) = s) = _; rw [upN_n (by omega)])
              have e1' : upN v (42 + i) t 1 = v 1 := upN_n (by omega)
              have ih2 := fun F2 (h : F2 = if n = 0 then nI t else F) => ih (upN v (42 + i) t) (n + 1) F2 R (by rw [e1']; omega) (by omega) iv2 (fun q hq => by rw [upN_n (by omega)]; exact hvq q hq) (fun z => by omega) (by rw [h]; split; (exact ⟨some t, rfl, fun i hi => by cases hi; exact ht6⟩); exact hFo) (by
                rw [← hR, emF_1 hno hL, if_neg (by omega)]
                show emV b (n + 1 + _) _ s _ = emV b (n + (_ + 1)) _ s _
                rw [h, eo, show n + 1 + (emF s f (upN v (42 + i) t)).1 = n + ((emF s f (upN v (42 + i) t)).1 + 1) by omega]; rfl)
              refine e_iload dX11_emptied_49 rfl ?_
              refine e_iconst (v := -1) dX11_emptied_51 rfl ?_
              first | ((with_reducible refine mk_mo ?_); refine p_icmp_eq (tgt := 101) dX11_emptied_52 (by decide) (fun h52 => ?_) (fun h52 => ?_)) | ((with_reducible refine mk_ms ?_); refine s_icmp_eq (tgt := 101) dX11_emptied_52 (by decide) (by omega) (fun h52 => ?_) (fun h52 => ?_)) | ((with_reducible refine mk_mn ?_); refine q_icmp_eq (tgt := 101) dX11_emptied_52 (by decide) (by omega) (fun h52 => ?_) (fun h52 => ?_)) | ((with_reducible refine mk_nn ?_); refine n_icmp_eq (tgt := 101) dX11_emptied_52 (by decide) (by omega) (by omega) (fun h52 => ?_) (fun h52 => ?_)) | refine e_icmp_eq (tgt := 101) dX11_emptied_52 (by decide) (fun h52 => ?_) (fun h52 => ?_)
              · try first | contradiction | omega
                all_goals
                  contradiction
              · try first | contradiction | omega
                all_goals
                  refine e_aload_n dX11_emptied_55 rfl rfl ?_
                  refine e_iload_n dX11_emptied_56 rfl rfl ?_
                  refine e_iconst (v := nI 0) dX11_emptied_57 rfl ?_
                  refine x_V2 (M' := mX11_outerBut) dX11_emptied_58 ml_X11_394 ok_X11_outerBut (by decide) rfl im_X11_outerBut se_X11_outerBut (ct_outerBut0 ‹_› hvI (by omega)) (Nat.le_of_ble_eq_true rfl) (by decide) (Nat.le_of_ble_eq_true rfl) ?_
                  rw [hL, oI_s t]
                  refine e_istore dX11_emptied_61 (Nat.le_of_ble_eq_true rfl) rfl ?_
                  refine e_aload_n dX11_emptied_63 rfl rfl ?_
                  refine e_getR dX11_emptied_64 fl_X11_7 rfl (by assumption) ?_
                  refine e_bipush (v := nI 42) dX11_emptied_67 rfl ?_
                  refine e_iload dX11_emptied_69 rfl ?_
                  first | ((with_reducible refine mk_nn ?_); refine n_iadd dX11_emptied_71 ?_) | refine e_iadd dX11_emptied_71 ?_
                  refine e_iload dX11_emptied_72 rfl ?_
                  first | ((with_reducible refine mk_stw ?_); refine e_stw dX11_emptied_74 (by omega) ?_) | refine e_iast _ dX11_emptied_74 ⟨by decide, by decide⟩ rfl rfl (by simp only [lenK]; omega) ?_
                  refine e_iload_n dX11_emptied_75 rfl rfl ?_
                  first | ((with_reducible refine mk_b ?_); refine b_if_ne (tgt := 84) dX11_emptied_76 (by decide) (fun h76 => ?_) (fun h76 => ?_)) | ((with_reducible refine mk_ll ?_); refine m_if_ne (tgt := 84) dX11_emptied_76 (by decide) (by omega) (by omega) (fun h76 => ?_) (fun h76 => ?_)) | ((with_reducible refine mk_lc ?_); refine l_if_ne (tgt := 84) dX11_emptied_76 (by decide) (fun h76 => ?_) (fun h76 => ?_)) | ((with_reducible refine mk_n ?_); refine n_if_ne (tgt := 84) dX11_emptied_76 (by decide) (by omega) (fun h76 => ?_) (fun h76 => ?_)) | refine e_if_ne (tgt := 84) dX11_emptied_76 (by decide) (fun h76 => ?_) (fun h76 => ?_)
                  · try first | contradiction | omega | (simp only [decide_eq_true_eq, decide_eq_false_iff_not] at h76; omega)
                    all_goals
                      refine e_iload dX11_emptied_84 rfl ?_
                      refine e_istore dX11_emptied_86 (Nat.le_of_ble_eq_true rfl) rfl ?_
                      first | refine n_inc dX11_emptied_88 rfl (Nat.le_of_ble_eq_true rfl) rfl ?_ | refine e_iinc dX11_emptied_88 rfl rfl (Nat.le_of_ble_eq_true rfl) rfl ?_
                      refine e_aload_n dX11_emptied_91 rfl rfl ?_
                      refine e_iload_n dX11_emptied_92 rfl rfl ?_
                      refine x_V1 (M' := mX11_heaviestOf) dX11_emptied_93 ml_X11_398 ok_X11_heaviestOf (by decide) rfl im_X11_heaviestOf se_X11_heaviestOf (ct_X11_heaviestOf ‹_› iv2 (Nat.lt_trans hs (by decide))) (Nat.le_of_ble_eq_true rfl) (by decide) (Nat.le_of_ble_eq_true rfl) ?_
                      refine e_istore dX11_emptied_96 (Nat.le_of_ble_eq_true rfl) rfl ?_
                      refine e_goto (tgt := 49) dX11_emptied_98 (by decide) ?_
                      first | (subst h76; exact EV_ls (by repeat (first | exact lsub_0 | refine lsub_n ?_ | refine lsub_s ?_)) (ih2 _ rfl)) | exact EV_ls (by repeat (first | exact lsub_0 | refine lsub_n ?_ | refine lsub_s ?_)) (ih2 _ (by rw [if_neg (by omega)]))
                  · try first | contradiction | omega | (simp only [decide_eq_true_eq, decide_eq_false_iff_not] at h76; omega)
                    all_goals
                      refine e_iload dX11_emptied_79 rfl ?_
                      refine e_goto (tgt := 86) dX11_emptied_81 (by decide) ?_
                      refine e_istore dX11_emptied_86 (Nat.le_of_ble_eq_true rfl) rfl ?_
                      first | refine n_inc dX11_emptied_88 rfl (Nat.le_of_ble_eq_true rfl) rfl ?_ | refine e_iinc dX11_emptied_88 rfl rfl (Nat.le_of_ble_eq_true rfl) rfl ?_
                      refine e_aload_n dX11_emptied_91 rfl rfl ?_
                      refine e_iload_n dX11_emptied_92 rfl rfl ?_
                      refine x_V1 (M' := mX11_heaviestOf) dX11_emptied_93 ml_X11_398 ok_X11_heaviestOf (by decide) rfl im_X11_heaviestOf se_X11_heaviestOf (ct_X11_heaviestOf ‹_› iv2 (Nat.lt_trans hs (by decide))) (Nat.le_of_ble_eq_true rfl) (by decide) (Nat.le_of_ble_eq_true rfl) ?_
                      refine e_istore dX11_emptied_96 (Nat.le_of_ble_eq_true rfl) rfl ?_
                      refine e_goto (tgt := 49) dX11_emptied_98 (by decide) ?_
                      first | (subst h76; exact EV_ls (by repeat (first | exact lsub_0 | refine lsub_n ?_ | refine lsub_s ?_)) (ih2 _ rfl)) | exact EV_ls (by repeat (first | exact lsub_0 | refine lsub_n ?_ | refine lsub_s ?_)) (ih2 _ (by rw [if_neg (by omega)]))
        have kk := key 32 w 0 (-1) (emV b (emF s 32 w).1 (emF s 32 w).2 s (oI (emO w s))) (Nat.le_trans (cnt_le _ _) h1.2) (by omega) iv (fun _ _ => rfl) (fun _ => rfl) ⟨none, rfl, fun i hi => by cases hi⟩ (by rw [Nat.zero_add, if_pos rfl])
        refine e_iload_n dX11_emptied_0 rfl rfl ?_
        refine x_S1 (M' := mX11_isServer) dX11_emptied_1 ml_X11_161 ok_X11_isServer rfl sc_X11_isServer (ct_X11_isServer _) (Nat.le_of_ble_eq_true rfl) (by decide) (Nat.le_of_ble_eq_true rfl) ?_
        rw [hx]
        first | ((with_reducible refine mk_b ?_); refine b_if_eq (tgt := 29) dX11_emptied_4 (by decide) (fun h4 => ?_) (fun h4 => ?_)) | ((with_reducible refine mk_ll ?_); refine m_if_eq (tgt := 29) dX11_emptied_4 (by decide) (by omega) (by omega) (fun h4 => ?_) (fun h4 => ?_)) | ((with_reducible refine mk_lc ?_); refine l_if_eq (tgt := 29) dX11_emptied_4 (by decide) (fun h4 => ?_) (fun h4 => ?_)) | ((with_reducible refine mk_n ?_); refine n_if_eq (tgt := 29) dX11_emptied_4 (by decide) (by omega) (fun h4 => ?_) (fun h4 => ?_)) | refine e_if_eq (tgt := 29) dX11_emptied_4 (by decide) (fun h4 => ?_) (fun h4 => ?_)
        · try first | contradiction | omega | (simp only [decide_eq_true_eq, decide_eq_false_iff_not] at h4; omega)
          all_goals
            contradiction
        · try first | contradiction | omega | (simp only [decide_eq_true_eq, decide_eq_false_iff_not] at h4; omega)
          all_goals
            refine e_iload_n dX11_emptied_7 rfl rfl ?_
            first | ((with_reducible refine mk_n ?_); refine n_i2l dX11_emptied_8 (by omega) ?_) | refine e_i2l dX11_emptied_8 ?_
            refine e_lconst (v := lN 0) dX11_emptied_9 rfl ?_
            refine e_ldc2 dX11_emptied_10 co_X11_77 ?_
            refine x_S3 (M' := mX11_isIn) dX11_emptied_13 ml_X11_45 ok_X11_isIn rfl sc_X11_isIn (by first | ((with_reducible refine ct_isInN ?_ ?_ ?_) <;> omega) | ((with_reducible refine ct_isInX ?_ ?_) <;> omega) | exact ct_X11_isIn _ _ _) (Nat.le_of_ble_eq_true rfl) (by decide) (Nat.le_of_ble_eq_true rfl) ?_
            first | ((with_reducible refine mk_b ?_); refine b_if_eq (tgt := 29) dX11_emptied_16 (by decide) (fun h16 => ?_) (fun h16 => ?_)) | ((with_reducible refine mk_ll ?_); refine m_if_eq (tgt := 29) dX11_emptied_16 (by decide) (by omega) (by omega) (fun h16 => ?_) (fun h16 => ?_)) | ((with_reducible refine mk_lc ?_); refine l_if_eq (tgt := 29) dX11_emptied_16 (by decide) (fun h16 => ?_) (fun h16 => ?_)) | ((with_reducible refine mk_n ?_); refine n_if_eq (tgt := 29) dX11_emptied_16 (by decide) (by omega) (fun h16 => ?_) (fun h16 => ?_)) | refine e_if_eq (tgt := 29) dX11_emptied_16 (by decide) (fun h16 => ?_) (fun h16 => ?_)
            · try first | contradiction | omega | (simp only [decide_eq_true_eq, decide_eq_false_iff_not] at h16; omega)
              all_goals
                contradiction
            · try first | contradiction | omega | (simp only [decide_eq_true_eq, decide_eq_false_iff_not] at h16; omega)
              all_goals
                refine e_aload_n dX11_emptied_19 rfl rfl ?_
                refine e_iload_n dX11_emptied_20 rfl rfl ?_
                refine e_iconst (v := nI 0) dX11_emptied_21 rfl ?_
                refine x_V2 (M' := mX11_outerBut) dX11_emptied_22 ml_X11_394 ok_X11_outerBut (by decide) rfl im_X11_outerBut se_X11_outerBut (ct_outerBut0 ‹_› ‹_› (by omega)) (Nat.le_of_ble_eq_true rfl) (by decide) (Nat.le_of_ble_eq_true rfl) ?_
                obtain ⟨t0, ht0⟩ := Option.isSome_iff_exists.mp ho; have ht06 := (bst_in ht0).1; rw [ht0, oI_s]
                refine e_iconst (v := -1) dX11_emptied_25 rfl ?_
                first | ((with_reducible refine mk_mo ?_); refine p_icmp_ne (tgt := 33) dX11_emptied_26 (by decide) (fun h26 => ?_) (fun h26 => ?_)) | ((with_reducible refine mk_ms ?_); refine s_icmp_ne (tgt := 33) dX11_emptied_26 (by decide) (by omega) (fun h26 => ?_) (fun h26 => ?_)) | ((with_reducible refine mk_mn ?_); refine q_icmp_ne (tgt := 33) dX11_emptied_26 (by decide) (by omega) (fun h26 => ?_) (fun h26 => ?_)) | ((with_reducible refine mk_nn ?_); refine n_icmp_ne (tgt := 33) dX11_emptied_26 (by decide) (by omega) (by omega) (fun h26 => ?_) (fun h26 => ?_)) | refine e_icmp_ne (tgt := 33) dX11_emptied_26 (by decide) (fun h26 => ?_) (fun h26 => ?_)
                · try first | contradiction | omega
                  all_goals
                    refine e_aload_n dX11_emptied_33 rfl rfl ?_
                    refine y_V0 (M' := mX11_laysAside) dX11_emptied_34 ml_X11_311 ok_X11_laysAside (by decide) rfl im_X11_laysAside se_X11_laysAside (ct_X11_laysAside ‹_›) (Nat.le_of_ble_eq_true rfl) (by decide) (Nat.le_of_ble_eq_true rfl) ?_
                    refine e_iconst (v := nI 0) dX11_emptied_37 rfl ?_
                    refine e_istore_n dX11_emptied_38 rfl (Nat.le_of_ble_eq_true rfl) rfl ?_
                    refine e_iconst (v := -1) dX11_emptied_39 rfl ?_
                    refine e_istore dX11_emptied_40 (Nat.le_of_ble_eq_true rfl) rfl ?_
                    refine e_aload_n dX11_emptied_42 rfl rfl ?_
                    refine e_iload_n dX11_emptied_43 rfl rfl ?_
                    refine x_V1 (M' := mX11_heaviestOf) dX11_emptied_44 ml_X11_398 ok_X11_heaviestOf (by decide) rfl im_X11_heaviestOf se_X11_heaviestOf (ct_X11_heaviestOf ‹_› iv (by omega)) (Nat.le_of_ble_eq_true rfl) (by decide) (Nat.le_of_ble_eq_true rfl) ?_
                    refine e_istore dX11_emptied_47 (Nat.le_of_ble_eq_true rfl) rfl ?_
                    exact kk
                · try first | contradiction | omega
                  all_goals
                    contradiction
