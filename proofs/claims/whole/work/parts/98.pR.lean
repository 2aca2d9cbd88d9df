theorem vbO_4 {tp : Nat → Nat} {e a v : Nat} (h : vbO tp e a = some v) (hv : evN v = 1) : a + 4 ≤ e := by
  have hq : ∀ n a1 b c d x f g, 4 ≤ n → spB tp e a n a1 b c d x f g = true → a + 4 ≤ e := fun n a1 b c d x f g hn h => by
    unfold spB at h
    simp only [Bool.and_eq_true, decide_eq_true_eq] at h
    omega
  unfold vbO at h
  by_cases h0 : spB tp e a 5 102 101 116 99 104 0 0 = true
  · exact hq _ _ _ _ _ _ _ _ (by decide) h0
  rw [if_neg h0] at h
  by_cases h1 : spB tp e a 4 114 101 97 100 0 0 0 = true
  · exact hq _ _ _ _ _ _ _ _ (by decide) h1
  rw [if_neg h1] at h
  by_cases h2 : spB tp e a 5 119 114 105 116 101 0 0 = true
  · exact hq _ _ _ _ _ _ _ _ (by decide) h2
  rw [if_neg h2] at h
  by_cases h3 : spB tp e a 5 115 112 108 105 116 0 0 = true
  · exact hq _ _ _ _ _ _ _ _ (by decide) h3
  rw [if_neg h3] at h
  by_cases h4 : spB tp e a 6 109 105 100 100 108 101 0 = true
  · exact hq _ _ _ _ _ _ _ _ (by decide) h4
  rw [if_neg h4] at h
  by_cases h5 : spB tp e a 4 106 111 105 110 0 0 0 = true
  · exact hq _ _ _ _ _ _ _ _ (by decide) h5
  rw [if_neg h5] at h
  by_cases h6 : spB tp e a 4 109 111 118 101 0 0 0 = true
  · exact hq _ _ _ _ _ _ _ _ (by decide) h6
  rw [if_neg h6] at h
  by_cases h7 : spB tp e a 4 115 116 101 112 0 0 0 = true
  · exact hq _ _ _ _ _ _ _ _ (by decide) h7
  rw [if_neg h7] at h
  by_cases h8 : spB tp e a 4 102 97 105 108 0 0 0 = true
  · exact hq _ _ _ _ _ _ _ _ (by decide) h8
  rw [if_neg h8] at h
  by_cases h9 : spB tp e a 4 100 111 119 110 0 0 0 = true
  · exact hq _ _ _ _ _ _ _ _ (by decide) h9
  rw [if_neg h9] at h
  by_cases h10 : spB tp e a 2 117 112 0 0 0 0 0 = true
  · rw [if_pos h10] at h
    obtain rfl := Option.some.inj h
    exact absurd hv (by decide)
  rw [if_neg h10] at h
  by_cases h11 : spB tp e a 7 114 101 99 111 118 101 114 = true
  · exact hq _ _ _ _ _ _ _ _ (by decide) h11
  rw [if_neg h11] at h
  by_cases h12 : spB tp e a 4 103 105 118 101 0 0 0 = true
  · exact hq _ _ _ _ _ _ _ _ (by decide) h12
  rw [if_neg h12] at h
  by_cases h13 : spB tp e a 3 97 103 101 0 0 0 0 = true
  · rw [if_pos h13] at h
    obtain rfl := Option.some.inj h
    exact absurd hv (by decide)
  rw [if_neg h13] at h
  by_cases h14 : spB tp e a 5 99 104 117 110 107 0 0 = true
  · exact hq _ _ _ _ _ _ _ _ (by decide) h14
  rw [if_neg h14] at h
  cases h
/-- the class's clause i is the reference's -/
def CRL (ai : FI) (row : Nat → Int32) (i : Nat) : Prop := ∃ v, v < 15 ∧ ai (rf 31 79) i = nI v ∧ row (4 * i) = nI v ∧ ∀ j, j < nuN v → ai (rf 30 78) (i * 3 + j) = row (4 * i + 1 + j)
def evA (ai : FI) : Nat → Nat
  | 0 => 0
  | c + 1 => evA ai c + evN (ai (rf 31 79) c).toNatClampNeg
theorem evA_e {ai ai' : FI} : ∀ c, (∀ i, i < c → ai' (rf 31 79) i = ai (rf 31 79) i) → evA ai' c = evA ai c
  | 0, _ => rfl
  | c + 1, h => by
    show evA ai' c + _ = evA ai c + _
    rw [evA_e c (fun i hi => h i (by omega)), h c (by omega)]
theorem pnA_30 {tp : Nat → Nat} {t : Nat} {s : QS} {i j : Nat} {ai : FI} (h : j ≠ s.2.1 * 3 + i) : pnA tp t s i ai (rf 30 78) j = ai (rf 30 78) j := by
  unfold pnA
  split
  · rfl
  · exact up2_n _ _ (fun e => h e.2)
theorem nrA_30 {tp : Nat → Nat} {t : Nat} {s : QS} (hs : s.1 ≤ t) {j : Nat} {ai : FI} (h : j < s.2.1 * 3) : ∀ k, nrA tp t k s ai (rf 30 78) j = ai (rf 30 78) j
  | 0 => rfl
  | k + 1 => by
    unfold nrA
    split
    · rw [pnA_30 (by rw [(nrS_le (tp := tp) hs k).2.2]; omega), nrA_30 hs h k]
    · exact nrA_30 hs h k
/-- the numbers of a clause -/
def NR (p : QS) (q : PS) (b c k : Nat) (ai : FI) (row : Nat → Int32) (A : FI) (a0 : Nat) : Prop :=
  (∀ i, i < b + 1 → q.2.2.2.2.2 i = row i) ∧ q.2.2.2.2.1 = c ∧
  ((p.2.2.1 = nI 0 ∧ q.2.1 = false ∧ p.1 = q.1 ∧ p.2.2.2 = -1 ∧ q.2.2.1 = nI 0 ∧ q.2.2.2.1 = -1 ∧ (∀ j, j < k → A (rf 30 78) (c * 3 + j) = q.2.2.2.2.2 (b + 1 + j)) ∧ a0 + k ≤ p.1) ∨ (¬ p.2.2.1 = nI 0 ∧ q.2.1 = true ∧ q.2.2.1 = p.2.2.1 ∧ q.2.2.2.1 = p.2.2.2))
theorem nr_rel {tp : Nat → Nat} {t c : Nat} {s1 : QS} {q1 : PS} {ai : FI} (hs : s1.1 ≤ t) (h1 : s1.1 = q1.1) (hc : s1.2.1 = c) (hf : s1.2.2.1 = nI 0) (hp : s1.2.2.2 = -1) (hw : q1.2.1 = false) (hk : q1.2.2.1 = nI 0) (hl : q1.2.2.2.1 = -1) (hq : q1.2.2.2.2.1 = c) : ∀ k, NR (nrS tp t k s1) (nmS tp t (4 * c) k q1) (4 * c) c k ai q1.2.2.2.2.2 (nrA tp t k s1 ai) s1.1
  | 0 => ⟨fun i _ => rfl, hq, Or.inl ⟨hf, hw, h1, hp, hk, hl, fun j hj => absurd hj (by omega), Nat.le_refl _⟩⟩
  | k + 1 => by
    obtain ⟨r1, r0, r2⟩ := nr_rel (ai := ai) hs h1 hc hf hp hw hk hl hq k
    have hle := nrS_le (tp := tp) hs k
    have eS : nrS tp t (k + 1) s1 = if (nrS tp t k s1).2.2.1 = nI 0 then pnS tp t (nrS tp t k s1) else nrS tp t k s1 := rfl
    have eA : nrA tp t (k + 1) s1 ai = if (nrS tp t k s1).2.2.1 = nI 0 then pnA tp t (nrS tp t k s1) k (nrA tp t k s1 ai) else nrA tp t k s1 ai := rfl
    have eM : nmS tp t (4 * c) (k + 1) q1 = clS (nuS tp t (nmS tp t (4 * c) k q1)).2 (4 * c + 1 + k) (nI (nuS tp t (nmS tp t (4 * c) k q1)).1) := rfl
    rw [eS, eA, eM]
    generalize nmS tp t (4 * c) k q1 = q at r1 r0 r2 ⊢
    generalize nrA tp t k s1 ai = A at r2 ⊢
    generalize hgp : nrS tp t k s1 = p at r2 hle ⊢
    have hpc : p.2.1 = c := hle.2.2.trans hc
    rcases r2 with ⟨a1, a2, a3, a4, a5, a6, a7, a8⟩ | ⟨a1, a2, a3, a4⟩
    · rw [if_pos a1, if_pos a1]
      have eN : nuS tp t q = ((dgF tp (t - skb tp t q.1) (skb tp t q.1) 0).2, if (dgF tp (t - skb tp t q.1) (skb tp t q.1) 0).1 = skb tp t q.1 then wrS ((dgF tp (t - skb tp t q.1) (skb tp t q.1) 0).1, q.2) (nI 1) (nI (skb tp t q.1)) else if 99999 < (dgF tp (t - skb tp t q.1) (skb tp t q.1) 0).2 then wrS ((dgF tp (t - skb tp t q.1) (skb tp t q.1) 0).1, q.2) (nI 2) (nI (skb tp t q.1)) else ((dgF tp (t - skb tp t q.1) (skb tp t q.1) 0).1, q.2)) := by
        unfold nuS
        rw [a2]
        rfl
      have hd := dc_dg tp (t - skb tp t q.1) (skb tp t q.1) 0 0 (Or.inl ⟨rfl, by decide⟩)
      have hR : pnR tp t p = dcF tp (t - skb tp t q.1) (skb tp t q.1) 0 := by unfold pnR; rw [a3]
      have hlR := pnR_le (tp := tp) hle.2.1
      have hS : pnS tp t p = if (pnR tp t p).1 = skb tp t p.1 then ((pnR tp t p).1, p.2.1, nI 1, nI (skb tp t p.1)) else if 99999 < (pnR tp t p).2 then ((pnR tp t p).1, p.2.1, nI 2, nI (skb tp t p.1)) else ((pnR tp t p).1, p.2) := rfl
      have hA : pnA tp t p k A = if (pnR tp t p).1 = skb tp t p.1 ∨ 99999 < (pnR tp t p).2 then A else up2 A (rf 30 78) (p.2.1 * 3 + k) (nI (pnR tp t p).2) := rfl
      rw [a3] at hS hA hlR
      rw [hS, hA, eN]
      rw [← hR] at hd
      generalize pnR tp t p = P at hd hlR ⊢
      generalize dgF tp (t - skb tp t q.1) (skb tp t q.1) 0 = G at hd ⊢
      generalize skb tp t q.1 = b at hd hlR ⊢
      have hw0 : ∀ (x : Nat) (kk pp : Int32), wrS (x, q.2) kk pp = (x, true, kk, pp, q.2.2.2.2) := fun x kk pp => by
        unfold wrS
        rw [if_neg (show ¬ ((x, q.2) : PS).2.1 = true by rw [show ((x, q.2) : PS).2.1 = q.2.1 from rfl, a2]; exact Bool.noConfusion)]
      by_cases g1 : P.1 = b
      · rw [if_pos g1, if_pos (Or.inl g1), if_pos (by rw [← hd.1]; exact g1), hw0]
        exact ⟨fun i hi => (show upd q.2.2.2.2.2 _ _ i = _ from if_neg (by omega)).trans (r1 i hi), r0, Or.inr ⟨(by decide : ¬ nI 1 = nI 0), rfl, rfl, rfl⟩⟩
      · rw [if_neg g1, if_neg (show ¬ G.1 = b by rw [← hd.1]; exact g1)]
        rcases hd.2 with ⟨d1, d2⟩ | ⟨d1, d2⟩
        · rw [if_neg (show ¬ 99999 < P.2 by omega), if_neg (show ¬ (P.1 = b ∨ 99999 < P.2) by omega), if_neg (show ¬ 99999 < G.2 by omega)]
          refine ⟨fun i hi => (show upd q.2.2.2.2.2 _ _ i = _ from if_neg (by omega)).trans (r1 i hi), r0, Or.inl ⟨a1, a2, hd.1, a4, a5, a6, fun j hj => ?_, by show s1.1 + (k + 1) ≤ P.1; omega⟩⟩
          show up2 A (rf 30 78) (p.2.1 * 3 + k) (nI P.2) (rf 30 78) (c * 3 + j) = upd q.2.2.2.2.2 (4 * c + 1 + k) (nI G.2) (4 * c + 1 + j)
          by_cases hjk : j = k
          · subst hjk
            rw [hpc, up2_s, d1]
            exact (if_pos rfl).symm
          · rw [hpc, up2_n _ _ (fun e => hjk (by have := e.2; omega)), show upd q.2.2.2.2.2 (4 * c + 1 + k) (nI G.2) (4 * c + 1 + j) = q.2.2.2.2.2 (4 * c + 1 + j) from if_neg (by omega)]
            exact a7 j (by omega)
        · rw [if_pos d1, if_pos (Or.inr d1), if_pos d2, hw0]
          exact ⟨fun i hi => (show upd q.2.2.2.2.2 _ _ i = _ from if_neg (by omega)).trans (r1 i hi), r0, Or.inr ⟨(by decide : ¬ nI 2 = nI 0), rfl, rfl, rfl⟩⟩
    · rw [if_neg a1, if_neg a1]
      have eN : nuS tp t q = (0, q) := by
        unfold nuS
        rw [a2]
        rfl
      rw [eN]
      exact ⟨fun i hi => (show upd q.2.2.2.2.2 _ _ i = _ from if_neg (by omega)).trans (r1 i hi), r0, Or.inr ⟨a1, a2, a3, a4⟩⟩
/-- the two readings, so far without a fault -/
def RP (s : QS) (A : FI) (p : PS) : Prop := s.1 = p.1 ∧ s.2.1 = p.2.2.2.2.1 ∧ s.2.1 ≤ 40 ∧ s.2.2.1 = nI 0 ∧ s.2.2.2 = -1 ∧ p.2.1 = false ∧ p.2.2.1 = nI 0 ∧ p.2.2.2.1 = -1 ∧ (∀ i, i < s.2.1 → CRL A p.2.2.2.2.2 i) ∧ 6 * evA A s.2.1 ≤ s.1
def RF (s : QS) (p : PS) : Prop := ¬ s.2.2.1 = nI 0 ∧ p.2.1 = true ∧ p.2.2.1 = s.2.2.1 ∧ p.2.2.2.1 = s.2.2.2
theorem wrS_f {s : PS} {k p : Int32} (h : s.2.1 = false) : wrS s k p = (s.1, true, k, p, s.2.2.2.2) := by
  unfold wrS
  rw [if_neg (by rw [h]; exact Bool.noConfusion)]
theorem wrS_t {s : PS} {k p : Int32} (h : s.2.1 = true) : wrS s k p = s := if_pos h
theorem rp_step {tp : Nat → Nat} {t : Nat} {s : QS} {A : FI} {p : PS} (h : RP s A p) (hs : s.1 ≤ t) : (RP (pcS tp t s) (pcA tp t s A) (rdS tp t p) ∧ (pcS tp t s).2.1 = s.2.1 + 1) ∨ RF (pcS tp t s) (rdS tp t p) := by
  obtain ⟨a1, a2, a3, a4, a5, a6, a7, a8, a9, a10⟩ := h
  have hw := wnd_le tp hs
  unfold pcS pcA rdS
  rw [← a1]
  cases hv : vbO tp (wnd tp t s.1) s.1 with
  | none =>
    right
    show RF (wnd tp t s.1, s.2.1, nI 1, nI s.1) (wrS p (nI 1) (nI s.1))
    rw [wrS_f a6]
    exact ⟨(by decide : ¬ nI 1 = nI 0), rfl, rfl, rfl⟩
  | some v =>
    have hv15 := (vbO_lt hv).1
    have hv2 := (vbO_lt hv).2
    show (RP (if 40 ≤ s.2.1 then _ else _) (if 40 ≤ s.2.1 then _ else _) (if p.2.2.2.2.1 = 40 then wrS p (nI 3) (nI s.1) else _) ∧ (if 40 ≤ s.2.1 then _ else _ : QS).2.1 = s.2.1 + 1) ∨ RF (if 40 ≤ s.2.1 then _ else _) (if p.2.2.2.2.1 = 40 then wrS p (nI 3) (nI s.1) else _)
    by_cases h40 : 40 ≤ s.2.1
    · right
      rw [if_pos h40, if_pos (show p.2.2.2.2.1 = 40 by omega), wrS_f a6]
      exact ⟨(by decide : ¬ nI 3 = nI 0), rfl, rfl, rfl⟩
    · rw [if_neg h40, if_neg h40, if_neg (show ¬ p.2.2.2.2.1 = 40 by omega)]
      have nr := nr_rel (tp := tp) (t := t) (c := s.2.1) (s1 := (wnd tp t s.1, s.2)) (q1 := clS (wnd tp t s.1, p.2) (4 * s.2.1) (nI v)) (ai := A) hw.2 rfl rfl a4 a5 a6 a7 a8 a2.symm (nuN v)
      have hle := nrS_le (tp := tp) (t := t) (s := (wnd tp t s.1, s.2)) hw.2 (nuN v)
      have h30 : ∀ j, j < s.2.1 * 3 → nrA tp t (nuN v) (wnd tp t s.1, s.2) A (rf 30 78) j = A (rf 30 78) j := fun j hj => nrA_30 (s := (wnd tp t s.1, s.2)) hw.2 hj _
      have h31 : nrA tp t (nuN v) (wnd tp t s.1, s.2) A (rf 31 79) = A (rf 31 79) := nrA_tx (by decide) _
      have e1 : rd1 tp t p v = nmS tp t (4 * s.2.1) (nuN v) (clS (wnd tp t s.1, p.2) (4 * s.2.1) (nI v)) := by unfold rd1; rw [← a2, ← a1]
      rw [e1]
      have hcls : (nrS tp t (nuN v) (wnd tp t s.1, s.2)).2.1 = s.2.1 := hle.2.2
      generalize nmS tp t (4 * s.2.1) (nuN v) (clS (wnd tp t s.1, p.2) (4 * s.2.1) (nI v)) = q at nr ⊢
      generalize nrA tp t (nuN v) (wnd tp t s.1, s.2) A = B at nr h30 h31 ⊢
      generalize nrS tp t (nuN v) (wnd tp t s.1, s.2) = r at nr hcls hle ⊢
      obtain ⟨n1, n0, n2⟩ := nr
      unfold pcE pcF
      rcases n2 with ⟨b1, b2, b3, b4, b5, b6, b7, b8⟩ | ⟨b1, b2, b3, b4⟩
      · rw [if_pos b1, if_pos b1]
        have hsk := skb_le tp hle.2.1
        have b8' : wnd tp t s.1 + nuN v ≤ r.1 := b8
        unfold ceS ceA rd2
        rw [← b3]
        by_cases hx : skb tp t r.1 < t ∧ tp (skb tp t r.1) = 59
        · left
          rw [if_pos hx, if_pos hx, if_pos hx]
          refine ⟨⟨rfl, ?_, ?_, b1, b4, b2, b5, b6, ?_, ?_⟩, ?_⟩
          · show r.2.1 + 1 = q.2.2.2.2.1 + 1
            omega
          · show r.2.1 + 1 ≤ 40
            omega
          · intro i hi
            have hi' : i < r.2.1 + 1 := hi
            show CRL (up2 B (rf 31 79) r.2.1 (nI v)) q.2.2.2.2.2 i
            by_cases hic : i = s.2.1
            · refine ⟨v, hv15, ?_, ?_, fun j hj => ?_⟩
              · rw [hcls, hic, up2_s]
              · rw [hic, n1 (4 * s.2.1) (by omega)]
                exact if_pos rfl
              · rw [up2_n _ _ (fun e => absurd e.1 (by decide)), hic]
                exact b7 j hj
            · obtain ⟨v', c1, c2, c3, c4⟩ := a9 i (by omega)
              have hrow : ∀ j, j < 4 → q.2.2.2.2.2 (4 * i + j) = p.2.2.2.2.2 (4 * i + j) := fun j hj => (n1 _ (by omega)).trans (if_neg (by omega))
              have hnu := nuN_le v'
              refine ⟨v', c1, ?_, (hrow 0 (by omega)).trans c3, fun j hj => ?_⟩
              · rw [up2_n _ _ (fun e => hic (by have := e.2; omega)), h31]; exact c2
              · rw [up2_n _ _ (fun e => absurd e.1 (by decide)), h30 _ (by omega), show 4 * i + 1 + j = 4 * i + (1 + j) by omega, hrow _ (by omega)]
                have := c4 j hj
                rw [show 4 * i + 1 + j = 4 * i + (1 + j) by omega] at this
                exact this
          · show 6 * evA (up2 B (rf 31 79) r.2.1 (nI v)) (r.2.1 + 1) ≤ skb tp t r.1 + 1
            show 6 * (evA (up2 B (rf 31 79) r.2.1 (nI v)) r.2.1 + evN (up2 B (rf 31 79) r.2.1 (nI v) (rf 31 79) r.2.1).toNatClampNeg) ≤ skb tp t r.1 + 1
            rw [evA_e (ai := A) r.2.1 (fun i hi => by rw [up2_n _ _ (fun e => by have := e.2; omega), h31]), up2_s, hcls, nI_clamp (show v < 2 ^ 31 by omega)]
            have h1 := evN_le v
            by_cases hev : evN v = 1
            · have := vbO_4 hv hev
              have hnu : 1 ≤ nuN v := by
                unfold evN at hev
                split at hev
                · rename_i hh
                  rcases hh with rfl | rfl | rfl | rfl <;> decide
                · cases hev
              omega
            · omega
          · show r.2.1 + 1 = s.2.1 + 1
            omega
        · right
          rw [if_neg hx, if_neg hx, wrS_f (s := (skb tp t r.1, q.2.1, q.2.2.1, q.2.2.2.1, q.2.2.2.2.1 + 1, q.2.2.2.2.2)) b2]
          exact ⟨(by decide : ¬ nI 1 = nI 0), rfl, rfl, rfl⟩
      · right
        rw [if_neg b1]
        refine ⟨b1, ?_⟩
        unfold rd2
        split
        · exact ⟨b2, b3, b4⟩
        · rw [wrS_t (s := (skb tp t q.1, q.2.1, q.2.2.1, q.2.2.2.1, q.2.2.2.2.1 + 1, q.2.2.2.2.2)) b2]
          exact ⟨b2, b3, b4⟩
theorem rp_all {tp : Nat → Nat} {t : Nat} : ∀ (k k' : Nat) (s : QS) (A : FI) (p : PS), RP s A p → s.1 ≤ t → k + s.2.1 = 41 → t < s.1 + k' → RP (psL tp t k s) (psA tp t k s A) (rpL tp t k' p) ∨ RF (psL tp t k s) (rpL tp t k' p)
  | 0, k', s, A, p, h, hs, hk, hk' => absurd h.2.2.1 (by omega)
  | k + 1, 0, s, A, p, h, hs, hk, hk' => absurd hk' (by omega)
  | k + 1, k' + 1, s, A, p, h, hs, hk, hk' => by
    have eq1 : s.1 = p.1 := h.1
    by_cases hz : s.1 < t
    · have e1 : psL tp t (k + 1) s = psL tp t k (skb tp t (pcS tp t s).1, (pcS tp t s).2) := if_pos ⟨hz, h.2.2.2.1⟩
      have e2 : psA tp t (k + 1) s A = psA tp t k (skb tp t (pcS tp t s).1, (pcS tp t s).2) (pcA tp t s A) := if_pos ⟨hz, h.2.2.2.1⟩
      have e3 : rpL tp t (k' + 1) p = rpL tp t k' (skb tp t (rdS tp t p).1, (rdS tp t p).2) := if_pos ⟨by omega, h.2.2.2.2.2.1⟩
      rw [e1, e2, e3]
      have hle := pcS_le (tp := tp) hs h.2.2.1
      rcases rp_step (tp := tp) h hs with ⟨g, gc⟩ | g
      · have hsk := skb_le tp hle.1
        have hrd := rdS_le (tp := tp) (s := p) (t := t) (by omega) (by have := h.2.2.1; have := h.2.1; omega)
        have hadv := hrd.2.1 g.2.2.2.2.2.1
        have hq : (pcS tp t s).1 = (rdS tp t p).1 := g.1
        refine rp_all k k' _ _ _ ⟨by show skb tp t (pcS tp t s).1 = skb tp t (rdS tp t p).1; rw [hq], g.2.1, g.2.2.1, g.2.2.2.1, g.2.2.2.2.1, g.2.2.2.2.2.1, g.2.2.2.2.2.2.1, g.2.2.2.2.2.2.2.1, g.2.2.2.2.2.2.2.2.1, by show 6 * evA (pcA tp t s A) (pcS tp t s).2.1 ≤ skb tp t (pcS tp t s).1; have := g.2.2.2.2.2.2.2.2.2; omega⟩ hsk.2 (by show k + (pcS tp t s).2.1 = 41; omega) (by show t < skb tp t (pcS tp t s).1 + k'; omega)
      · right
        have f1 : ∀ k, psL tp t k (skb tp t (pcS tp t s).1, (pcS tp t s).2) = (skb tp t (pcS tp t s).1, (pcS tp t s).2) := fun k => by
          cases k with
          | zero => rfl
          | succ k => exact if_neg (fun q => g.1 q.2)
        have f2 : ∀ k, rpL tp t k (skb tp t (rdS tp t p).1, (rdS tp t p).2) = (skb tp t (rdS tp t p).1, (rdS tp t p).2) := fun k => by
          cases k with
          | zero => rfl
          | succ k => exact if_neg (fun q => by have := q.2; rw [show ((skb tp t (rdS tp t p).1, (rdS tp t p).2) : PS).2.1 = (rdS tp t p).2.1 from rfl, g.2.1] at this; cases this)
        rw [f1, f2]
        exact g
    · left
      have e1 : psL tp t (k + 1) s = s := if_neg (fun q => hz q.1)
      have e2 : psA tp t (k + 1) s A = A := if_neg (fun q => hz q.1)
      have e3 : rpL tp t (k' + 1) p = p := if_neg (fun q => hz (by omega))
      rw [e1, e2, e3]
      exact h
theorem par_rel {tp : Nat → Nat} {t : Nat} (ht : t ≤ 400) (A : FI) (f : Nat → Int32) : RP (parS tp t) (parA tp t A) (rpS tp t f) ∨ RF (parS tp t) (rpS tp t f) :=
  rp_all 41 402 (par0 tp t) A (rp0 tp t f) ⟨rfl, rfl, Nat.zero_le _, rfl, rfl, rfl, rfl, rfl, fun i hi => absurd hi (Nat.not_lt_zero i), Nat.zero_le _⟩ (skb_le tp (Nat.zero_le t)).2 rfl (by omega)
/-- two rows of clauses that say the same -/
def CLA (a b : Nat × Int32 × Int32 × Int32) : Prop := a.1 = b.1 ∧ (1 ≤ nuN a.1 → a.2.1 = b.2.1) ∧ (2 ≤ nuN a.1 → a.2.2.1 = b.2.2.1) ∧ (3 ≤ nuN a.1 → a.2.2.2 = b.2.2.2)
theorem exB_0 (x y z : Int32) (w : Nat → Nat) : exB 0 x y z w = (inR x 6) := rfl
theorem exW_0 (x y z : Int32) (w : Nat → Nat) : exW 0 x y z w = (if inR x 6 then fetW w x.toNatClampNeg else w) := rfl
theorem exG_0 (x y : Int32) (w lg : Nat → Nat) : exG 0 x y w lg = (lg) := rfl
theorem exB_1 (x y z : Int32) (w : Nat → Nat) : exB 1 x y z w = (decide (0 ≤ (redR w x y).toInt)) := rfl
theorem exW_1 (x y z : Int32) (w : Nat → Nat) : exW 1 x y z w = (redW w x y) := rfl
theorem exG_1 (x y : Int32) (w lg : Nat → Nat) : exG 1 x y w lg = (lg) := rfl
theorem exB_2 (x y z : Int32) (w : Nat → Nat) : exB 2 x y z w = (decide (wriR w x y z = 0)) := rfl
theorem exW_2 (x y z : Int32) (w : Nat → Nat) : exW 2 x y z w = (wriW w x y z) := rfl
theorem exG_2 (x y : Int32) (w lg : Nat → Nat) : exG 2 x y w lg = (lg) := rfl
theorem exB_3 (x y z : Int32) (w : Nat → Nat) : exB 3 x y z w = (spcB w (nmO w x) y) := rfl
theorem exW_3 (x y z : Int32) (w : Nat → Nat) : exW 3 x y z w = (sptW w (nmO w x) y) := rfl
theorem exG_3 (x y : Int32) (w lg : Nat → Nat) : exG 3 x y w lg = (sptL lg w (nmO w x) y) := rfl
theorem exB_4 (x y z : Int32) (w : Nat → Nat) : exB 4 x y z w = (decide (mdlR w x ≠ -1)) := rfl
theorem exW_4 (x y z : Int32) (w : Nat → Nat) : exW 4 x y z w = (mdlW w x) := rfl
theorem exG_4 (x y : Int32) (w lg : Nat → Nat) : exG 4 x y w lg = (mdlL lg w x) := rfl
theorem exB_5 (x y z : Int32) (w : Nat → Nat) : exB 5 x y z w = (joiB w (nmO w x)) := rfl
theorem exW_5 (x y z : Int32) (w : Nat → Nat) : exW 5 x y z w = (jonW w (nmO w x)) := rfl
theorem exG_5 (x y : Int32) (w lg : Nat → Nat) : exG 5 x y w lg = (jonL lg w (nmO w x)) := rfl
theorem exB_6 (x y z : Int32) (w : Nat → Nat) : exB 6 x y z w = (mvB w (nmO w x) y) := rfl
theorem exW_6 (x y z : Int32) (w : Nat → Nat) : exW 6 x y z w = (mvW w (nmO w x) y) := rfl
theorem exG_6 (x y : Int32) (w lg : Nat → Nat) : exG 6 x y w lg = (lg) := rfl
theorem exB_7 (x y z : Int32) (w : Nat → Nat) : exB 7 x y z w = (stpB w x y) := rfl
theorem exG_7 (x y : Int32) (w lg : Nat → Nat) : exG 7 x y w lg = (if stpB w x y then stL lg w x.toNatClampNeg y.toNatClampNeg else lg) := rfl
theorem exB_8 (x y z : Int32) (w : Nat → Nat) : exB 8 x y z w = (faiB w x y) := rfl
theorem exW_8 (x y z : Int32) (w : Nat → Nat) : exW 8 x y z w = (if faiB w x y then upN w (7694 + 72 * x.toNatClampNeg + 10) y.toNatClampNeg else w) := rfl
theorem exG_8 (x y : Int32) (w lg : Nat → Nat) : exG 8 x y w lg = (lg) := rfl
theorem exB_9 (x y z : Int32) (w : Nat → Nat) : exB 9 x y z w = (dowB w x) := rfl
theorem exW_9 (x y z : Int32) (w : Nat → Nat) : exW 9 x y z w = (dowW w x) := rfl
theorem exG_9 (x y : Int32) (w lg : Nat → Nat) : exG 9 x y w lg = (lg) := rfl
theorem exB_10 (x y z : Int32) (w : Nat → Nat) : exB 10 x y z w = (inR x 6 && decide (w (4 + x.toNatClampNeg) ≠ 1)) := rfl
theorem exW_10 (x y z : Int32) (w : Nat → Nat) : exW 10 x y z w = (if inR x 6 && decide (w (4 + x.toNatClampNeg) ≠ 1) then upN w (4 + x.toNatClampNeg) 1 else w) := rfl
theorem exG_10 (x y : Int32) (w lg : Nat → Nat) : exG 10 x y w lg = (lg) := rfl
theorem exB_11 (x y z : Int32) (w : Nat → Nat) : exB 11 x y z w = (recB w x) := rfl
theorem exW_11 (x y z : Int32) (w : Nat → Nat) : exW 11 x y z w = (if recB w x then endW w x.toNatClampNeg else w) := rfl
theorem exG_11 (x y : Int32) (w lg : Nat → Nat) : exG 11 x y w lg = (lg) := rfl
theorem exB_12 (x y z : Int32) (w : Nat → Nat) : exB 12 x y z w = (givB w x) := rfl
theorem exW_12 (x y z : Int32) (w : Nat → Nat) : exW 12 x y z w = (if givB w x then endW w x.toNatClampNeg else w) := rfl
theorem exG_12 (x y : Int32) (w lg : Nat → Nat) : exG 12 x y w lg = (lg) := rfl
theorem exB_13 (x y z : Int32) (w : Nat → Nat) : exB 13 x y z w = (true) := rfl
theorem exW_13 (x y z : Int32) (w : Nat → Nat) : exW 13 x y z w = (ageW w) := rfl
theorem exG_13 (x y : Int32) (w lg : Nat → Nat) : exG 13 x y w lg = (lg) := rfl
theorem exB_14 (x y z : Int32) (w : Nat → Nat) : exB 14 x y z w = (decide (1 ≤ x.toInt ∧ x.toInt ≤ 16)) := rfl
theorem exW_14 (x y z : Int32) (w : Nat → Nat) : exW 14 x y z w = (if 1 ≤ x.toInt ∧ x.toInt ≤ 16 then upN w 2 x.toNatClampNeg else w) := rfl
theorem exG_14 (x y : Int32) (w lg : Nat → Nat) : exG 14 x y w lg = (lg) := rfl
theorem ex_arg {v : Nat} {x y z x' y' z' : Int32} {w lg : Nat → Nat} (hv : v < 15) (h1 : 1 ≤ nuN v → x = x') (h2 : 2 ≤ nuN v → y = y') (h3 : 3 ≤ nuN v → z = z') : exB v x y z w = exB v x' y' z' w ∧ exW v x y z w = exW v x' y' z' w ∧ exG v x y w lg = exG v x' y' w lg := by
  revert h1 h2 h3
  refine v15 (P := fun v => (1 ≤ nuN v → x = x') → (2 ≤ nuN v → y = y') → (3 ≤ nuN v → z = z') → exB v x y z w = exB v x' y' z' w ∧ exW v x y z w = exW v x' y' z' w ∧ exG v x y w lg = exG v x' y' w lg) ?_ ?_ ?_ ?_ ?_ ?_ ?_ ?_ ?_ ?_ ?_ ?_ ?_ ?_ ?_ v hv
  · intro h1 h2 h3
    rw [← h1 (show 1 ≤ nuN 0 by decide)]
    rw [exB_0, exB_0, exW_0, exW_0, exG_0]
    first | exact ⟨rfl, rfl, rfl⟩ | (rw [exG_0]; exact ⟨rfl, rfl, rfl⟩)
  · intro h1 h2 h3
    rw [← h1 (show 1 ≤ nuN 1 by decide)]
    rw [← h2 (show 2 ≤ nuN 1 by decide)]
    rw [exB_1, exB_1, exW_1, exW_1, exG_1]
    first | exact ⟨rfl, rfl, rfl⟩ | (rw [exG_1]; exact ⟨rfl, rfl, rfl⟩)
  · intro h1 h2 h3
    rw [← h1 (show 1 ≤ nuN 2 by decide)]
    rw [← h2 (show 2 ≤ nuN 2 by decide)]
    rw [← h3 (show 3 ≤ nuN 2 by decide)]
    exact ⟨rfl, rfl, rfl⟩
  · intro h1 h2 h3
    rw [← h1 (show 1 ≤ nuN 3 by decide)]
    rw [← h2 (show 2 ≤ nuN 3 by decide)]
    rw [exB_3, exB_3, exW_3, exW_3, exG_3]
    first | exact ⟨rfl, rfl, rfl⟩ | (rw [exG_3]; exact ⟨rfl, rfl, rfl⟩)
  · intro h1 h2 h3
    rw [← h1 (show 1 ≤ nuN 4 by decide)]
    rw [exB_4, exB_4, exW_4, exW_4, exG_4]
    first | exact ⟨rfl, rfl, rfl⟩ | (rw [exG_4]; exact ⟨rfl, rfl, rfl⟩)
  · intro h1 h2 h3
    rw [← h1 (show 1 ≤ nuN 5 by decide)]
    rw [exB_5, exB_5, exW_5, exW_5, exG_5]
    first | exact ⟨rfl, rfl, rfl⟩ | (rw [exG_5]; exact ⟨rfl, rfl, rfl⟩)
  · intro h1 h2 h3
    rw [← h1 (show 1 ≤ nuN 6 by decide)]
    rw [← h2 (show 2 ≤ nuN 6 by decide)]
    rw [exB_6, exB_6, exW_6, exW_6, exG_6]
    first | exact ⟨rfl, rfl, rfl⟩ | (rw [exG_6]; exact ⟨rfl, rfl, rfl⟩)
  · intro h1 h2 h3
    rw [← h1 (show 1 ≤ nuN 7 by decide)]
    rw [← h2 (show 2 ≤ nuN 7 by decide)]
    rw [exB_7, exB_7, exW_7, exW_7, exG_7]
    first | exact ⟨rfl, rfl, rfl⟩ | (rw [exG_7]; exact ⟨rfl, rfl, rfl⟩)
  · intro h1 h2 h3
    rw [← h1 (show 1 ≤ nuN 8 by decide)]
    rw [← h2 (show 2 ≤ nuN 8 by decide)]
    rw [exB_8, exB_8, exW_8, exW_8, exG_8]
    first | exact ⟨rfl, rfl, rfl⟩ | (rw [exG_8]; exact ⟨rfl, rfl, rfl⟩)
  · intro h1 h2 h3
    rw [← h1 (show 1 ≤ nuN 9 by decide)]
    rw [exB_9, exB_9, exW_9, exW_9, exG_9]
    first | exact ⟨rfl, rfl, rfl⟩ | (rw [exG_9]; exact ⟨rfl, rfl, rfl⟩)
  · intro h1 h2 h3
    rw [← h1 (show 1 ≤ nuN 10 by decide)]
    rw [exB_10, exB_10, exW_10, exW_10, exG_10]
    first | exact ⟨rfl, rfl, rfl⟩ | (rw [exG_10]; exact ⟨rfl, rfl, rfl⟩)
  · intro h1 h2 h3
    rw [← h1 (show 1 ≤ nuN 11 by decide)]
    rw [exB_11, exB_11, exW_11, exW_11, exG_11]
    first | exact ⟨rfl, rfl, rfl⟩ | (rw [exG_11]; exact ⟨rfl, rfl, rfl⟩)
  · intro h1 h2 h3
    rw [← h1 (show 1 ≤ nuN 12 by decide)]
    rw [exB_12, exB_12, exW_12, exW_12, exG_12]
    first | exact ⟨rfl, rfl, rfl⟩ | (rw [exG_12]; exact ⟨rfl, rfl, rfl⟩)
  · intro h1 h2 h3
    rw [exB_13, exB_13, exW_13, exW_13, exG_13]
    first | exact ⟨rfl, rfl, rfl⟩ | (rw [exG_13]; exact ⟨rfl, rfl, rfl⟩)
  · intro h1 h2 h3
    rw [← h1 (show 1 ≤ nuN 14 by decide)]
    rw [exB_14, exB_14, exW_14, exW_14, exG_14]
    first | exact ⟨rfl, rfl, rfl⟩ | (rw [exG_14]; exact ⟨rfl, rfl, rfl⟩)
theorem exR_arg {cl cl' : Nat → Nat × Int32 × Int32 × Int32} : ∀ (k n : Nat) (w lg : Nat → Nat), (∀ i, n ≤ i → i < n + k → CLA (cl i) (cl' i) ∧ (cl i).1 < 15) → exR cl k n w = exR cl' k n w ∧ exRG cl k n w lg = exRG cl' k n w lg ∧ evS cl k n = evS cl' k n
  | 0, n, w, lg, _ => ⟨rfl, rfl, rfl⟩
  | k + 1, n, w, lg, h => by
    obtain ⟨⟨c1, c2, c3, c4⟩, c5⟩ := h n (Nat.le_refl n) (by omega)
    have e := ex_arg (w := w) (lg := lg) c5 c2 c3 c4
    have ih := exR_arg (cl := cl) (cl' := cl') k (n + 1) (exW (cl n).1 (cl n).2.1 (cl n).2.2.1 (cl n).2.2.2 w) (exG (cl n).1 (cl n).2.1 (cl n).2.2.1 w lg) (fun i a b => h i (by omega) (by omega))
    unfold exR exRG evS
    rw [ih.1, ih.2.1, ih.2.2]
    rw [← c1]
    rw [e.1, e.2.1, e.2.2]
    exact ⟨rfl, rfl, rfl⟩
theorem evS_A {cl : Nat → Nat × Int32 × Int32 × Int32} {A : FI} : ∀ (k n : Nat), (∀ i, n ≤ i → i < n + k → A (rf 31 79) i = nI (cl i).1 ∧ (cl i).1 < 15) → evA A n + evS cl k n = evA A (n + k)
  | 0, n, _ => rfl
  | k + 1, n, h => by
    have ih := evS_A (cl := cl) (A := A) k (n + 1) (fun i a b => h i (by omega) (by omega))
    obtain ⟨h1, h2⟩ := h n (Nat.le_refl n) (by omega)
    have e : evA A (n + 1) = evA A n + evN (cl n).1 := by
      show evA A n + evN (A (rf 31 79) n).toNatClampNeg = _
      rw [h1, nI_clamp (show (cl n).1 < 2 ^ 31 by omega)]
    show evA A n + (evN (cl n).1 + evS cl k (n + 1)) = _
    rw [e] at ih
    rw [show n + (k + 1) = n + 1 + k by omega]
    omega
/-- the clauses of both -/
theorem par_cl {A : FI} {row : Nat → Int32} {c : Nat} (h : ∀ i, i < c → CRL A row i) : ∃ cl cl' : Nat → Nat × Int32 × Int32 × Int32, (∀ i, i < c → A (rf 31 79) i = nI (cl i).1 ∧ (cl i).1 < 15 ∧ A (rf 30 78) (i * 3 + 0) = (cl i).2.1 ∧ A (rf 30 78) (i * 3 + 1) = (cl i).2.2.1 ∧ A (rf 30 78) (i * 3 + 2) = (cl i).2.2.2) ∧ (∀ i, i < c → row (4 * i) = nI (cl' i).1 ∧ (cl' i).1 < 15 ∧ row (4 * i + 1) = (cl' i).2.1 ∧ row (4 * i + 2) = (cl' i).2.2.1 ∧ row (4 * i + 3) = (cl' i).2.2.2) ∧ ∀ i, i < c → CLA (cl i) (cl' i) := by
  have hx : ∀ i, ∃ v, i < c → v < 15 ∧ A (rf 31 79) i = nI v ∧ row (4 * i) = nI v ∧ ∀ j, j < nuN v → A (rf 30 78) (i * 3 + j) = row (4 * i + 1 + j) := fun i => by
    by_cases hi : i < c
    · obtain ⟨v, hv⟩ := h i hi
      exact ⟨v, fun _ => hv⟩
    · exact ⟨0, fun q => absurd q hi⟩
  obtain ⟨vf, hvf⟩ := Classical.axiomOfChoice hx
  refine ⟨fun i => (vf i, A (rf 30 78) (i * 3 + 0), A (rf 30 78) (i * 3 + 1), A (rf 30 78) (i * 3 + 2)), fun i => (vf i, row (4 * i + 1), row (4 * i + 2), row (4 * i + 3)), fun i hi => ?_, fun i hi => ?_, fun i hi => ?_⟩
  · obtain ⟨a, b, c, d⟩ := hvf i hi
    exact ⟨b, a, rfl, rfl, rfl⟩
  · obtain ⟨a, b, c, d⟩ := hvf i hi
    exact ⟨c, a, rfl, rfl, rfl⟩
  · obtain ⟨a, b, c, d⟩ := hvf i hi
    exact ⟨rfl, fun q => d 0 q, fun q => d 1 q, fun q => d 2 q⟩
