/-- the reference's calls change nothing but the cells 80 .. 88 -/
theorem CLS_80 {fi fi' : FI} {fr : FR} {ai ai' : FI} {ar : FR} {N : Nat} {w lg : Nat → Nat} {E u : Nat} {V : Nat → Nat → Nat} {im : Option ((Nat → Nat) × (Nat → Nat))} (h : CLS fi fr ai ar N w lg E u V im) (h3 : w 3 ≤ 12) (hf : ∀ f r, (r / 64 < 80 ∨ 89 ≤ r / 64) → fi' f r = fi f r) (ha : ∀ a, (a / 64 < 80 ∨ 89 ≤ a / 64) → ai' a = ai a) : CLS fi' fr ai' ar N w lg E u V im := by
  obtain ⟨cm, sm, hK, B, t, cb⟩ := h
  exact ⟨cm, sm, K_fr h3 (fun f r a b => hf f r (by omega)) (fun a x y => ha a (by omega)) hK, B, t, CB_fr cb (hf _ _ (by decide)) (hf _ _ (by decide)) (fun f r x => hf f r (by omega)) (fun a x => ha a (by omega))⟩
theorem K_le {fi ai : FI} {w lg : Nat → Nat} {E E' : Nat} (h : K fi ai w lg E) (he : E' ≤ E) : K fi ai w lg E' := ⟨h.1, ⟨h.2.1.1, h.2.1.2.1, fun e h1 h2 => h.2.1.2.2 e h1 (by omega)⟩, h.2.2⟩
theorem CLS_E {fi : FI} {fr : FR} {ai : FI} {ar : FR} {N : Nat} {w lg : Nat → Nat} {E E' u : Nat} {V : Nat → Nat → Nat} {im : Option ((Nat → Nat) × (Nat → Nat))} (h : CLS fi fr ai ar N w lg E u V im) (he : E' ≤ E) : CLS fi fr ai ar N w lg E' u V im := ⟨h.1, h.2.1, K_le h.2.2.1 he, h.2.2.2⟩
theorem CB_c0 {fi fi' : FI} {fr : FR} {ai ai' : FI} {ar : FR} {N u t : Nat} {V : Nat → Nat → Nat} {im : Option ((Nat → Nat) × (Nat → Nat))} {B : Nat → Nat} (h : CB fi fr ai ar N u V im B t) (h5 : fi' (32 * 0 + 1) (rf 0 74) = fi (32 * 0 + 1) (rf 0 74)) (h6 : fi' (32 * 0 + 2) (rf 0 74) = nI 0) (hf : ∀ f r, 89 ≤ r / 64 → fi' f r = fi f r) (ha : ∀ a, 89 ≤ a / 64 → ai' a = ai a) : CB fi' fr ai' ar N 0 V im B t := by
  obtain ⟨al, ht, hu, g5, g6, hV, hn, hs⟩ := h
  refine ⟨al, ht, by omega, h5.trans g5, h6, fun j hj => absurd hj (by omega), hn, fun q hq => ?_⟩
  obtain ⟨a, b, c, d, e⟩ := hs q hq
  exact ⟨a, b, KW_fr (iv_mm d) (fun f r x y => hf f r (by have := al.2.1 7 (by decide) a; omega)) (fun x y z => ha x (by have := al.2.1 7 (by decide) a; omega)) c, d, LGR_fr (fun x y z => ha x (by have := al.2.1 8 (by decide) b; omega)) e⟩
/-- a call that may forget the acts -/
theorem CLS_g {fi fi' : FI} {fr : FR} {ai ai' : FI} {ar : FR} {N : Nat} {w w' lg lg' : Nat → Nat} {E E' u : Nat} {V : Nat → Nat → Nat} {im : Option ((Nat → Nat) × (Nat → Nat))} {b : Bool} (h : CLS fi fr ai ar N w lg E u V im) (g : FR2 fi ai fi' ai') (hc : fi' (32 * 0 + 2) (rf 0 74) = if b then nI 0 else fi (32 * 0 + 2) (rf 0 74)) (hK : K fi' ai' w' lg' E') : CLS fi' fr ai' ar N w' lg' E' (if b then 0 else u) V im ∧ FX fi ai fi' ai' := by
  obtain ⟨cm, sm, _, B, t, cb⟩ := h
  have fx : FX fi ai fi' ai' := ⟨fun f r x => g.1 f r (by omega) (fun e => by rw [e.2, rf_div (by decide)] at x; omega), fun a x => g.2 a (by omega)⟩
  have hf : ∀ f r, 89 ≤ r / 64 → fi' f r = fi f r := fun f r x => g.1 f r (by omega) (fun e => by rw [e.2, rf_div (by decide)] at x; omega)
  have ha : ∀ a, 89 ≤ a / 64 → ai' a = ai a := fun a x => g.2 a (by omega)
  have h5 : fi' (32 * 0 + 1) (rf 0 74) = fi (32 * 0 + 1) (rf 0 74) := g.1 _ _ (by decide) (by decide)
  cases b with
  | false => exact ⟨⟨cm, sm, hK, B, t, CB_fr cb h5 hc hf ha⟩, fx⟩
  | true => exact ⟨⟨cm, sm, hK, B, t, CB_c0 cb h5 hc hf ha⟩, fx⟩
theorem CLS_k {fi fi' : FI} {fr : FR} {ai ai' : FI} {ar : FR} {N : Nat} {w w' lg lg' : Nat → Nat} {E E' u : Nat} {V : Nat → Nat → Nat} {im : Option ((Nat → Nat) × (Nat → Nat))} (h : CLS fi fr ai ar N w lg E u V im) (g : FR1 fi ai fi' ai') (hK : K fi' ai' w' lg' E') : CLS fi' fr ai' ar N w' lg' E' u V im ∧ FX fi ai fi' ai' := CLS_g (b := false) h (FR2_a g) (FR1_ct g) hK
theorem FX_tr {a b c d e f : FI} (h : FX a b c d) (g : FX c d e f) : FX a b e f := ⟨fun q r hr => (g.1 q r hr).trans (h.1 q r hr), fun q hr => (g.2 q hr).trans (h.2 q hr)⟩
theorem dc_dg (tp : Nat → Nat) : ∀ f a v v', (v = v' ∧ v ≤ 99999) ∨ (99999 < v ∧ 99999 < v') → (dcF tp f a v).1 = (dgF tp f a v').1 ∧ (((dcF tp f a v).2 = (dgF tp f a v').2 ∧ (dcF tp f a v).2 ≤ 99999) ∨ (99999 < (dcF tp f a v).2 ∧ 99999 < (dgF tp f a v').2))
  | 0, a, v, v', h => ⟨rfl, h⟩
  | f + 1, a, v, v', h => by
    unfold dcF dgF
    by_cases hd : isD tp a = true
    · rw [if_pos hd, if_pos hd]
      have hp : 48 ≤ tp a ∧ tp a ≤ 57 := of_decide_eq_true hd
      refine dc_dg tp f (a + 1) _ _ ?_
      rcases h with ⟨h1, h2⟩ | ⟨h1, h2⟩
      · rw [if_neg (show ¬ 99999 < v' by omega)]
        by_cases h3 : 100000 < v * 10 + tp a - 48
        · rw [if_pos h3]; omega
        · rw [if_neg h3]; omega
      · rw [if_pos h2, if_pos (show 100000 < v * 10 + tp a - 48 by omega)]; omega
    · rw [if_neg hd, if_neg hd]; exact ⟨rfl, h⟩
