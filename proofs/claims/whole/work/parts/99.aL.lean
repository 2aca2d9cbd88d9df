theorem mW_self {ai : FI} {w : Nat → Nat} (h : ai (rf 32 81) = fun i => nI (w i)) : mW ai w = ai := by
  funext a
  unfold mW
  by_cases e : a = rf 32 81
  · rw [if_pos e, e, h]
  · rw [if_neg e]
/-- the rows that can be undone -/
def UR (U : Nat → Int32) (u : Nat) (V : Nat → Nat → Nat) : Prop := ∀ j k, j < u → k < 8558 → U (8558 * j + k) = nI (V j k)
theorem UR_push {U g : Nat → Int32} {u : Nat} {V : Nat → Nat → Nat} {w : Nat → Nat} (h : UR U u V) (hu : u ≤ 6) (hg : ∀ k, k < 8558 → g k = nI (w k)) : UR (reU U u g) (if 6 < u + 1 then 6 else u + 1) (psV u V w) := by
  intro j k hj hk
  by_cases h6 : u = 6
  · subst h6
    have ej : j < 6 := hj
    show (if (6 : Nat) = 6 then cpA (shU U) (fun k => g (k - 42790)) 42790 8558 else _) (8558 * j + k) = nI ((if (6 : Nat) < 6 then _ else if j = 5 then w else V (j + 1)) k)
    rw [if_pos rfl, if_neg (by decide)]
    by_cases e5 : j = 5
    · rw [if_pos e5]
      show (if 42790 ≤ 8558 * j + k ∧ 8558 * j + k < 42790 + 8558 then g (8558 * j + k - 42790) else _) = _
      rw [if_pos (by omega), show 8558 * j + k - 42790 = k by omega]
      exact hg k hk
    · rw [if_neg e5]
      show (if 42790 ≤ 8558 * j + k ∧ 8558 * j + k < 42790 + 8558 then _ else (if 0 ≤ 8558 * j + k ∧ 8558 * j + k < 0 + 42790 then U (8558 * j + k + 8558) else _)) = _
      rw [if_neg (by omega), if_pos (by omega), show 8558 * j + k + 8558 = 8558 * (j + 1) + k by omega]
      exact h (j + 1) k (by omega) hk
  · rw [if_neg (show ¬ 6 < u + 1 by omega)] at hj
    show (if u = 6 then _ else cpA U (fun k => g (k - 8558 * u)) (8558 * u) 8558) (8558 * j + k) = nI ((if u < 6 then (if j = u then w else V j) else _) k)
    rw [if_neg h6, if_pos (show u < 6 by omega)]
    by_cases ej : j = u
    · rw [if_pos ej]
      show (if 8558 * u ≤ 8558 * j + k ∧ 8558 * j + k < 8558 * u + 8558 then g (8558 * j + k - 8558 * u) else _) = _
      rw [if_pos (by omega), show 8558 * j + k - 8558 * u = k by omega]
      exact hg k hk
    · rw [if_neg ej]
      show (if 8558 * u ≤ 8558 * j + k ∧ 8558 * j + k < 8558 * u + 8558 then _ else U (8558 * j + k)) = _
      rw [if_neg (by omega)]
      exact h j k (by omega) hk
theorem u1_e {u : Nat} (hu : u ≤ 6) : u1 u = if 6 < u + 1 then 6 else u + 1 := by
  unfold u1
  by_cases h : u = 6
  · rw [if_pos h, if_pos (by omega)]
  · rw [if_neg h, if_neg (by omega)]
/-- what n calls can come to, with t bytes on the tape -/
def GB (w : Nat → Nat) (n t : Nat) : Prop := GW w ∧ (∀ k, k < 1000 → w (106 + k) ≤ 130 * n) ∧ 6 * w 0 + t ≤ 6 + 20 * n
theorem GB_mo {w : Nat → Nat} {n t t' : Nat} (h : GB w n t) (ht : t' ≤ t + 20) : GB w (n + 1) t' := ⟨h.1, fun k hk => by have := h.2.1 k hk; omega, by have := h.2.2; omega⟩
theorem GB_TR {w w' : Nat → Nat} {n t e m : Nat} (h : GB w n t) (tr : TR w w' e m) (he : e ≤ 1) (hm : m ≤ 130) : GB w' (n + 1) t := ⟨tr.1, fun k hk => by have := h.2.1 k hk; have := tr.2.2.2 k hk; omega, by have := h.2.2; have := tr.2.2.1; omega⟩
theorem GB_0 {w : Nat → Nat} {n t : Nat} (h : GB w n t) (hn : n < 512) : w 0 + 42 < 1998 ∧ ∀ k, k < 1000 → w (106 + k) + 130 ≤ 100000 := ⟨by have := h.2.2; omega, fun k hk => by have := h.2.1 k hk; omega⟩
theorem GW_fr {w w' : Nat → Nat} (h : GW w) (hq : ∀ q, q < 8558 → w' q = w q) : GW w' := by
  have h3 := iv_mm h.1
  refine ⟨Inv_fr hq h.1, Inv2_fr h.1 (fun q a _ => hq q (by omega)) (fun m d a b => hq _ (by omega)) h.2.1, go_le (hq 3 (by decide)) (fun m hm hh => ?_) h.2.2⟩
  rw [goB_e (hq _ (by omega))] at hh
  exact hh
/-- the reference's side -/
def RS (fi ai : FI) (w lg : Nat → Nat) (u : Nat) (V : Nat → Nat → Nat) (im : Option ((Nat → Nat) × (Nat → Nat))) (tp : Nat → Nat) (t : Nat) (fl pl rs : Int32) : Prop :=
  ai (rf 32 81) = (fun i => nI (w i)) ∧ fi (32 * 11 + 4) (rf 11 80) = nI u ∧ fi (32 * 11 + 8) (rf 11 80) = nI 0 ∧ fi (32 * 11 + 10) (rf 11 80) = nI t ∧ (∀ i, i < t → ai (rf 35 87) i = sB (tp i)) ∧ UR (ai (rf 33 84)) u V ∧ CHG (ai (rf 34 85)) lg (w 0) ∧
  (im = none → fi (32 * 11 + 5) (rf 11 80) = nI 0) ∧ (∀ q, im = some q → fi (32 * 11 + 5) (rf 11 80) = nI 1 ∧ (∀ k, k < 8597 → ai (rf 32 83) k = nI (q.1 k)) ∧ CHG (ai (rf 34 86)) q.2 (q.1 0)) ∧
  fi (32 * 11 + 12) (rf 11 80) = fl ∧ fi (32 * 11 + 13) (rf 11 80) = pl ∧ fi (32 * 11 + 14) (rf 11 80) = rs
/-- the class's tape and faults -/
def TS (fi ai : FI) (tp : Nat → Nat) (t : Nat) (fl pl rs : Int32) : Prop := fi (32 * 7 + 3) (rf 7 76) = nI t ∧ (∀ i, i < t → ai (rf 29 77) i = nI (tp i)) ∧ fi (32 * 7 + 5) (rf 7 76) = fl ∧ fi (32 * 7 + 6) (rf 7 76) = pl ∧ fi (32 * 10 + 10) (rf 10 0) = rs
/-- what is always so, without the heap -/
def PG (n : Nat) (w : Nat → Nat) (u : Nat) (V : Nat → Nat → Nat) (im : Option ((Nat → Nat) × (Nat → Nat))) (tp : Nat → Nat) (t : Nat) : Prop :=
  GB w n t ∧ (∀ j, j < u → GB (V j) n t) ∧ (∀ i j, i ≤ j → j < u → V i 0 ≤ V j 0) ∧ (∀ j, j < u → V j 0 ≤ w 0) ∧ (∀ q, im = some q → GB q.1 n t) ∧ t ≤ 400 ∧ (∀ i, tp i < 256) ∧ u ≤ 6
def LSt (fi : FI) (fr : FR) (ai : FI) (ar : FR) (N n : Nat) : Prop := ∃ (w lg : Nat → Nat) (u : Nat) (V : Nat → Nat → Nat) (im : Option ((Nat → Nat) × (Nat → Nat))) (tp : Nat → Nat) (t : Nat) (fl pl rs : Int32), CLS fi fr ai ar N w lg (w 0) u V im ∧ TS fi ai tp t fl pl rs ∧ RS fi ai w lg u V im tp t fl pl rs ∧ PG n w u V im tp t
theorem RS_fx {fi ai f1 a1 : FI} {w lg : Nat → Nat} {u : Nat} {V : Nat → Nat → Nat} {im : Option ((Nat → Nat) × (Nat → Nat))} {tp : Nat → Nat} {t : Nat} {fl pl rs : Int32} (h : RS fi ai w lg u V im tp t fl pl rs) (hf : ∀ f r, 80 ≤ r / 64 → r / 64 < 89 → f1 f r = fi f r) (ha : ∀ a, 80 ≤ a / 64 → a / 64 < 89 → a1 a = ai a) : RS f1 a1 w lg u V im tp t fl pl rs := by
  have e : ∀ f, f1 f (rf 11 80) = fi f (rf 11 80) := fun f => hf f _ (by decide) (by decide)
  unfold RS
  rw [e, e, e, e, e, e, e, ha (rf 32 81) (by decide) (by decide), ha (rf 35 87) (by decide) (by decide), ha (rf 33 84) (by decide) (by decide), ha (rf 34 85) (by decide) (by decide), ha (rf 32 83) (by decide) (by decide), ha (rf 34 86) (by decide) (by decide)]
  exact h
theorem TS_fx {fi ai f1 a1 : FI} {tp : Nat → Nat} {t : Nat} {fl pl rs : Int32} (h : TS fi ai tp t fl pl rs) (hf : ∀ f r, (r / 64 = 0 ∨ 76 ≤ r / 64 ∧ r / 64 < 80) → f1 f r = fi f r) (ha : ∀ a, (a / 64 = 0 ∨ 76 ≤ a / 64 ∧ a / 64 < 80) → a1 a = ai a) : TS f1 a1 tp t fl pl rs := by
  unfold TS
  rw [hf _ (rf 7 76) (by decide), hf _ (rf 7 76) (by decide), hf _ (rf 7 76) (by decide), hf _ (rf 10 0) (by decide), ha (rf 29 77) (by decide)]
  exact h
theorem PG_q {n : Nat} {w : Nat → Nat} {u : Nat} {V : Nat → Nat → Nat} {im : Option ((Nat → Nat) × (Nat → Nat))} {tp : Nat → Nat} {t : Nat} (h : PG n w u V im tp t) : PG (n + 1) w u V im tp t :=
  ⟨GB_mo h.1 (by omega), fun j hj => GB_mo (h.2.1 j hj) (by omega), h.2.2.1, h.2.2.2.1, fun q hq => GB_mo (h.2.2.2.2.1 q hq) (by omega), h.2.2.2.2.2⟩
theorem PG_u0 {n : Nat} {w : Nat → Nat} {u : Nat} {V : Nat → Nat → Nat} {im : Option ((Nat → Nat) × (Nat → Nat))} {tp : Nat → Nat} {t : Nat} {w' : Nat → Nat} {b : Bool} (h : PG n w u V im tp t) (tr : TR w w' 1 130) : PG (n + 1) w' (if b then 0 else u) V im tp t := by
  have hq := PG_q h
  have g := GB_TR h.1 tr (Nat.le_refl 1) (Nat.le_refl _)
  cases b with
  | true => exact ⟨g, fun j hj => absurd hj (Nat.not_lt_zero j), fun i j _ hj => absurd hj (Nat.not_lt_zero j), fun j hj => absurd hj (Nat.not_lt_zero j), hq.2.2.2.2.1, hq.2.2.2.2.2.1, hq.2.2.2.2.2.2.1, Nat.zero_le 6⟩
  | false => exact ⟨g, hq.2.1, hq.2.2.1, fun j hj => Nat.le_trans (h.2.2.2.1 j hj) tr.2.1, hq.2.2.2.2⟩
theorem psV_c {u : Nat} {V : Nat → Nat → Nat} {w : Nat → Nat} {j : Nat} (hu : u ≤ 6) (hj : j < (if 6 < u + 1 then 6 else u + 1)) : (psV u V w j = w ∧ j + 1 = (if 6 < u + 1 then 6 else u + 1)) ∨ ∃ i, i < u ∧ psV u V w j = V i ∧ i = (if u < 6 then j else j + 1) ∧ j + 1 < (if 6 < u + 1 then 6 else u + 1) := by
  unfold psV
  by_cases h6 : u < 6
  · rw [if_neg (show ¬ 6 < u + 1 by omega)] at hj ⊢
    rw [if_pos h6]
    by_cases e : j = u
    · left
      rw [if_pos e]
      exact ⟨rfl, by omega⟩
    · right
      rw [if_neg e, if_pos h6]
      exact ⟨j, by omega, rfl, rfl, by omega⟩
  · rw [if_pos (show 6 < u + 1 by omega)] at hj ⊢
    rw [if_neg h6]
    by_cases e : j = 5
    · left
      rw [if_pos e]
      exact ⟨rfl, by omega⟩
    · right
      rw [if_neg e, if_neg h6]
      exact ⟨j + 1, by omega, rfl, rfl, by omega⟩
theorem PG_act {n : Nat} {w : Nat → Nat} {u : Nat} {V : Nat → Nat → Nat} {im : Option ((Nat → Nat) × (Nat → Nat))} {tp : Nat → Nat} {t : Nat} {w' : Nat → Nat} {b : Bool} (h : PG n w u V im tp t) (tr : TR w w' 1 130) : PG (n + 1) w' (acU b u) (acV b u V w) im tp t := by
  have hq := PG_q h
  have g := GB_TR h.1 tr (Nat.le_refl 1) (Nat.le_refl _)
  have hu := h.2.2.2.2.2.2.2
  cases b with
  | false => exact ⟨g, hq.2.1, hq.2.2.1, fun j hj => Nat.le_trans (h.2.2.2.1 j hj) tr.2.1, hq.2.2.2.2⟩
  | true =>
    refine ⟨g, fun j hj => ?_, fun i j hij hj => ?_, fun j hj => ?_, hq.2.2.2.2.1, hq.2.2.2.2.2.1, hq.2.2.2.2.2.2.1, ?_⟩
    · rcases psV_c (V := V) (w := w) hu hj with ⟨e, _⟩ | ⟨i, hi, e, _⟩
      · show GB (psV u V w j) (n + 1) t
        rw [e]; exact hq.1
      · show GB (psV u V w j) (n + 1) t
        rw [e]; exact hq.2.1 i hi
    · show psV u V w i 0 ≤ psV u V w j 0
      rcases psV_c (V := V) (w := w) hu hj with ⟨e, e2⟩ | ⟨i', hi', e, e3, e4⟩
      · rcases psV_c (V := V) (w := w) hu (Nat.lt_of_le_of_lt hij hj) with ⟨f, _⟩ | ⟨k, hk, f, _⟩
        · rw [e, f]; exact Nat.le_refl _
        · rw [e, f]; exact h.2.2.2.1 k hk
      · rcases psV_c (V := V) (w := w) hu (Nat.lt_of_le_of_lt hij hj) with ⟨f, f2⟩ | ⟨k, hk, f, f3, _⟩
        · omega
        · rw [e, f]
          exact h.2.2.1 k i' (by rw [e3, f3]; split <;> omega) hi'
    · show psV u V w j 0 ≤ w' 0
      rcases psV_c (V := V) (w := w) hu hj with ⟨e, _⟩ | ⟨i, hi, e, _⟩
      · rw [e]; exact tr.2.1
      · rw [e]; exact Nat.le_trans (h.2.2.2.1 i hi) tr.2.1
    · show (if 6 < u + 1 then 6 else u + 1) ≤ 6
      split <;> omega
theorem RS_mW {fi ai A : FI} {w lg : Nat → Nat} {u : Nat} {V : Nat → Nat → Nat} {im : Option ((Nat → Nat) × (Nat → Nat))} {tp : Nat → Nat} {t : Nat} {fl pl rs : Int32} {w' lg' : Nat → Nat} {u' : Nat} {V' : Nat → Nat → Nat} {f2 : FI} (h : RS fi ai w lg u V im tp t fl pl rs) (hf : ∀ f, f ≠ 32 * 11 + 4 → f2 f (rf 11 80) = fi f (rf 11 80)) (hu : f2 (32 * 11 + 4) (rf 11 80) = nI u') (hA : ∀ a, a ≠ rf 34 85 → a ≠ rf 33 84 → a ≠ rf 32 81 → A a = ai a) (hU : UR (A (rf 33 84)) u' V') (hC : CHG (A (rf 34 85)) lg' (w' 0)) : RS f2 (mW A w') w' lg' u' V' im tp t fl pl rs := by
  have e : ∀ a, a ≠ rf 32 81 → mW A w' a = A a := fun a ha => if_neg ha
  obtain ⟨r1, r2, r3, r4, r5, r6, r7, r8, r9, r10, r11, r12⟩ := h
  refine ⟨if_pos rfl, hu, (hf _ (by decide)).trans r3, (hf _ (by decide)).trans r4, fun i hi => ?_, ?_, ?_, fun q => (hf _ (by decide)).trans (r8 q), fun q hq => ?_, (hf _ (by decide)).trans r10, (hf _ (by decide)).trans r11, (hf _ (by decide)).trans r12⟩
  · rw [e _ (by decide), hA _ (by decide) (by decide) (by decide)]; exact r5 i hi
  · rw [e _ (by decide)]; exact hU
  · rw [e _ (by decide)]; exact hC
  · rw [e _ (by decide), e _ (by decide), hA (rf 32 83) (by decide) (by decide) (by decide), hA (rf 34 86) (by decide) (by decide) (by decide), hf _ (by decide)]
    exact r9 q hq
/-- behind a call of the reference: the class's side is as before -/
theorem LS_mk {f1 f2 a1 a2 : FI} {fr ar : FR} {N n : Nat} {w lg : Nat → Nat} {u : Nat} {V : Nat → Nat → Nat} {im : Option ((Nat → Nat) × (Nat → Nat))} {tp : Nat → Nat} {t : Nat} {fl pl rs : Int32} (cs : CLS f1 fr a1 ar N w lg (w 0) u V im) (ts : TS f1 a1 tp t fl pl rs) (hf : ∀ f r, r / 64 ≠ 80 → f2 f r = f1 f r) (ha : ∀ a, (a / 64 < 80 ∨ 89 ≤ a / 64) → a2 a = a1 a) (r : RS f2 a2 w lg u V im tp t fl pl rs) (p : PG n w u V im tp t) : LSt f2 fr a2 ar N n :=
  ⟨w, lg, u, V, im, tp, t, fl, pl, rs, CLS_80 cs (iv_mm p.1.1.1) (fun f r hr => hf f r (by omega)) (fun a hr => ha a hr), TS_fx ts (fun f r hr => hf f r (by omega)) (fun a hr => ha a (by omega)), r, p⟩
theorem mW_80 {A a1 : FI} {w : Nat → Nat} (h : ∀ a, (a / 64 < 80 ∨ 89 ≤ a / 64) → A a = a1 a) : ∀ a, (a / 64 < 80 ∨ 89 ≤ a / 64) → mW A w a = a1 a := fun a ha => by
  show (if a = rf 32 81 then _ else A a) = _
  rw [if_neg (fun e => by rw [e, rf_div (by decide)] at ha; omega)]
  exact h a ha
theorem forF_80 {f1 : FI} {b : Bool} : ∀ f r, r / 64 ≠ 80 → (if b then forF f1 false else f1) f r = f1 f r := fun f r hr => by
  cases b with
  | false => rfl
  | true => exact up2_n _ _ (fun e => hr (by rw [e.2, rf_div (by decide)]))
theorem actF_80 {f1 : FI} {b : Bool} {u : Nat} : ∀ f r, r / 64 ≠ 80 → (if b then actF f1 u false else f1) f r = f1 f r := fun f r hr => by
  cases b with
  | false => rfl
  | true => exact up2_n _ _ (fun e => hr (by rw [e.2, rf_div (by decide)]))
theorem LS_q {fi ai f1 a1 : FI} {fr ar : FR} {N n : Nat} {w lg : Nat → Nat} {u : Nat} {V : Nat → Nat → Nat} {im : Option ((Nat → Nat) × (Nat → Nat))} {tp : Nat → Nat} {t : Nat} {fl pl rs : Int32} (cs : CLS f1 fr a1 ar N w lg (w 0) u V im) (fx : FX fi ai f1 a1) (ts : TS fi ai tp t fl pl rs) (r : RS fi ai w lg u V im tp t fl pl rs) (p : PG n w u V im tp t) : LSt f1 fr a1 ar N (n + 1) :=
  ⟨w, lg, u, V, im, tp, t, fl, pl, rs, cs, TS_fx ts (fun f r hr => fx.1 f r (by omega)) (fun a hr => fx.2 a (by omega)), RS_fx r (fun f r x y => fx.1 f r (by omega)) (fun a x y => fx.2 a (by omega)), PG_q p⟩
theorem LS_nx {f1 a1 : FI} {fr ar : FR} {N n : Nat} {w lg : Nat → Nat} {u : Nat} {V : Nat → Nat → Nat} {im : Option ((Nat → Nat) × (Nat → Nat))} {tp : Nat → Nat} {t : Nat} {fl pl rs : Int32} {a b c : Int32} {a2 : FI} (cs : CLS f1 fr a1 ar N w lg (w 0) u V im) (ts : TS f1 a1 tp t fl pl rs) (r : RS f1 a1 w lg u V im tp t fl pl rs) (p : PG n w u V im tp t) (ha : a2 = a1 ∨ ∃ g h, a2 = mW (sA (sA a1 (rf 32 82) g) (rf 34 85) h) w ∧ ∀ i, i < 3 * (w 0 + 1) → h i = a1 (rf 34 85) i) : LSt (nxH f1 a b c) fr a2 ar N n := by
  have hf : ∀ f r, r / 64 ≠ 80 → nxH f1 a b c f r = f1 f r := fun f r hr => by
    unfold nxH
    rw [up2_n _ _ (fun e => hr (by rw [e.2, rf_div (by decide)])), up2_n _ _ (fun e => hr (by rw [e.2, rf_div (by decide)])), up2_n _ _ (fun e => hr (by rw [e.2, rf_div (by decide)]))]
  have hg : ∀ f, f < 32 * 11 + 18 → nxH f1 a b c f (rf 11 80) = f1 f (rf 11 80) := fun f hq => by
    unfold nxH
    rw [up2_n _ _ (fun e => by have := e.1; omega), up2_n _ _ (fun e => by have := e.1; omega), up2_n _ _ (fun e => by have := e.1; omega)]
  have hr : ∀ A, (∀ a, a ≠ rf 32 82 → a ≠ rf 34 85 → A a = a1 a) → CHG (A (rf 34 85)) lg (w 0) → RS (nxH f1 a b c) A w lg u V im tp t fl pl rs := fun A hA hC => by
    unfold RS
    rw [hg _ (by decide), hg _ (by decide), hg _ (by decide), hg _ (by decide), hg _ (by decide), hg _ (by decide), hg _ (by decide), hA (rf 32 81) (by decide) (by decide), hA (rf 35 87) (by decide) (by decide), hA (rf 33 84) (by decide) (by decide), hA (rf 32 83) (by decide) (by decide), hA (rf 34 86) (by decide) (by decide)]
    exact ⟨r.1, r.2.1, r.2.2.1, r.2.2.2.1, r.2.2.2.2.1, r.2.2.2.2.2.1, hC, r.2.2.2.2.2.2.2⟩
  rcases ha with rfl | ⟨g, h, rfl, hh⟩
  · exact LS_mk cs ts hf (fun _ _ => rfl) (hr _ (fun _ _ _ => rfl) r.2.2.2.2.2.2.1) p
  · have e : ∀ a, a ≠ rf 32 82 → a ≠ rf 34 85 → mW (sA (sA a1 (rf 32 82) g) (rf 34 85) h) w a = a1 a := fun a x y => by
      unfold mW
      by_cases e : a = rf 32 81
      · rw [if_pos e, e, r.1]
      · rw [if_neg e, sA_o y, sA_o x]
    refine LS_mk cs ts hf (fun a hq => e a (fun q => by rw [q, rf_div (by decide)] at hq; omega) (fun q => by rw [q, rf_div (by decide)] at hq; omega)) (hr _ e ?_) p
    have e2 : mW (sA (sA a1 (rf 32 82) g) (rf 34 85) h) w (rf 34 85) = h := by
      show (if rf 34 85 = rf 32 81 then _ else _) = _
      rw [if_neg (by decide)]
      exact sA_s _ _ _
    rw [e2]
    have hC := r.2.2.2.2.2.2.1
    exact ⟨hC.1, fun x p1 p2 => by rw [hh _ (by omega), hh _ (by omega), hh _ (by omega)]; exact hC.2 x p1 p2⟩
theorem LS_for {fi ai f1 a1 : FI} {fr ar : FR} {N n : Nat} {w lg : Nat → Nat} {u : Nat} {V : Nat → Nat → Nat} {im : Option ((Nat → Nat) × (Nat → Nat))} {tp : Nat → Nat} {t : Nat} {fl pl rs : Int32} {w' : Nat → Nat} {b : Bool} (cs : CLS f1 fr a1 ar N w' lg (w 0) (if b then 0 else u) V im) (fx : FX fi ai f1 a1) (ts : TS fi ai tp t fl pl rs) (r : RS fi ai w lg u V im tp t fl pl rs) (p : PG n w u V im tp t) {m : Nat} (tr : TR w w' 0 m) (hm : m ≤ 130) : LSt (if b then forF f1 false else f1) fr (mW a1 w') ar N (n + 1) := by
  have r1 := RS_fx r (fun f r x y => fx.1 f r (by omega)) (fun a x y => fx.2 a (by omega)) (f1 := f1) (a1 := a1)
  have e0 : w' 0 = w 0 := Nat.le_antisymm tr.2.2.1 tr.2.1
  refine LS_mk (by rw [e0]; exact cs) (TS_fx ts (fun f r hr => fx.1 f r (by omega)) (fun a hr => fx.2 a (by omega))) forF_80 (mW_80 (fun _ _ => rfl)) (RS_mW r1 (fun f hf => ?_) ?_ (fun a _ _ _ => rfl) ?_ (by rw [e0]; exact r1.2.2.2.2.2.2.1)) (PG_u0 p (TR_up tr (by decide) hm))
  · cases b with
    | false => rfl
    | true => exact up2_n _ _ (fun e => hf e.1)
  · cases b with
    | false => exact r1.2.1
    | true => exact up2_s f1 (32 * 11 + 4) (rf 11 80) (nI 0)
  · cases b with
    | false => exact r1.2.2.2.2.2.1
    | true => exact fun j k hj _ => absurd hj (Nat.not_lt_zero j)
theorem LS_act {fi ai f1 a1 A : FI} {fr ar : FR} {N n E : Nat} {w lg : Nat → Nat} {u : Nat} {V : Nat → Nat → Nat} {im : Option ((Nat → Nat) × (Nat → Nat))} {tp : Nat → Nat} {t : Nat} {fl pl rs : Int32} {w' lg' : Nat → Nat} {b : Bool} (cs : CLS f1 fr a1 ar N w' lg' E (acU b u) (acV b u V w) im) (hE : w' 0 ≤ E) (fx : FX fi ai f1 a1) (ts : TS fi ai tp t fl pl rs) (r : RS fi ai w lg u V im tp t fl pl rs) (p : PG n w u V im tp t) {e m : Nat} (tr : TR w w' e m) (he : e ≤ 1) (hm : m ≤ 130) (hA : ∀ a, a ≠ rf 34 85 → A a = if b then actA a1 u false w a else a1 a) (hC : CHG (A (rf 34 85)) lg' (w' 0)) : LSt (if b then actF f1 u false else f1) fr (mW A w') ar N (n + 1) := by
  have r1 := RS_fx r (fun f r x y => fx.1 f r (by omega)) (fun a x y => fx.2 a (by omega)) (f1 := f1) (a1 := a1)
  have hu := p.2.2.2.2.2.2.2
  refine LS_mk (CLS_E cs hE) (TS_fx ts (fun f r hr => fx.1 f r (by omega)) (fun a hr => fx.2 a (by omega))) actF_80 (mW_80 (fun a ha => ?_)) (RS_mW r1 (fun f hf => ?_) ?_ (fun a h1 h2 h3 => ?_) ?_ hC) (PG_act p (TR_up tr he hm))
  · rw [hA a (fun q => by rw [q, rf_div (by decide)] at ha; omega)]
    cases b with
    | false => rfl
    | true =>
      show actA a1 u false w a = a1 a
      exact actA_o (fun q => by rw [q, rf_div (by decide)] at ha; omega)
  · cases b with
    | false => rfl
    | true => exact up2_n _ _ (fun e => hf e.1)
  · cases b with
    | false => exact r1.2.1
    | true =>
      refine (up2_s f1 (32 * 11 + 4) (rf 11 80) (nI (u1 u))).trans ?_
      rw [u1_e hu]
      rfl
  · rw [hA a h1]
    cases b with
    | false => rfl
    | true =>
      show actA a1 u false w a = a1 a
      exact actA_o h2
  · rw [hA _ (by decide)]
    cases b with
    | false => exact r1.2.2.2.2.2.1
    | true =>
      show UR ((sA a1 (rf 33 84) (reU (a1 (rf 33 84)) u (fun i => nI (w i)))) (rf 33 84)) _ _
      rw [sA_s]
      exact UR_push r1.2.2.2.2.2.1 hu (fun k _ => rfl)
