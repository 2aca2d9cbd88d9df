-- the class: its cells against the reference's row w
def TBL (fr : FR) (t : Nat) : Prop := fr (32 * 8 + 0) (rf 8 t) = some (rf 16 (t + 1)) ∧ fr (32 * 8 + 1) (rf 8 t) = some (rf 16 (t + 2)) ∧ fr (32 * 8 + 2) (rf 8 t) = some (rf 16 (t + 3))
def TBR (fi ai : FI) (t n e : Nat) (lo ow ep : Nat → Nat) : Prop := fi (32 * 8 + 3) (rf 8 t) = nI n ∧ fi (32 * 8 + 4) (rf 8 t) = nI e ∧ ∀ i, i < n → ai (rf 16 (t + 1)) i = nI (lo i) ∧ ai (rf 16 (t + 2)) i = nI (ow i) ∧ ai (rf 16 (t + 3)) i = nI (ep i)
def fD (f : Nat) : Nat := match f with
  | 1 => 6 | 2 => 0 | 3 => 1 | 4 => 2 | 5 => 3 | 6 => 4 | 7 => 5 | 8 => 7 | 9 => 8 | 10 => 9 | 11 => 10 | 12 => 11
  | _ => 0
def MVR (fi ai : FI) (p : Nat) (v : Nat → Nat) : Prop := (∀ f, 1 ≤ f → f ≤ 12 → fi (32 * 4 + f) (rf 4 p) = nI (v (fD f))) ∧ ∀ i, i < v 6 → ai (rf 17 (p + 1)) i = nI (v (12 + i))
def mrow (w : Nat → Nat) (m : Nat) : Nat → Nat := fun d => w (7694 + 72 * m + d)
def WL (fr ar : FR) (b : Nat) : Prop :=
  fr (32 * 9 + 0) (rf 9 b) = some (rf 18 (b + 1)) ∧ fr (32 * 9 + 1) (rf 9 b) = some (rf 19 (b + 2)) ∧ fr (32 * 9 + 2) (rf 9 b) = some (rf 8 (b + 3)) ∧ fr (32 * 9 + 3) (rf 9 b) = some (rf 20 (b + 7)) ∧ fr (32 * 9 + 4) (rf 9 b) = some (rf 21 (b + 8)) ∧ TBL fr (b + 3) ∧
  (∀ c, c < 6 → ar (rf 20 (b + 7)) c = some (rf 8 (b + 9 + 4 * c)) ∧ TBL fr (b + 9 + 4 * c)) ∧
  (∀ m, m < 12 → ar (rf 21 (b + 8)) m = some (rf 4 (b + 33 + 2 * m)) ∧ fr (32 * 4 + 0) (rf 4 (b + 33 + 2 * m)) = some (rf 17 (b + 33 + 2 * m + 1)))
def KW (b : Nat) (fi ai : FI) (w : Nat → Nat) : Prop :=
  (∀ i, i < 6000 → ai (rf 18 (b + 1)) i = nI (w (1106 + i))) ∧ (∀ k, k < 1000 → ai (rf 19 (b + 2)) k = nI (w (106 + k))) ∧
  TBR fi ai (b + 3) (w 1) (w 0) (fun i => w (10 + i)) (fun i => w (42 + i)) (fun i => w (74 + i)) ∧
  (∀ c, c < 6 → TBR fi ai (b + 9 + 4 * c) (w (7106 + 98 * c + 1)) (w (7106 + 98 * c + 0)) (fun i => w (7106 + 98 * c + 2 + i)) (fun i => w (7106 + 98 * c + 34 + i)) (fun i => w (7106 + 98 * c + 66 + i))) ∧
  (∀ m, m < w 3 → MVR fi ai (b + 33 + 2 * m) (mrow w m)) ∧
  fi (32 * 9 + 5) (rf 9 b) = nI (w 3) ∧ fi (32 * 9 + 6) (rf 9 b) = nI (ubF w 6) ∧ fi (32 * 9 + 7) (rf 9 b) = nI (w 2)
def LL (fr : FR) (b : Nat) : Prop := fr (32 * 3 + 0) (rf 3 b) = some (rf 22 (b + 1)) ∧ fr (32 * 3 + 1) (rf 3 b) = some (rf 23 (b + 2)) ∧ fr (32 * 3 + 2) (rf 3 b) = some (rf 23 (b + 3)) ∧ fr (32 * 3 + 3) (rf 3 b) = some (rf 23 (b + 4)) ∧ fr (32 * 3 + 4) (rf 3 b) = some (rf 23 (b + 5)) ∧ fr (32 * 3 + 5) (rf 3 b) = some (rf 24 (b + 6))
def LGR (b : Nat) (ai : FI) (w lg : Nat → Nat) (E : Nat) : Prop :=
  (∀ j, j < 15 → ai (rf 22 (b + 1)) j = nI (w (8558 + j))) ∧
  (∀ c, c < 6 → ai (rf 23 (b + 2)) c = nI (w (8573 + 4 * c)) ∧ ai (rf 23 (b + 3)) c = nI (w (8573 + 4 * c + 1)) ∧ ai (rf 23 (b + 4)) c = nI (w (8573 + 4 * c + 2)) ∧ ai (rf 23 (b + 5)) c = nI (w (8573 + 4 * c + 3))) ∧
  (∀ e, 1 ≤ e → e ≤ E → ai (rf 24 (b + 6)) e = nI (lg e))
def K (fi ai : FI) (w lg : Nat → Nat) (E : Nat) : Prop := KW 1 fi ai w ∧ LGR 58 ai w lg E ∧ ai (rf 25 66) 0 = nI 0
/-- the class's own fixed objects -/
def CM (fr ar : FR) : Prop := WL fr ar 1 ∧ LL fr 58 ∧
  (fr (32 * 6 + 0) (rf 6 65) = some (rf 25 66) ∧ fr (32 * 6 + 1) (rf 6 65) = some (rf 26 67) ∧ fr (32 * 6 + 2) (rf 6 65) = some (rf 16 68) ∧ fr (32 * 6 + 3) (rf 6 65) = some (rf 27 69) ∧ fr (32 * 6 + 4) (rf 6 65) = some (rf 23 70)) ∧
  (fr (32 * 1 + 0) (rf 1 71) = some (rf 9 1) ∧ fr (32 * 1 + 1) (rf 1 71) = some (rf 3 58)) ∧
  (fr (32 * 2 + 0) (rf 2 72) = some (rf 9 1) ∧ fr (32 * 2 + 1) (rf 2 72) = some (rf 3 58) ∧ fr (32 * 2 + 2) (rf 2 72) = some (rf 6 65)) ∧
  (fr (32 * 5 + 0) (rf 5 73) = some (rf 9 1) ∧ fr (32 * 5 + 1) (rf 5 73) = some (rf 3 58)) ∧
  (fr (32 * 0 + 0) (rf 0 74) = some (rf 28 75)) ∧
  (fr (32 * 7 + 0) (rf 7 76) = some (rf 29 77) ∧ fr (32 * 7 + 1) (rf 7 76) = some (rf 30 78) ∧ fr (32 * 7 + 2) (rf 7 76) = some (rf 31 79)) ∧
  (fr (32 * 10 + 0) (rf 10 0) = some (rf 9 1) ∧ fr (32 * 10 + 1) (rf 10 0) = some (rf 3 58) ∧ fr (32 * 10 + 2) (rf 10 0) = some (rf 1 71) ∧ fr (32 * 10 + 3) (rf 10 0) = some (rf 2 72) ∧ fr (32 * 10 + 4) (rf 10 0) = some (rf 5 73) ∧ fr (32 * 10 + 5) (rf 10 0) = some (rf 6 65) ∧ fr (32 * 10 + 6) (rf 10 0) = some (rf 0 74) ∧ fr (32 * 10 + 7) (rf 10 0) = some (rf 7 76))
/-- outside the cells 1 .. 70 nothing changed -/
def FR1 (fi ai fi' ai' : FI) : Prop := (∀ f r, 71 ≤ r / 64 ∨ r / 64 = 0 → fi' f r = fi f r) ∧ ∀ a, 71 ≤ a / 64 ∨ a / 64 = 0 → ai' a = ai a
theorem FR1_rf {fi ai : FI} : FR1 fi ai fi ai := ⟨fun _ _ _ => rfl, fun _ _ => rfl⟩
theorem FR1_tr {a b c d e f : FI} (h : FR1 a b c d) (g : FR1 c d e f) : FR1 a b e f := ⟨fun q r hr => (g.1 q r hr).trans (h.1 q r hr), fun q hq => (g.2 q hq).trans (h.2 q hq)⟩
theorem FR1_f {a b fi ai : FI} {f κ n : Nat} {x : Int32} (h : FR1 a b fi ai) (hκ : κ < 64) (hn : 1 ≤ n ∧ n ≤ 70) : FR1 a b (up2 fi f (rf κ n) x) ai := ⟨fun q r hr => by
  rw [up2_n _ _ (fun e => by rw [e.2, rf_div hκ] at hr; omega)]; exact h.1 q r hr, h.2⟩
theorem FR1_a {a b fi ai : FI} {j κ n : Nat} {x : Int32} (h : FR1 a b fi ai) (hκ : κ < 64) (hn : 1 ≤ n ∧ n ≤ 70) : FR1 a b fi (up2 ai (rf κ n) j x) := ⟨h.1, fun q hq => by
  rw [up2_o _ _ (fun e => by rw [e, rf_div hκ] at hq; omega)]; exact h.2 q hq⟩
/-- what a method that changes the world answers -/
def kQ (r : Option Value) (fi : FI) (fr : FR) (ai : FI) (ar : FR) (N : Nat) (P : FI → FI → Prop) : EQ := fun r1 fi1 fr1 ai1 ar1 N1 => r1 = r ∧ fr1 = fr ∧ ar1 = ar ∧ N1 = N ∧ FR1 fi ai fi1 ai1 ∧ P fi1 ai1
theorem kq {r1 r : Option Value} {fi fi1 : FI} {fr : FR} {ai ai1 : FI} {ar : FR} {N : Nat} {P : FI → FI → Prop} (h : r1 = r) (hF : FR1 fi ai fi1 ai1) (hP : P fi1 ai1) : kQ r fi fr ai ar N P r1 fi1 fr ai1 ar N := ⟨h, rfl, rfl, rfl, hF, hP⟩
theorem TBR_fr {fi fi' ai ai' : FI} {t n e : Nat} {lo ow ep : Nat → Nat} (hf : ∀ f, fi' f (rf 8 t) = fi f (rf 8 t)) (h1 : ai' (rf 16 (t + 1)) = ai (rf 16 (t + 1))) (h2 : ai' (rf 16 (t + 2)) = ai (rf 16 (t + 2))) (h3 : ai' (rf 16 (t + 3)) = ai (rf 16 (t + 3))) (h : TBR fi ai t n e lo ow ep) : TBR fi' ai' t n e lo ow ep := by
  unfold TBR
  rw [hf, hf, h1, h2, h3]
  exact h
theorem MVR_fr {fi fi' ai ai' : FI} {p : Nat} {v : Nat → Nat} (hf : ∀ f, fi' f (rf 4 p) = fi f (rf 4 p)) (h1 : ai' (rf 17 (p + 1)) = ai (rf 17 (p + 1))) (h : MVR fi ai p v) : MVR fi' ai' p v := by
  unfold MVR
  rw [h1]
  exact ⟨fun f a b => by rw [hf]; exact h.1 f a b, h.2⟩
theorem KW_fr {fi fi' ai ai' : FI} {w : Nat → Nat} {b : Nat} (h3 : w 3 ≤ 12) (hf : ∀ f r, b ≤ r / 64 → r / 64 < b + 57 → fi' f r = fi f r) (ha : ∀ a, b ≤ a / 64 → a / 64 < b + 57 → ai' a = ai a) (h : KW b fi ai w) : KW b fi' ai' w := by
  have hf2 : ∀ f κ n, κ < 64 → b ≤ n → n < b + 57 → fi' f (rf κ n) = fi f (rf κ n) := fun f κ n hκ a c => hf f _ (by rw [rf_div hκ]; exact a) (by rw [rf_div hκ]; exact c)
  have ha2 : ∀ κ n, κ < 64 → b ≤ n → n < b + 57 → ai' (rf κ n) = ai (rf κ n) := fun κ n hκ a c => ha _ (by rw [rf_div hκ]; exact a) (by rw [rf_div hκ]; exact c)
  obtain ⟨v1, v2, v3, v4, v5, v6, v7, v8⟩ := h
  refine ⟨?_, ?_, ?_, fun c hc => ?_, fun m hm => ?_, ?_, ?_, ?_⟩
  · rw [ha2 18 _ (by decide) (by omega) (by omega)]; exact v1
  · rw [ha2 19 _ (by decide) (by omega) (by omega)]; exact v2
  · exact TBR_fr (fun f => hf2 f 8 _ (by decide) (by omega) (by omega)) (ha2 16 _ (by decide) (by omega) (by omega)) (ha2 16 _ (by decide) (by omega) (by omega)) (ha2 16 _ (by decide) (by omega) (by omega)) v3
  · exact TBR_fr (fun f => hf2 f 8 _ (by decide) (by omega) (by omega)) (ha2 16 _ (by decide) (by omega) (by omega)) (ha2 16 _ (by decide) (by omega) (by omega)) (ha2 16 _ (by decide) (by omega) (by omega)) (v4 c hc)
  · exact MVR_fr (fun f => hf2 f 4 _ (by decide) (by omega) (by omega)) (ha2 17 _ (by decide) (by omega) (by omega)) (v5 m hm)
  · rw [hf2 _ 9 _ (by decide) (by omega) (by omega)]; exact v6
  · rw [hf2 _ 9 _ (by decide) (by omega) (by omega)]; exact v7
  · rw [hf2 _ 9 _ (by decide) (by omega) (by omega)]; exact v8
theorem LGR_fr {ai ai' : FI} {w lg : Nat → Nat} {b E : Nat} (ha : ∀ a, b ≤ a / 64 → a / 64 < b + 7 → ai' a = ai a) (h : LGR b ai w lg E) : LGR b ai' w lg E := by
  have ha2 : ∀ κ n, κ < 64 → b ≤ n → n < b + 7 → ai' (rf κ n) = ai (rf κ n) := fun κ n hκ a c => ha _ (by rw [rf_div hκ]; exact a) (by rw [rf_div hκ]; exact c)
  unfold LGR
  rw [ha2 22 _ (by decide) (by omega) (by omega), ha2 23 _ (by decide) (by omega) (by omega), ha2 23 _ (by decide) (by omega) (by omega), ha2 23 _ (by decide) (by omega) (by omega), ha2 23 _ (by decide) (by omega) (by omega), ha2 24 _ (by decide) (by omega) (by omega)]
  exact h
theorem K_fr {fi fi' ai ai' : FI} {w lg : Nat → Nat} {E : Nat} (h3 : w 3 ≤ 12) (hf : ∀ f r, 1 ≤ r / 64 → r / 64 ≤ 70 → fi' f r = fi f r) (ha : ∀ a, 1 ≤ a / 64 → a / 64 ≤ 70 → ai' a = ai a) (h : K fi ai w lg E) : K fi' ai' w lg E :=
  ⟨KW_fr h3 (fun f r a b => hf f r a (by omega)) (fun q a b => ha q a (by omega)) h.1, LGR_fr (fun q a b => ha q (by omega) (by omega)) h.2.1, by rw [ha _ (by rw [rf_div (by decide)]; omega) (by rw [rf_div (by decide)]; omega)]; exact h.2.2⟩
def live (w : Nat → Nat) (q : Nat) : Prop := q < 10 ∨ (10 ≤ q ∧ q < 10 + w 1) ∨ (42 ≤ q ∧ q < 42 + w 1) ∨ (74 ≤ q ∧ q < 74 + w 1) ∨ (106 ≤ q ∧ q < 7106) ∨
  (∃ c, c < 6 ∧ (q = 7106 + 98 * c + 0 ∨ q = 7106 + 98 * c + 1 ∨ (∃ i, i < w (7106 + 98 * c + 1) ∧ (q = 7106 + 98 * c + 2 + i ∨ q = 7106 + 98 * c + 34 + i ∨ q = 7106 + 98 * c + 66 + i)))) ∨
  (∃ m, m < w 3 ∧ ((∃ d, d < 12 ∧ q = 7694 + 72 * m + d) ∨ (∃ i, i < w (7694 + 72 * m + 6) ∧ q = 7694 + 72 * m + 12 + i)))
theorem ubF_fr {w w' : Nat → Nat} (h : ∀ s, s < 6 → w' (4 + s) = w (4 + s)) : ∀ n, n ≤ 6 → ubF w' n = ubF w n
  | 0, _ => rfl
  | n + 1, hn => by
    have := ubF_fr h n (by omega)
    unfold ubF at this ⊢
    rw [rs_s, rs_s, this, Nat.zero_add, h n (by omega)]
theorem fD_lt (f : Nat) : fD f < 12 := by unfold fD; split <;> decide
theorem KW_cg {fi ai : FI} {w w' : Nat → Nat} {b : Nat} (hl : ∀ q, live w q → w' q = w q) (h : KW b fi ai w) : KW b fi ai w' := by
  obtain ⟨v1, v2, v3, v4, v5, v6, v7, v8⟩ := h
  have e : ∀ q, q < 10 → w' q = w q := fun q hq => hl q (Or.inl hq)
  have ev : ∀ q, 106 ≤ q → q < 7106 → w' q = w q := fun q a c => hl q (Or.inr (Or.inr (Or.inr (Or.inr (Or.inl ⟨a, c⟩)))))
  have ec : ∀ c, c < 6 → ∀ d, d < 2 → w' (7106 + 98 * c + d) = w (7106 + 98 * c + d) := fun c hc d hd => hl _ (Or.inr (Or.inr (Or.inr (Or.inr (Or.inr (Or.inl ⟨c, hc, by
    rcases (show d = 0 ∨ d = 1 by omega) with rfl | rfl
    · exact Or.inl rfl
    · exact Or.inr (Or.inl rfl)⟩))))))
  have ei : ∀ c, c < 6 → ∀ i, i < w (7106 + 98 * c + 1) → ∀ q, (q = 7106 + 98 * c + 2 + i ∨ q = 7106 + 98 * c + 34 + i ∨ q = 7106 + 98 * c + 66 + i) → w' q = w q := fun c hc i hi q hq => hl _ (Or.inr (Or.inr (Or.inr (Or.inr (Or.inr (Or.inl ⟨c, hc, Or.inr (Or.inr ⟨i, hi, hq⟩)⟩))))))
  have em : ∀ m, m < w 3 → ∀ d, d < 12 → w' (7694 + 72 * m + d) = w (7694 + 72 * m + d) := fun m hm d hd => hl _ (Or.inr (Or.inr (Or.inr (Or.inr (Or.inr (Or.inr ⟨m, hm, Or.inl ⟨d, hd, rfl⟩⟩))))))
  have et : ∀ m, m < w 3 → ∀ i, i < w (7694 + 72 * m + 6) → w' (7694 + 72 * m + 12 + i) = w (7694 + 72 * m + 12 + i) := fun m hm i hi => hl _ (Or.inr (Or.inr (Or.inr (Or.inr (Or.inr (Or.inr ⟨m, hm, Or.inr ⟨i, hi, rfl⟩⟩))))))
  refine ⟨fun i hi => ?_, fun k hk => ?_, ?_, fun c hc => ?_, fun m hm => ?_, ?_, ?_, ?_⟩
  · rw [ev _ (by omega) (by omega)]; exact v1 i hi
  · rw [ev _ (by omega) (by omega)]; exact v2 k hk
  · unfold TBR
    rw [e 1 (by omega), e 0 (by omega)]
    refine ⟨v3.1, v3.2.1, fun i hi => ?_⟩
    show ai _ i = nI (w' (10 + i)) ∧ ai _ i = nI (w' (42 + i)) ∧ ai _ i = nI (w' (74 + i))
    rw [hl (10 + i) (Or.inr (Or.inl (by omega))), hl (42 + i) (Or.inr (Or.inr (Or.inl (by omega)))), hl (74 + i) (Or.inr (Or.inr (Or.inr (Or.inl (by omega)))))]
    exact v3.2.2 i hi
  · have g := v4 c hc
    unfold TBR
    rw [ec c hc 1 (by omega), ec c hc 0 (by omega)]
    refine ⟨g.1, g.2.1, fun i hi => ?_⟩
    show ai _ i = nI (w' (7106 + 98 * c + 2 + i)) ∧ ai _ i = nI (w' (7106 + 98 * c + 34 + i)) ∧ ai _ i = nI (w' (7106 + 98 * c + 66 + i))
    rw [ei c hc i hi _ (Or.inl rfl), ei c hc i hi _ (Or.inr (Or.inl rfl)), ei c hc i hi _ (Or.inr (Or.inr rfl))]
    exact g.2.2 i hi
  · rw [e 3 (by omega)] at hm
    have g := v5 m hm
    refine ⟨fun f a c => ?_, fun i hi => ?_⟩
    · show fi _ _ = nI (w' (7694 + 72 * m + fD f))
      rw [em m hm _ (fD_lt f)]
      exact g.1 f a c
    · have hi2 : i < w (7694 + 72 * m + 6) := by rw [← em m hm 6 (by omega)]; exact hi
      show ai _ i = nI (w' (7694 + 72 * m + (12 + i)))
      rw [← Nat.add_assoc, et m hm i hi2, Nat.add_assoc (7694 + 72 * m)]
      exact g.2 i hi2
  · rw [e 3 (by omega)]; exact v6
  · rw [ubF_fr (fun s hs => e (4 + s) (by omega)) 6 (Nat.le_refl 6)]; exact v7
  · rw [e 2 (by omega)]; exact v8
theorem K_cg {fi ai : FI} {w w' lg lg' : Nat → Nat} {E E' : Nat} (hl : ∀ q, live w q ∨ (8558 ≤ q ∧ q < 8597) → w' q = w q) (hE : E' ≤ E) (hg : ∀ e, 1 ≤ e → e ≤ E' → lg' e = lg e) (h : K fi ai w lg E) : K fi ai w' lg' E' := by
  obtain ⟨h1, ⟨v1, v2, v3⟩, h3⟩ := h
  have el : ∀ q, 8558 ≤ q → q < 8597 → w' q = w q := fun q a c => hl q (Or.inr ⟨a, c⟩)
  refine ⟨KW_cg (fun q hq => hl q (Or.inl hq)) h1, ⟨fun j hj => ?_, fun c hc => ?_, fun e a c => ?_⟩, h3⟩
  · rw [el _ (by omega) (by omega)]; exact v1 j hj
  · rw [el _ (by omega) (by omega), el (8573 + 4 * c + 1) (by omega) (by omega), el (8573 + 4 * c + 2) (by omega) (by omega), el (8573 + 4 * c + 3) (by omega) (by omega)]; exact v2 c hc
  · rw [hg e a c]; exact v3 e a (by omega)
theorem K_eq {fi ai : FI} {w w' lg : Nat → Nat} {E : Nat} (h : K fi ai w lg E) (e : w = w') : K fi ai w' lg E := e ▸ h
theorem k_n {fi ai : FI} {w lg : Nat → Nat} {E : Nat} (h : K fi ai w lg E)  : fi (32 * 8 + 3) (rf 8 4) = nI (w 1) := h.1.2.2.1.1
theorem k_e {fi ai : FI} {w lg : Nat → Nat} {E : Nat} (h : K fi ai w lg E)  : fi (32 * 8 + 4) (rf 8 4) = nI (w 0) := h.1.2.2.1.2.1
theorem k_lo {fi ai : FI} {w lg : Nat → Nat} {E : Nat} (h : K fi ai w lg E) {i : Nat} (hi : i < w 1) : ai (rf 16 5) i = nI (w (10 + i)) := (h.1.2.2.1.2.2 i hi).1
theorem k_ow {fi ai : FI} {w lg : Nat → Nat} {E : Nat} (h : K fi ai w lg E) {i : Nat} (hi : i < w 1) : ai (rf 16 6) i = nI (w (42 + i)) := (h.1.2.2.1.2.2 i hi).2.1
theorem k_ep {fi ai : FI} {w lg : Nat → Nat} {E : Nat} (h : K fi ai w lg E) {i : Nat} (hi : i < w 1) : ai (rf 16 7) i = nI (w (74 + i)) := (h.1.2.2.1.2.2 i hi).2.2
theorem k_cn {fi ai : FI} {w lg : Nat → Nat} {E : Nat} (h : K fi ai w lg E) {c : Nat} (hc : c < 6) : fi (32 * 8 + 3) (rf 8 (10 + 4 * c)) = nI (w (7106 + 98 * c + 1)) := (h.1.2.2.2.1 c hc).1
theorem k_ce {fi ai : FI} {w lg : Nat → Nat} {E : Nat} (h : K fi ai w lg E) {c : Nat} (hc : c < 6) : fi (32 * 8 + 4) (rf 8 (10 + 4 * c)) = nI (w (7106 + 98 * c + 0)) := (h.1.2.2.2.1 c hc).2.1
theorem k_clo {fi ai : FI} {w lg : Nat → Nat} {E : Nat} (h : K fi ai w lg E) {c i : Nat} (hc : c < 6) (hi : i < w (7106 + 98 * c + 1)) : ai (rf 16 (10 + 4 * c + 1)) i = nI (w (7106 + 98 * c + 2 + i)) := ((h.1.2.2.2.1 c hc).2.2 i hi).1
theorem k_cow {fi ai : FI} {w lg : Nat → Nat} {E : Nat} (h : K fi ai w lg E) {c i : Nat} (hc : c < 6) (hi : i < w (7106 + 98 * c + 1)) : ai (rf 16 (10 + 4 * c + 2)) i = nI (w (7106 + 98 * c + 34 + i)) := ((h.1.2.2.2.1 c hc).2.2 i hi).2.1
theorem k_cep {fi ai : FI} {w lg : Nat → Nat} {E : Nat} (h : K fi ai w lg E) {c i : Nat} (hc : c < 6) (hi : i < w (7106 + 98 * c + 1)) : ai (rf 16 (10 + 4 * c + 3)) i = nI (w (7106 + 98 * c + 66 + i)) := ((h.1.2.2.2.1 c hc).2.2 i hi).2.2
theorem k_val {fi ai : FI} {w lg : Nat → Nat} {E : Nat} (h : K fi ai w lg E) {i : Nat} (hi : i < 6000) : ai (rf 18 2) i = nI (w (1106 + i)) := h.1.1 i hi
theorem k_wt {fi ai : FI} {w lg : Nat → Nat} {E : Nat} (h : K fi ai w lg E) {i : Nat} (hi : i < 1000) : ai (rf 19 3) i = nI (w (106 + i)) := h.1.2.1 i hi
theorem k_mm {fi ai : FI} {w lg : Nat → Nat} {E : Nat} (h : K fi ai w lg E)  : fi (32 * 9 + 5) (rf 9 1) = nI (w 3) := h.1.2.2.2.2.2.1
theorem k_up {fi ai : FI} {w lg : Nat → Nat} {E : Nat} (h : K fi ai w lg E)  : fi (32 * 9 + 6) (rf 9 1) = nI (ubF w 6) := h.1.2.2.2.2.2.2.1
theorem k_ch {fi ai : FI} {w lg : Nat → Nat} {E : Nat} (h : K fi ai w lg E)  : fi (32 * 9 + 7) (rf 9 1) = nI (w 2) := h.1.2.2.2.2.2.2.2
theorem k_m1 {fi ai : FI} {w lg : Nat → Nat} {E : Nat} (h : K fi ai w lg E) {m : Nat} (hm : m < w 3) : fi (32 * 4 + 1) (rf 4 (34 + 2 * m)) = nI (w (7694 + 72 * m + 6)) := (h.1.2.2.2.2.1 m hm).1 1 (by decide) (by decide)
theorem k_m2 {fi ai : FI} {w lg : Nat → Nat} {E : Nat} (h : K fi ai w lg E) {m : Nat} (hm : m < w 3) : fi (32 * 4 + 2) (rf 4 (34 + 2 * m)) = nI (w (7694 + 72 * m + 0)) := (h.1.2.2.2.2.1 m hm).1 2 (by decide) (by decide)
theorem k_m3 {fi ai : FI} {w lg : Nat → Nat} {E : Nat} (h : K fi ai w lg E) {m : Nat} (hm : m < w 3) : fi (32 * 4 + 3) (rf 4 (34 + 2 * m)) = nI (w (7694 + 72 * m + 1)) := (h.1.2.2.2.2.1 m hm).1 3 (by decide) (by decide)
theorem k_m4 {fi ai : FI} {w lg : Nat → Nat} {E : Nat} (h : K fi ai w lg E) {m : Nat} (hm : m < w 3) : fi (32 * 4 + 4) (rf 4 (34 + 2 * m)) = nI (w (7694 + 72 * m + 2)) := (h.1.2.2.2.2.1 m hm).1 4 (by decide) (by decide)
theorem k_m5 {fi ai : FI} {w lg : Nat → Nat} {E : Nat} (h : K fi ai w lg E) {m : Nat} (hm : m < w 3) : fi (32 * 4 + 5) (rf 4 (34 + 2 * m)) = nI (w (7694 + 72 * m + 3)) := (h.1.2.2.2.2.1 m hm).1 5 (by decide) (by decide)
theorem k_m6 {fi ai : FI} {w lg : Nat → Nat} {E : Nat} (h : K fi ai w lg E) {m : Nat} (hm : m < w 3) : fi (32 * 4 + 6) (rf 4 (34 + 2 * m)) = nI (w (7694 + 72 * m + 4)) := (h.1.2.2.2.2.1 m hm).1 6 (by decide) (by decide)
theorem k_m7 {fi ai : FI} {w lg : Nat → Nat} {E : Nat} (h : K fi ai w lg E) {m : Nat} (hm : m < w 3) : fi (32 * 4 + 7) (rf 4 (34 + 2 * m)) = nI (w (7694 + 72 * m + 5)) := (h.1.2.2.2.2.1 m hm).1 7 (by decide) (by decide)
theorem k_m8 {fi ai : FI} {w lg : Nat → Nat} {E : Nat} (h : K fi ai w lg E) {m : Nat} (hm : m < w 3) : fi (32 * 4 + 8) (rf 4 (34 + 2 * m)) = nI (w (7694 + 72 * m + 7)) := (h.1.2.2.2.2.1 m hm).1 8 (by decide) (by decide)
theorem k_m9 {fi ai : FI} {w lg : Nat → Nat} {E : Nat} (h : K fi ai w lg E) {m : Nat} (hm : m < w 3) : fi (32 * 4 + 9) (rf 4 (34 + 2 * m)) = nI (w (7694 + 72 * m + 8)) := (h.1.2.2.2.2.1 m hm).1 9 (by decide) (by decide)
theorem k_m10 {fi ai : FI} {w lg : Nat → Nat} {E : Nat} (h : K fi ai w lg E) {m : Nat} (hm : m < w 3) : fi (32 * 4 + 10) (rf 4 (34 + 2 * m)) = nI (w (7694 + 72 * m + 9)) := (h.1.2.2.2.2.1 m hm).1 10 (by decide) (by decide)
theorem k_m11 {fi ai : FI} {w lg : Nat → Nat} {E : Nat} (h : K fi ai w lg E) {m : Nat} (hm : m < w 3) : fi (32 * 4 + 11) (rf 4 (34 + 2 * m)) = nI (w (7694 + 72 * m + 10)) := (h.1.2.2.2.2.1 m hm).1 11 (by decide) (by decide)
theorem k_m12 {fi ai : FI} {w lg : Nat → Nat} {E : Nat} (h : K fi ai w lg E) {m : Nat} (hm : m < w 3) : fi (32 * 4 + 12) (rf 4 (34 + 2 * m)) = nI (w (7694 + 72 * m + 11)) := (h.1.2.2.2.2.1 m hm).1 12 (by decide) (by decide)
theorem k_tr {fi ai : FI} {w lg : Nat → Nat} {E : Nat} (h : K fi ai w lg E) {m i : Nat} (hm : m < w 3) (hi : i < w (7694 + 72 * m + 6)) : ai (rf 17 (34 + 2 * m + 1)) i = nI (w (7694 + 72 * m + 12 + i)) := by
  have := (h.1.2.2.2.2.1 m hm).2 i hi
  rw [Nat.add_assoc (7694 + 72 * m)]
  exact this
theorem k_cnt {fi ai : FI} {w lg : Nat → Nat} {E : Nat} (h : K fi ai w lg E) {j : Nat} (hj : j < 15) : ai (rf 22 59) j = nI (w (8558 + j)) := h.2.1.1 j hj
theorem k_as {fi ai : FI} {w lg : Nat → Nat} {E : Nat} (h : K fi ai w lg E) {c : Nat} (hc : c < 6) : ai (rf 23 60) c = nI (w (8573 + 4 * c)) := (h.2.1.2.1 c hc).1
theorem k_an {fi ai : FI} {w lg : Nat → Nat} {E : Nat} (h : K fi ai w lg E) {c : Nat} (hc : c < 6) : ai (rf 23 61) c = nI (w (8573 + 4 * c + 1)) := (h.2.1.2.1 c hc).2.1
theorem k_tu {fi ai : FI} {w lg : Nat → Nat} {E : Nat} (h : K fi ai w lg E) {c : Nat} (hc : c < 6) : ai (rf 23 62) c = nI (w (8573 + 4 * c + 2)) := (h.2.1.2.1 c hc).2.2.1
theorem k_nm {fi ai : FI} {w lg : Nat → Nat} {E : Nat} (h : K fi ai w lg E) {c : Nat} (hc : c < 6) : ai (rf 23 63) c = nI (w (8573 + 4 * c + 3)) := (h.2.1.2.1 c hc).2.2.2
theorem k_row {fi ai : FI} {w lg : Nat → Nat} {E : Nat} (h : K fi ai w lg E) {e : Nat} (h1 : 1 ≤ e) (h2 : e ≤ E) : ai (rf 24 64) e = nI (lg e) := h.2.1.2.2 e h1 h2
theorem k_s0 {fi ai : FI} {w lg : Nat → Nat} {E : Nat} (h : K fi ai w lg E)  : ai (rf 25 66) 0 = nI 0 := h.2.2
theorem cm_vals {fr ar : FR} (cm : CM fr ar)  : fr (32 * 9 + 0) (rf 9 1) = some (rf 18 2) := cm.1.1
theorem cm_wts {fr ar : FR} (cm : CM fr ar)  : fr (32 * 9 + 1) (rf 9 1) = some (rf 19 3) := cm.1.2.1
theorem cm_map {fr ar : FR} (cm : CM fr ar)  : fr (32 * 9 + 2) (rf 9 1) = some (rf 8 4) := cm.1.2.2.1
theorem cm_cas {fr ar : FR} (cm : CM fr ar)  : fr (32 * 9 + 3) (rf 9 1) = some (rf 20 8) := cm.1.2.2.2.1
theorem cm_mvs {fr ar : FR} (cm : CM fr ar)  : fr (32 * 9 + 4) (rf 9 1) = some (rf 21 9) := cm.1.2.2.2.2.1
theorem cm_tlo {fr ar : FR} (cm : CM fr ar)  : fr (32 * 8 + 0) (rf 8 4) = some (rf 16 5) := cm.1.2.2.2.2.2.1.1
theorem cm_ctlo {fr ar : FR} (cm : CM fr ar) {c : Nat} (hc : c < 6) : fr (32 * 8 + 0) (rf 8 (10 + 4 * c)) = some (rf 16 (10 + 4 * c + 1)) := (cm.1.2.2.2.2.2.2.1 c hc).2.1
theorem cm_tow {fr ar : FR} (cm : CM fr ar)  : fr (32 * 8 + 1) (rf 8 4) = some (rf 16 6) := cm.1.2.2.2.2.2.1.2.1
theorem cm_ctow {fr ar : FR} (cm : CM fr ar) {c : Nat} (hc : c < 6) : fr (32 * 8 + 1) (rf 8 (10 + 4 * c)) = some (rf 16 (10 + 4 * c + 2)) := (cm.1.2.2.2.2.2.2.1 c hc).2.2.1
theorem cm_tep {fr ar : FR} (cm : CM fr ar)  : fr (32 * 8 + 2) (rf 8 4) = some (rf 16 7) := cm.1.2.2.2.2.2.1.2.2
theorem cm_ctep {fr ar : FR} (cm : CM fr ar) {c : Nat} (hc : c < 6) : fr (32 * 8 + 2) (rf 8 (10 + 4 * c)) = some (rf 16 (10 + 4 * c + 3)) := (cm.1.2.2.2.2.2.2.1 c hc).2.2.2
theorem cm_ca {fr ar : FR} (cm : CM fr ar) {c : Nat} (hc : c < 6) : ar (rf 20 8) c = some (rf 8 (10 + 4 * c)) := (cm.1.2.2.2.2.2.2.1 c hc).1
theorem cm_mo {fr ar : FR} (cm : CM fr ar) {m : Nat} (hm : m < 12) : ar (rf 21 9) m = some (rf 4 (34 + 2 * m)) := (cm.1.2.2.2.2.2.2.2 m hm).1
theorem cm_tra {fr ar : FR} (cm : CM fr ar) {m : Nat} (hm : m < 12) : fr (32 * 4 + 0) (rf 4 (34 + 2 * m)) = some (rf 17 (34 + 2 * m + 1)) := (cm.1.2.2.2.2.2.2.2 m hm).2
theorem cl_cnt {fr ar : FR} (cm : CM fr ar)  : fr (32 * 3 + 0) (rf 3 58) = some (rf 22 59) := cm.2.1.1
theorem cl_as {fr ar : FR} (cm : CM fr ar)  : fr (32 * 3 + 1) (rf 3 58) = some (rf 23 60) := cm.2.1.2.1
theorem cl_an {fr ar : FR} (cm : CM fr ar)  : fr (32 * 3 + 2) (rf 3 58) = some (rf 23 61) := cm.2.1.2.2.1
theorem cl_tu {fr ar : FR} (cm : CM fr ar)  : fr (32 * 3 + 3) (rf 3 58) = some (rf 23 62) := cm.2.1.2.2.2.1
theorem cl_nm {fr ar : FR} (cm : CM fr ar)  : fr (32 * 3 + 4) (rf 3 58) = some (rf 23 63) := cm.2.1.2.2.2.2.1
theorem cl_row {fr ar : FR} (cm : CM fr ar)  : fr (32 * 3 + 5) (rf 3 58) = some (rf 24 64) := cm.2.1.2.2.2.2.2
theorem cp_sum {fr ar : FR} (cm : CM fr ar)  : fr (32 * 6 + 0) (rf 6 65) = some (rf 25 66) := cm.2.2.1.1
theorem cp_lows {fr ar : FR} (cm : CM fr ar)  : fr (32 * 6 + 1) (rf 6 65) = some (rf 26 67) := cm.2.2.1.2.1
theorem cp_own {fr ar : FR} (cm : CM fr ar)  : fr (32 * 6 + 2) (rf 6 65) = some (rf 16 68) := cm.2.2.1.2.2.1
theorem cp_busy {fr ar : FR} (cm : CM fr ar)  : fr (32 * 6 + 3) (rf 6 65) = some (rf 27 69) := cm.2.2.1.2.2.2.1
theorem cp_load {fr ar : FR} (cm : CM fr ar)  : fr (32 * 6 + 4) (rf 6 65) = some (rf 23 70) := cm.2.2.1.2.2.2.2
theorem ca_w {fr ar : FR} (cm : CM fr ar)  : fr (32 * 1 + 0) (rf 1 71) = some (rf 9 1) := cm.2.2.2.1.1
theorem ca_l {fr ar : FR} (cm : CM fr ar)  : fr (32 * 1 + 1) (rf 1 71) = some (rf 3 58) := cm.2.2.2.1.2
theorem cc_w {fr ar : FR} (cm : CM fr ar)  : fr (32 * 2 + 0) (rf 2 72) = some (rf 9 1) := cm.2.2.2.2.1.1
theorem cc_l {fr ar : FR} (cm : CM fr ar)  : fr (32 * 2 + 1) (rf 2 72) = some (rf 3 58) := cm.2.2.2.2.1.2.1
theorem cc_p {fr ar : FR} (cm : CM fr ar)  : fr (32 * 2 + 2) (rf 2 72) = some (rf 6 65) := cm.2.2.2.2.1.2.2
theorem cv_w {fr ar : FR} (cm : CM fr ar)  : fr (32 * 5 + 0) (rf 5 73) = some (rf 9 1) := cm.2.2.2.2.2.1.1
theorem cv_l {fr ar : FR} (cm : CM fr ar)  : fr (32 * 5 + 1) (rf 5 73) = some (rf 3 58) := cm.2.2.2.2.2.1.2
theorem ct_rows {fr ar : FR} (cm : CM fr ar)  : fr (32 * 0 + 0) (rf 0 74) = some (rf 28 75) := cm.2.2.2.2.2.2.1
theorem cs_txt {fr ar : FR} (cm : CM fr ar)  : fr (32 * 7 + 0) (rf 7 76) = some (rf 29 77) := cm.2.2.2.2.2.2.2.1.1
theorem cs_num {fr ar : FR} (cm : CM fr ar)  : fr (32 * 7 + 1) (rf 7 76) = some (rf 30 78) := cm.2.2.2.2.2.2.2.1.2.1
theorem cs_vrb {fr ar : FR} (cm : CM fr ar)  : fr (32 * 7 + 2) (rf 7 76) = some (rf 31 79) := cm.2.2.2.2.2.2.2.1.2.2
theorem cx_0 {fr ar : FR} (cm : CM fr ar)  : fr (32 * 10 + 0) (rf 10 0) = some (rf 9 1) := cm.2.2.2.2.2.2.2.2.1
theorem cx_1 {fr ar : FR} (cm : CM fr ar)  : fr (32 * 10 + 1) (rf 10 0) = some (rf 3 58) := cm.2.2.2.2.2.2.2.2.2.1
theorem cx_2 {fr ar : FR} (cm : CM fr ar)  : fr (32 * 10 + 2) (rf 10 0) = some (rf 1 71) := cm.2.2.2.2.2.2.2.2.2.2.1
theorem cx_3 {fr ar : FR} (cm : CM fr ar)  : fr (32 * 10 + 3) (rf 10 0) = some (rf 2 72) := cm.2.2.2.2.2.2.2.2.2.2.2.1
theorem cx_4 {fr ar : FR} (cm : CM fr ar)  : fr (32 * 10 + 4) (rf 10 0) = some (rf 5 73) := cm.2.2.2.2.2.2.2.2.2.2.2.2.1
theorem cx_5 {fr ar : FR} (cm : CM fr ar)  : fr (32 * 10 + 5) (rf 10 0) = some (rf 6 65) := cm.2.2.2.2.2.2.2.2.2.2.2.2.2.1
theorem cx_6 {fr ar : FR} (cm : CM fr ar)  : fr (32 * 10 + 6) (rf 10 0) = some (rf 0 74) := cm.2.2.2.2.2.2.2.2.2.2.2.2.2.2.1
theorem cx_7 {fr ar : FR} (cm : CM fr ar)  : fr (32 * 10 + 7) (rf 10 0) = some (rf 7 76) := cm.2.2.2.2.2.2.2.2.2.2.2.2.2.2.2
