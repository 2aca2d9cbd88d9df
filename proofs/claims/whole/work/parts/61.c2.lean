theorem TBR_cg {fi ai : FI} {t n e n' e' : Nat} {lo ow ep lo' ow' ep' : Nat → Nat} (h1 : n' = n) (h2 : e' = e) (h3 : ∀ i, i < n → lo' i = lo i ∧ ow' i = ow i ∧ ep' i = ep i) (h : TBR fi ai t n e lo ow ep) : TBR fi ai t n' e' lo' ow' ep' := by
  subst h1 h2
  refine ⟨h.1, h.2.1, fun i hi => ?_⟩
  obtain ⟨a, b, c⟩ := h3 i hi
  rw [a, b, c]
  exact h.2.2 i hi
theorem MVR_cg {fi ai : FI} {p : Nat} {v v' : Nat → Nat} (h1 : ∀ d, d < 12 → v' d = v d) (h2 : ∀ i, i < v 6 → v' (12 + i) = v (12 + i)) (h : MVR fi ai p v) : MVR fi ai p v' := by
  refine ⟨fun f a b => by rw [h1 _ (fD_lt f)]; exact h.1 f a b, fun i hi => ?_⟩
  rw [h1 6 (by decide)] at hi
  rw [h2 i hi]
  exact h.2 i hi
theorem rf_ne {a b c d : Nat} (h1 : a < 64) (h2 : c < 64) (h : a ≠ c ∨ b ≠ d) : rf a b ≠ rf c d := fun e => by
  obtain ⟨x, y⟩ := rf_inj h1 h2 e
  omega
theorem KW_mv {fi fi' ai ai' : FI} {w w' : Nat → Nat} {b : Nat} (h1 : w 1 ≤ 32) (h3 : w 3 ≤ 12) (hc6 : ∀ c, c < 6 → w (7106 + 98 * c + 1) ≤ 32) (h60 : ∀ m, m < w 3 → w (7694 + 72 * m + 6) ≤ 60) {m : Nat} (hm : m < w 3) (hw : ∀ q, (q < 7694 + 72 * m ∨ 7694 + 72 * m + 72 ≤ q) → w' q = w q) (hf : ∀ f r, r ≠ rf 4 (b + 33 + 2 * m) → fi' f r = fi f r) (ha : ∀ a, a ≠ rf 17 (b + 33 + 2 * m + 1) → ai' a = ai a) (hM : MVR fi' ai' (b + 33 + 2 * m) (mrow w' m)) (h : KW b fi ai w) : KW b fi' ai' w' := by
  obtain ⟨v1, v2, v3, v4, v5, v6, v7, v8⟩ := h
  refine ⟨?_, ?_, ?_, fun c hc => ?_, fun m2 hm2 => ?_, ?_, ?_, ?_⟩
  · intro i hi; rw [(ha _ (rf_ne (by decide) (by decide) (by omega))), hw _ (by omega)]; exact v1 i hi
  · intro i hi; rw [(ha _ (rf_ne (by decide) (by decide) (by omega))), hw _ (by omega)]; exact v2 i hi
  · exact TBR_cg (hw _ (by omega)) (hw _ (by omega)) (fun i hi => ⟨hw _ (by omega), hw _ (by omega), hw _ (by omega)⟩) (TBR_fr (fun f => hf f _ (rf_ne (by decide) (by decide) (by omega))) (ha _ (rf_ne (by decide) (by decide) (by omega))) (ha _ (rf_ne (by decide) (by decide) (by omega))) (ha _ (rf_ne (by decide) (by decide) (by omega))) v3)
  · exact TBR_cg (hw _ (by omega)) (hw _ (by omega)) (fun i hi => ⟨hw _ (by have := hc6 c hc; omega), hw _ (by have := hc6 c hc; omega), hw _ (by have := hc6 c hc; omega)⟩) (TBR_fr (fun f => hf f _ (rf_ne (by decide) (by decide) (by omega))) (ha _ (rf_ne (by decide) (by decide) (by omega))) (ha _ (rf_ne (by decide) (by decide) (by omega))) (ha _ (rf_ne (by decide) (by decide) (by omega))) (v4 c hc))
  · rw [hw 3 (by omega)] at hm2
    by_cases e : m2 = m
    · rw [e]; exact hM
    · exact MVR_cg (fun d hd => hw _ (by omega)) (fun i hi => hw _ (by have := h60 m2 hm2; omega)) (MVR_fr (fun f => hf f _ (rf_ne (by decide) (by decide) (by omega))) (ha _ (rf_ne (by decide) (by decide) (by omega))) (v5 m2 hm2))
  · rw [hf _ _ (rf_ne (by decide) (by decide) (by omega)), hw _ (by omega)]; exact v6
  · rw [hf _ _ (rf_ne (by decide) (by decide) (by omega)), ubF_fr (fun s hs => hw (4 + s) (by omega)) 6 (Nat.le_refl 6)]; exact v7
  · rw [hf _ _ (rf_ne (by decide) (by decide) (by omega)), hw _ (by omega)]; exact v8
theorem KW_map {fi fi' ai ai' : FI} {w w' : Nat → Nat} {b : Nat} (h1 : w 1 ≤ 32) (h3 : w 3 ≤ 12) (hc6 : ∀ c, c < 6 → w (7106 + 98 * c + 1) ≤ 32) (h60 : ∀ m, m < w 3 → w (7694 + 72 * m + 6) ≤ 60) (hw : ∀ q, q ≠ 0 → q ≠ 1 → (q < 10 ∨ 106 ≤ q) → w' q = w q) (hf : ∀ f r, r ≠ rf 8 (b + 3) → fi' f r = fi f r) (ha : ∀ a, a ≠ rf 16 (b + 3 + 1) → a ≠ rf 16 (b + 3 + 2) → a ≠ rf 16 (b + 3 + 3) → ai' a = ai a) (hT : TBR fi' ai' (b + 3) (w' 1) (w' 0) (fun i => w' (10 + i)) (fun i => w' (42 + i)) (fun i => w' (74 + i))) (h : KW b fi ai w) : KW b fi' ai' w' := by
  obtain ⟨v1, v2, v3, v4, v5, v6, v7, v8⟩ := h
  refine ⟨?_, ?_, ?_, fun c hc => ?_, fun m2 hm2 => ?_, ?_, ?_, ?_⟩
  · intro i hi; rw [(ha _ (rf_ne (by decide) (by decide) (by omega)) (rf_ne (by decide) (by decide) (by omega)) (rf_ne (by decide) (by decide) (by omega))), hw _ (by omega) (by omega) (by omega)]; exact v1 i hi
  · intro i hi; rw [(ha _ (rf_ne (by decide) (by decide) (by omega)) (rf_ne (by decide) (by decide) (by omega)) (rf_ne (by decide) (by decide) (by omega))), hw _ (by omega) (by omega) (by omega)]; exact v2 i hi
  · exact hT
  · exact TBR_cg (hw _ (by omega) (by omega) (by omega)) (hw _ (by omega) (by omega) (by omega)) (fun i hi => ⟨hw _ (by omega) (by omega) (by have := hc6 c hc; omega), hw _ (by omega) (by omega) (by have := hc6 c hc; omega), hw _ (by omega) (by omega) (by have := hc6 c hc; omega)⟩) (TBR_fr (fun f => hf f _ (rf_ne (by decide) (by decide) (by omega))) (ha _ (rf_ne (by decide) (by decide) (by omega)) (rf_ne (by decide) (by decide) (by omega)) (rf_ne (by decide) (by decide) (by omega))) (ha _ (rf_ne (by decide) (by decide) (by omega)) (rf_ne (by decide) (by decide) (by omega)) (rf_ne (by decide) (by decide) (by omega))) (ha _ (rf_ne (by decide) (by decide) (by omega)) (rf_ne (by decide) (by decide) (by omega)) (rf_ne (by decide) (by decide) (by omega))) (v4 c hc))
  · rw [hw 3 (by omega) (by omega) (by omega)] at hm2; exact MVR_cg (fun d hd => hw _ (by omega) (by omega) (by omega)) (fun i hi => hw _ (by omega) (by omega) (by omega)) (MVR_fr (fun f => hf f _ (rf_ne (by decide) (by decide) (by omega))) (ha _ (rf_ne (by decide) (by decide) (by omega)) (rf_ne (by decide) (by decide) (by omega)) (rf_ne (by decide) (by decide) (by omega))) (v5 m2 hm2))
  · rw [hf _ _ (rf_ne (by decide) (by decide) (by omega)), hw _ (by omega) (by omega) (by omega)]; exact v6
  · rw [hf _ _ (rf_ne (by decide) (by decide) (by omega)), ubF_fr (fun s hs => hw (4 + s) (by omega) (by omega) (by omega)) 6 (Nat.le_refl 6)]; exact v7
  · rw [hf _ _ (rf_ne (by decide) (by decide) (by omega)), hw _ (by omega) (by omega) (by omega)]; exact v8
theorem KW_ca {fi fi' ai ai' : FI} {w w' : Nat → Nat} {b : Nat} (h1 : w 1 ≤ 32) (h3 : w 3 ≤ 12) (hc6 : ∀ c, c < 6 → w (7106 + 98 * c + 1) ≤ 32) (h60 : ∀ m, m < w 3 → w (7694 + 72 * m + 6) ≤ 60) {c0 : Nat} (hc0 : c0 < 6) (hw : ∀ q, (q < 7106 + 98 * c0 ∨ 7106 + 98 * c0 + 98 ≤ q) → w' q = w q) (hf : ∀ f r, r ≠ rf 8 (b + 9 + 4 * c0) → fi' f r = fi f r) (ha : ∀ a, a ≠ rf 16 (b + 9 + 4 * c0 + 1) → a ≠ rf 16 (b + 9 + 4 * c0 + 2) → a ≠ rf 16 (b + 9 + 4 * c0 + 3) → ai' a = ai a) (hT : TBR fi' ai' (b + 9 + 4 * c0) (w' (7106 + 98 * c0 + 1)) (w' (7106 + 98 * c0 + 0)) (fun i => w' (7106 + 98 * c0 + 2 + i)) (fun i => w' (7106 + 98 * c0 + 34 + i)) (fun i => w' (7106 + 98 * c0 + 66 + i))) (h : KW b fi ai w) : KW b fi' ai' w' := by
  obtain ⟨v1, v2, v3, v4, v5, v6, v7, v8⟩ := h
  refine ⟨?_, ?_, ?_, fun c hc => ?_, fun m2 hm2 => ?_, ?_, ?_, ?_⟩
  · intro i hi; rw [(ha _ (rf_ne (by decide) (by decide) (by omega)) (rf_ne (by decide) (by decide) (by omega)) (rf_ne (by decide) (by decide) (by omega))), hw _ (by omega)]; exact v1 i hi
  · intro i hi; rw [(ha _ (rf_ne (by decide) (by decide) (by omega)) (rf_ne (by decide) (by decide) (by omega)) (rf_ne (by decide) (by decide) (by omega))), hw _ (by omega)]; exact v2 i hi
  · exact TBR_cg (hw _ (by omega)) (hw _ (by omega)) (fun i hi => ⟨hw _ (by omega), hw _ (by omega), hw _ (by omega)⟩) (TBR_fr (fun f => hf f _ (rf_ne (by decide) (by decide) (by omega))) (ha _ (rf_ne (by decide) (by decide) (by omega)) (rf_ne (by decide) (by decide) (by omega)) (rf_ne (by decide) (by decide) (by omega))) (ha _ (rf_ne (by decide) (by decide) (by omega)) (rf_ne (by decide) (by decide) (by omega)) (rf_ne (by decide) (by decide) (by omega))) (ha _ (rf_ne (by decide) (by decide) (by omega)) (rf_ne (by decide) (by decide) (by omega)) (rf_ne (by decide) (by decide) (by omega))) v3)
  · by_cases e : c = c0
    · rw [e]; exact hT
    · exact TBR_cg (hw _ (by omega)) (hw _ (by omega)) (fun i hi => ⟨hw _ (by have := hc6 c hc; omega), hw _ (by have := hc6 c hc; omega), hw _ (by have := hc6 c hc; omega)⟩) (TBR_fr (fun f => hf f _ (rf_ne (by decide) (by decide) (by omega))) (ha _ (rf_ne (by decide) (by decide) (by omega)) (rf_ne (by decide) (by decide) (by omega)) (rf_ne (by decide) (by decide) (by omega))) (ha _ (rf_ne (by decide) (by decide) (by omega)) (rf_ne (by decide) (by decide) (by omega)) (rf_ne (by decide) (by decide) (by omega))) (ha _ (rf_ne (by decide) (by decide) (by omega)) (rf_ne (by decide) (by decide) (by omega)) (rf_ne (by decide) (by decide) (by omega))) (v4 c hc))
  · rw [hw 3 (by omega)] at hm2; exact MVR_cg (fun d hd => hw _ (by omega)) (fun i hi => hw _ (by have := h60 m2 hm2; omega)) (MVR_fr (fun f => hf f _ (rf_ne (by decide) (by decide) (by omega))) (ha _ (rf_ne (by decide) (by decide) (by omega)) (rf_ne (by decide) (by decide) (by omega)) (rf_ne (by decide) (by decide) (by omega))) (v5 m2 hm2))
  · rw [hf _ _ (rf_ne (by decide) (by decide) (by omega)), hw _ (by omega)]; exact v6
  · rw [hf _ _ (rf_ne (by decide) (by decide) (by omega)), ubF_fr (fun s hs => hw (4 + s) (by omega)) 6 (Nat.le_refl 6)]; exact v7
  · rw [hf _ _ (rf_ne (by decide) (by decide) (by omega)), hw _ (by omega)]; exact v8
theorem KW_val {fi ai ai' : FI} {w w' : Nat → Nat} {b : Nat} (h1 : w 1 ≤ 32) (h3 : w 3 ≤ 12) (hc6 : ∀ c, c < 6 → w (7106 + 98 * c + 1) ≤ 32) (h60 : ∀ m, m < w 3 → w (7694 + 72 * m + 6) ≤ 60) (hw : ∀ q, (q < 1106 ∨ 7106 ≤ q) → w' q = w q) (ha : ∀ a, a ≠ rf 18 (b + 1) → ai' a = ai a) (hV : ∀ i, i < 6000 → ai' (rf 18 (b + 1)) i = nI (w' (1106 + i))) (h : KW b fi ai w) : KW b fi ai' w' := by
  have hf : ∀ f r, r ≠ 0 ∨ r = 0 → fi f r = fi f r := fun _ _ _ => rfl
  obtain ⟨v1, v2, v3, v4, v5, v6, v7, v8⟩ := h
  refine ⟨?_, ?_, ?_, fun c hc => ?_, fun m2 hm2 => ?_, ?_, ?_, ?_⟩
  · exact hV
  · intro i hi; rw [(ha _ (rf_ne (by decide) (by decide) (by omega))), hw _ (by omega)]; exact v2 i hi
  · exact TBR_cg (hw _ (by omega)) (hw _ (by omega)) (fun i hi => ⟨hw _ (by omega), hw _ (by omega), hw _ (by omega)⟩) (TBR_fr (fun f => rfl) (ha _ (rf_ne (by decide) (by decide) (by omega))) (ha _ (rf_ne (by decide) (by decide) (by omega))) (ha _ (rf_ne (by decide) (by decide) (by omega))) v3)
  · exact TBR_cg (hw _ (by omega)) (hw _ (by omega)) (fun i hi => ⟨hw _ (by have := hc6 c hc; omega), hw _ (by have := hc6 c hc; omega), hw _ (by have := hc6 c hc; omega)⟩) (TBR_fr (fun f => rfl) (ha _ (rf_ne (by decide) (by decide) (by omega))) (ha _ (rf_ne (by decide) (by decide) (by omega))) (ha _ (rf_ne (by decide) (by decide) (by omega))) (v4 c hc))
  · rw [hw 3 (by omega)] at hm2; exact MVR_cg (fun d hd => hw _ (by omega)) (fun i hi => hw _ (by have := h60 m2 hm2; omega)) (MVR_fr (fun f => rfl) (ha _ (rf_ne (by decide) (by decide) (by omega))) (v5 m2 hm2))
  · rw [hw _ (by omega)]; exact v6
  · rw [ubF_fr (fun s hs => hw (4 + s) (by omega)) 6 (Nat.le_refl 6)]; exact v7
  · rw [hw _ (by omega)]; exact v8
theorem KW_wt {fi ai ai' : FI} {w w' : Nat → Nat} {b : Nat} (h1 : w 1 ≤ 32) (h3 : w 3 ≤ 12) (hc6 : ∀ c, c < 6 → w (7106 + 98 * c + 1) ≤ 32) (h60 : ∀ m, m < w 3 → w (7694 + 72 * m + 6) ≤ 60) (hw : ∀ q, (q < 106 ∨ 1106 ≤ q) → w' q = w q) (ha : ∀ a, a ≠ rf 19 (b + 2) → ai' a = ai a) (hG : ∀ i, i < 1000 → ai' (rf 19 (b + 2)) i = nI (w' (106 + i))) (h : KW b fi ai w) : KW b fi ai' w' := by
  obtain ⟨v1, v2, v3, v4, v5, v6, v7, v8⟩ := h
  refine ⟨?_, ?_, ?_, fun c hc => ?_, fun m2 hm2 => ?_, ?_, ?_, ?_⟩
  · intro i hi; rw [(ha _ (rf_ne (by decide) (by decide) (by omega))), hw _ (by omega)]; exact v1 i hi
  · exact hG
  · exact TBR_cg (hw _ (by omega)) (hw _ (by omega)) (fun i hi => ⟨hw _ (by omega), hw _ (by omega), hw _ (by omega)⟩) (TBR_fr (fun f => rfl) (ha _ (rf_ne (by decide) (by decide) (by omega))) (ha _ (rf_ne (by decide) (by decide) (by omega))) (ha _ (rf_ne (by decide) (by decide) (by omega))) v3)
  · exact TBR_cg (hw _ (by omega)) (hw _ (by omega)) (fun i hi => ⟨hw _ (by have := hc6 c hc; omega), hw _ (by have := hc6 c hc; omega), hw _ (by have := hc6 c hc; omega)⟩) (TBR_fr (fun f => rfl) (ha _ (rf_ne (by decide) (by decide) (by omega))) (ha _ (rf_ne (by decide) (by decide) (by omega))) (ha _ (rf_ne (by decide) (by decide) (by omega))) (v4 c hc))
  · rw [hw 3 (by omega)] at hm2; exact MVR_cg (fun d hd => hw _ (by omega)) (fun i hi => hw _ (by have := h60 m2 hm2; omega)) (MVR_fr (fun f => rfl) (ha _ (rf_ne (by decide) (by decide) (by omega))) (v5 m2 hm2))
  · rw [hw _ (by omega)]; exact v6
  · rw [ubF_fr (fun s hs => hw (4 + s) (by omega)) 6 (Nat.le_refl 6)]; exact v7
  · rw [hw _ (by omega)]; exact v8
theorem KW_own {fi fi' ai : FI} {w w' : Nat → Nat} {b : Nat} (h1 : w 1 ≤ 32) (h3 : w 3 ≤ 12) (hc6 : ∀ c, c < 6 → w (7106 + 98 * c + 1) ≤ 32) (h60 : ∀ m, m < w 3 → w (7694 + 72 * m + 6) ≤ 60) (hw : ∀ q, (q < 2 ∨ q = 3 ∨ 10 ≤ q) → w' q = w q) (hf : ∀ f r, r ≠ rf 9 b → fi' f r = fi f r) (g6 : fi' (32 * 9 + 5) (rf 9 b) = nI (w' 3)) (g7 : fi' (32 * 9 + 6) (rf 9 b) = nI (ubF w' 6)) (g8 : fi' (32 * 9 + 7) (rf 9 b) = nI (w' 2)) (h : KW b fi ai w) : KW b fi' ai w' := by
  obtain ⟨v1, v2, v3, v4, v5, v6, v7, v8⟩ := h
  refine ⟨?_, ?_, ?_, fun c hc => ?_, fun m2 hm2 => ?_, ?_, ?_, ?_⟩
  · intro i hi; rw [hw _ (by omega)]; exact v1 i hi
  · intro i hi; rw [hw _ (by omega)]; exact v2 i hi
  · exact TBR_cg (hw _ (by omega)) (hw _ (by omega)) (fun i hi => ⟨hw _ (by omega), hw _ (by omega), hw _ (by omega)⟩) (TBR_fr (fun f => hf f _ (rf_ne (by decide) (by decide) (by omega))) rfl rfl rfl v3)
  · exact TBR_cg (hw _ (by omega)) (hw _ (by omega)) (fun i hi => ⟨hw _ (by have := hc6 c hc; omega), hw _ (by have := hc6 c hc; omega), hw _ (by have := hc6 c hc; omega)⟩) (TBR_fr (fun f => hf f _ (rf_ne (by decide) (by decide) (by omega))) rfl rfl rfl (v4 c hc))
  · rw [hw 3 (by omega)] at hm2; exact MVR_cg (fun d hd => hw _ (by omega)) (fun i hi => hw _ (by have := h60 m2 hm2; omega)) (MVR_fr (fun f => hf f _ (rf_ne (by decide) (by decide) (by omega))) rfl (v5 m2 hm2))
  · exact g6
  · exact g7
  · exact g8
theorem K_kw {fi fi' ai ai' : FI} {w w' lg : Nat → Nat} {E : Nat} (h : K fi ai w lg E) (hW : KW 1 fi' ai' w') (ha : ∀ a, 58 ≤ a / 64 → a / 64 ≤ 70 → ai' a = ai a) (hw : ∀ q, 8558 ≤ q → w' q = w q) : K fi' ai' w' lg E := by
  obtain ⟨h1, h2, h3⟩ := h
  have l := LGR_fr (fun a x y => ha a (by omega) (by omega)) h2
  refine ⟨hW, ⟨fun j hj => ?_, fun c hc => ?_, l.2.2⟩, by rw [ha _ (by rw [rf_div (by decide)]; omega) (by rw [rf_div (by decide)]; omega)]; exact h3⟩
  · rw [hw _ (by omega)]; exact l.1 j hj
  · rw [hw _ (by omega), hw (8573 + 4 * c + 1) (by omega), hw (8573 + 4 * c + 2) (by omega), hw (8573 + 4 * c + 3) (by omega)]; exact l.2.1 c hc
/-- bounds that the frame of the cells needs -/
def Bd (w : Nat → Nat) : Prop := w 1 ≤ 32 ∧ w 3 ≤ 12 ∧ (∀ c, c < 6 → w (7106 + 98 * c + 1) ≤ 32) ∧ ∀ m, m < w 3 → w (7694 + 72 * m + 6) ≤ 60
theorem Bd_iv {w : Nat → Nat} (iv : Inv w) : Bd w := ⟨(iv_n iv).2, iv_mm iv, fun c hc => (iv_cl iv hc).1, fun m hm => (iv_mv iv hm).2.2.2.2.2.2.2.1⟩
theorem Bd_up {w : Nat → Nat} {q v : Nat} (h : Bd w) (h1 : q ≠ 1 ∧ q ≠ 3 ∧ (q < 7106 ∨ 8558 ≤ q ∨ (7106 ≤ q ∧ q < 7694 ∧ (q - 7106) % 98 ≠ 1) ∨ (7694 ≤ q ∧ q < 8558 ∧ ((q - 7694) % 72 ≠ 6 ∨ v ≤ 60)))) : Bd (upN w q v) := by
  obtain ⟨a, b, c, d⟩ := h
  refine ⟨by rw [upN_n (by omega)]; exact a, by rw [upN_n (by omega)]; exact b, fun k hk => by rw [upN_n (by omega)]; exact c k hk, fun m hm => ?_⟩
  rw [upN_n (by omega)] at hm
  by_cases e : 7694 + 72 * m + 6 = q
  · rw [e, upN_s]; omega
  · rw [upN_n e]; exact d m hm
theorem k_pm {fi ai : FI} {w lg : Nat → Nat} {E : Nat} (bd : Bd w) (h : K fi ai w lg E) {m f v : Nat} (hm : m < w 3) (hf : 2 ≤ f ∧ f ≤ 12) : K (up2 fi (32 * 4 + f) (rf 4 (34 + 2 * m)) (nI v)) ai (upN w (7694 + 72 * m + fD f) v) lg E := by
  have h3 := bd.2.1
  have hd := fD_lt f
  refine K_kw h (KW_mv bd.1 bd.2.1 bd.2.2.1 bd.2.2.2 (m := m) hm (fun q hq => upN_n (by omega)) (fun g r hr => up2_n _ _ (fun e => hr e.2)) (fun _ _ => rfl) ⟨fun g a b => ?_, fun i hi => ?_⟩ h.1) (fun _ _ _ => rfl) (fun q hq => upN_n (by omega))
  · show up2 fi _ _ _ _ _ = nI (upN w (7694 + 72 * m + fD f) v (7694 + 72 * m + fD g))
    by_cases e : g = f
    · rw [e, upN_s]; exact up2_s _ _ _ _
    · rw [up2_n _ _ (fun q => e (by omega)), upN_n (fun q => e ?_)]
      · exact (h.1.2.2.2.2.1 m hm).1 g a b
      · have q2 : fD g = fD f := by omega
        obtain ⟨x, y⟩ := hf
        have : ∀ g, g < 13 → ∀ f, f < 13 → 1 ≤ g → 1 ≤ f → fD g = fD f → g = f := by decide
        exact this g (by omega) f (by omega) a (by omega) q2
  · have hi2 : i < w (7694 + 72 * m + 6) := by
      have h6 : fD f ≠ 6 := by
        have : ∀ f, f < 13 → 2 ≤ f → fD f ≠ 6 := by decide
        exact this f (by omega) hf.1
      have : mrow (upN w (7694 + 72 * m + fD f) v) m 6 = w (7694 + 72 * m + 6) := upN_n (by omega)
      rw [this] at hi; exact hi
    show ai _ i = nI (upN w (7694 + 72 * m + fD f) v (7694 + 72 * m + (12 + i)))
    rw [upN_n (by omega)]
    exact (h.1.2.2.2.2.1 m hm).2 i hi2
theorem k_pt {fi ai : FI} {w lg : Nat → Nat} {E : Nat} (bd : Bd w) (h : K fi ai w lg E) {m v : Nat} (hm : m < w 3) (hv : v ≤ w (7694 + 72 * m + 6)) : K (up2 fi (32 * 4 + 1) (rf 4 (34 + 2 * m)) (nI v)) ai (upN w (7694 + 72 * m + 6) v) lg E := by
  have h3 := bd.2.1
  refine K_kw h (KW_mv bd.1 bd.2.1 bd.2.2.1 bd.2.2.2 (m := m) hm (fun q hq => upN_n (by omega)) (fun g r hr => up2_n _ _ (fun e => hr e.2)) (fun _ _ => rfl) ⟨fun g a b => ?_, fun i hi => ?_⟩ h.1) (fun _ _ _ => rfl) (fun q hq => upN_n (by omega))
  · show up2 fi _ _ _ _ _ = nI (upN w (7694 + 72 * m + 6) v (7694 + 72 * m + fD g))
    by_cases e : g = 1
    · subst e; exact (up2_s _ _ _ _).trans (by rw [show fD 1 = 6 from rfl, upN_s])
    · rw [up2_n _ _ (fun q => e (by omega)), upN_n ?_]
      · exact (h.1.2.2.2.2.1 m hm).1 g a b
      · have : ∀ g, g < 13 → 1 ≤ g → g ≠ 1 → fD g ≠ 6 := by decide
        have := this g (by omega) a e
        omega
  · have : mrow (upN w (7694 + 72 * m + 6) v) m 6 = v := upN_s _ _ _
    rw [this] at hi
    show ai _ i = nI (upN w (7694 + 72 * m + 6) v (7694 + 72 * m + (12 + i)))
    rw [upN_n (by omega)]
    exact (h.1.2.2.2.2.1 m hm).2 i (Nat.lt_of_lt_of_le hi hv)
theorem k_pv {fi ai : FI} {w lg : Nat → Nat} {E : Nat} (bd : Bd w) (h : K fi ai w lg E) {j v : Nat} (hj : j < 6000) : K fi (up2 ai (rf 18 2) j (nI v)) (upN w (1106 + j) v) lg E := by
  refine K_kw h (KW_val bd.1 bd.2.1 bd.2.2.1 bd.2.2.2 (fun q hq => upN_n (by omega)) (fun a ha => up2_o _ _ ha) (fun i hi => ?_) h.1) (fun a x y => up2_o _ _ (fun e => by rw [e, rf_div (by decide)] at x; omega)) (fun q hq => upN_n (by omega))
  by_cases e : i = j
  · subst e; rw [upN_s]; exact up2_s _ _ _ _
  · rw [upN_n (by omega), up2_n _ _ (fun q => e q.2)]; exact h.1.1 i hi
theorem k_pw {fi ai : FI} {w lg : Nat → Nat} {E : Nat} (bd : Bd w) (h : K fi ai w lg E) {j v : Nat} (hj : j < 1000) : K fi (up2 ai (rf 19 3) j (nI v)) (upN w (106 + j) v) lg E := by
  refine K_kw h (KW_wt bd.1 bd.2.1 bd.2.2.1 bd.2.2.2 (fun q hq => upN_n (by omega)) (fun a ha => up2_o _ _ ha) (fun i hi => ?_) h.1) (fun a x y => up2_o _ _ (fun e => by rw [e, rf_div (by decide)] at x; omega)) (fun q hq => upN_n (by omega))
  by_cases e : i = j
  · subst e; rw [upN_s]; exact up2_s _ _ _ _
  · rw [upN_n (by omega), up2_n _ _ (fun q => e q.2)]; exact h.1.2.1 i hi
theorem k_pch {fi ai : FI} {w lg : Nat → Nat} {E : Nat} (bd : Bd w) (h : K fi ai w lg E) {v : Nat} : K (up2 fi (32 * 9 + 7) (rf 9 1) (nI v)) ai (upN w 2 v) lg E := by
  refine K_kw h (KW_own bd.1 bd.2.1 bd.2.2.1 bd.2.2.2 (fun q hq => upN_n (by omega)) (fun g r hr => up2_n _ _ (fun e => hr e.2)) ?_ ?_ ?_ h.1) (fun _ _ _ => rfl) (fun q hq => upN_n (by omega))
  · rw [up2_n _ _ (by omega), upN_n (by omega)]; exact k_mm h
  · rw [up2_n _ _ (by omega), ubF_fr (fun s hs => upN_n (by omega)) 6 (Nat.le_refl 6)]; exact k_up h
  · rw [upN_s]; exact up2_s _ _ _ _
theorem k_pup {fi ai : FI} {w lg : Nat → Nat} {E : Nat} (bd : Bd w) (h : K fi ai w lg E) {s v x : Nat} (hs : s < 6) (hx : x = ubF (upN w (4 + s) v) 6) : K (up2 fi (32 * 9 + 6) (rf 9 1) (nI x)) ai (upN w (4 + s) v) lg E := by
  refine K_kw h (KW_own bd.1 bd.2.1 bd.2.2.1 bd.2.2.2 (fun q hq => upN_n (by omega)) (fun g r hr => up2_n _ _ (fun e => hr e.2)) ?_ ?_ ?_ h.1) (fun _ _ _ => rfl) (fun q hq => upN_n (by omega))
  · rw [up2_n _ _ (by omega), upN_n (by omega)]; exact k_mm h
  · rw [← hx]; exact up2_s _ _ _ _
  · rw [up2_n _ _ (by omega), upN_n (by omega)]; exact k_ch h
theorem k_pe {fi ai : FI} {w lg : Nat → Nat} {E : Nat} (bd : Bd w) (h : K fi ai w lg E) {v : Nat} : K (up2 fi (32 * 8 + 4) (rf 8 4) (nI v)) ai (upN w 0 v) lg E := by
  refine K_kw h (KW_map bd.1 bd.2.1 bd.2.2.1 bd.2.2.2 (fun q a b c => upN_n (by omega)) (fun g r hr => up2_n _ _ (fun e => hr e.2)) (fun _ _ _ _ => rfl) ⟨?_, ?_, fun i hi => ?_⟩ h.1) (fun _ _ _ => rfl) (fun q hq => upN_n (by omega))
  · rw [up2_n _ _ (by omega), upN_n (by omega)]; exact k_n h
  · rw [upN_s]; exact up2_s _ _ _ _
  · rw [upN_n (by omega)] at hi
    show ai _ i = nI (upN w 0 v (10 + i)) ∧ ai _ i = nI (upN w 0 v (42 + i)) ∧ ai _ i = nI (upN w 0 v (74 + i))
    rw [upN_n (by omega), upN_n (by omega), upN_n (by omega)]
    exact h.1.2.2.1.2.2 i hi
theorem k_pc {fi ai : FI} {w lg : Nat → Nat} {E : Nat} (bd : Bd w) (h : K fi ai w lg E) {j v : Nat} (hj : j < 15) : K fi (up2 ai (rf 22 59) j (nI v)) (upN w (8558 + j) v) lg E := by
  have ev : ∀ a, a / 64 ≠ 59 → up2 ai (rf 22 59) j (nI v) a = ai a := fun a ha => up2_o _ _ (fun e => ha (by rw [e, rf_div (by decide)]))
  have g := K_fr (fi' := fi) (ai' := ai) bd.2.1 (fun _ _ _ _ => rfl) (fun _ _ _ => rfl) h
  refine ⟨KW_fr (by rw [upN_n (by omega)]; exact bd.2.1) (fun _ _ _ _ => rfl) (fun a x y => ev a (by omega)) (KW_cg (fun q hq => ?_) h.1), ⟨fun i hi => ?_, fun c hc => ?_, fun e a b => ?_⟩, ?_⟩
  · unfold live at hq
    have b1 := bd.1
    have b3 := bd.2.1
    rcases hq with hq | hq | hq | hq | hq | ⟨c, hc, hq⟩ | ⟨m, hm, hq⟩
    · exact upN_n (by omega)
    · exact upN_n (by omega)
    · exact upN_n (by omega)
    · exact upN_n (by omega)
    · exact upN_n (by omega)
    · have := bd.2.2.1 c hc
      rcases hq with hq | hq | ⟨i, hi, hq⟩ <;> exact upN_n (by omega)
    · have := bd.2.2.2 m hm
      rcases hq with ⟨d, hd, hq⟩ | ⟨i, hi, hq⟩ <;> exact upN_n (by omega)
  · by_cases e : i = j
    · subst e; rw [upN_s]; exact up2_s _ _ _ _
    · rw [upN_n (by omega), up2_n _ _ (fun q => e q.2)]; exact h.2.1.1 i hi
  · rw [ev _ (by rw [rf_div (by decide)]; omega), ev _ (by rw [rf_div (by decide)]; omega), ev _ (by rw [rf_div (by decide)]; omega), ev _ (by rw [rf_div (by decide)]; omega), upN_n (by omega), upN_n (by omega), upN_n (by omega), upN_n (by omega)]; exact h.2.1.2.1 c hc
  · rw [ev _ (by rw [rf_div (by decide)]; omega)]; exact h.2.1.2.2 e a b
  · rw [ev _ (by rw [rf_div (by decide)]; omega)]; exact h.2.2
theorem k_pa {fi ai : FI} {w lg : Nat → Nat} {E : Nat} (bd : Bd w) (h : K fi ai w lg E) {c d v : Nat} (hc : c < 6) (hd : d < 4) : K fi (up2 ai (rf 23 (60 + d)) c (nI v)) (upN w (8573 + 4 * c + d) v) lg E := by
  have ev : ∀ a, a / 64 ≠ 60 + d → up2 ai (rf 23 (60 + d)) c (nI v) a = ai a := fun a ha => up2_o _ _ (fun e => ha (by rw [e, rf_div (by decide)]))
  refine ⟨KW_fr (by rw [upN_n (by omega)]; exact bd.2.1) (fun _ _ _ _ => rfl) (fun a x y => ev a (by omega)) (KW_cg (fun q hq => ?_) h.1), ⟨fun i hi => ?_, fun c2 hc2 => ?_, fun e a b => ?_⟩, ?_⟩
  · unfold live at hq
    have b1 := bd.1
    have b3 := bd.2.1
    rcases hq with hq | hq | hq | hq | hq | ⟨c, hc, hq⟩ | ⟨m, hm, hq⟩
    · exact upN_n (by omega)
    · exact upN_n (by omega)
    · exact upN_n (by omega)
    · exact upN_n (by omega)
    · exact upN_n (by omega)
    · have := bd.2.2.1 c hc
      rcases hq with hq | hq | ⟨i, hi, hq⟩ <;> exact upN_n (by omega)
    · have := bd.2.2.2 m hm
      rcases hq with ⟨d, hd, hq⟩ | ⟨i, hi, hq⟩ <;> exact upN_n (by omega)
  · rw [ev _ (by rw [rf_div (by decide)]; omega), upN_n (by omega)]; exact h.2.1.1 i hi
  · have g := h.2.1.2.1 c2 hc2
    have one : ∀ x, x < 4 → ai (rf 23 (60 + x)) c2 = nI (w (8573 + 4 * c2 + x)) → up2 ai (rf 23 (60 + d)) c (nI v) (rf 23 (60 + x)) c2 = nI (upN w (8573 + 4 * c + d) v (8573 + 4 * c2 + x)) := fun x hx gx => by
      by_cases e : x = d ∧ c2 = c
      · obtain ⟨rfl, rfl⟩ := e; rw [upN_s]; exact up2_s _ _ _ _
      · rw [up2_n _ _ (fun q => e ⟨by have := (rf_inj (by decide) (by decide) q.1).2; omega, q.2⟩), upN_n (by omega)]; exact gx
    exact ⟨one 0 (by omega) g.1, one 1 (by omega) g.2.1, one 2 (by omega) g.2.2.1, one 3 (by omega) g.2.2.2⟩
  · rw [ev _ (by rw [rf_div (by decide)]; omega)]; exact h.2.1.2.2 e a b
  · rw [ev _ (by rw [rf_div (by decide)]; omega)]; exact h.2.2
theorem k_pr {fi ai : FI} {w lg : Nat → Nat} {E : Nat} (bd : Bd w) (h : K fi ai w lg E) {e v : Nat} (he : e ≤ E + 1) : K fi (up2 ai (rf 24 64) e (nI v)) w (upN lg e v) e := by
  have ev : ∀ a, a / 64 ≠ 64 → up2 ai (rf 24 64) e (nI v) a = ai a := fun a ha => up2_o _ _ (fun e => ha (by rw [e, rf_div (by decide)]))
  refine ⟨KW_fr bd.2.1 (fun _ _ _ _ => rfl) (fun a x y => ev a (by omega)) h.1, ⟨fun i hi => ?_, fun c2 hc2 => ?_, fun e2 a b => ?_⟩, ?_⟩
  · rw [ev _ (by rw [rf_div (by decide)]; omega)]; exact h.2.1.1 i hi
  · rw [ev _ (by rw [rf_div (by decide)]; omega), ev _ (by rw [rf_div (by decide)]; omega), ev _ (by rw [rf_div (by decide)]; omega), ev _ (by rw [rf_div (by decide)]; omega)]; exact h.2.1.2.1 c2 hc2
  · by_cases q : e2 = e
    · subst q; rw [upN_s]; exact up2_s _ _ _ _
    · rw [upN_n q, up2_n _ _ (fun x => q x.2)]; exact h.2.1.2.2 e2 a (by omega)
  · rw [ev _ (by rw [rf_div (by decide)]; omega)]; exact h.2.2
