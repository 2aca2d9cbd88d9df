theorem cnt_add (p : Nat → Bool) (a : Nat) : ∀ b, cnt p (a + b) = cnt p a + cnt (fun i => p (a + i)) b
  | 0 => rfl
  | b + 1 => by
    show cnt p (a + b) + _ = cnt p a + (cnt (fun i => p (a + i)) b + _)
    rw [cnt_add p a b, Nat.add_assoc]
    rfl
theorem cnt_ext {p q : Nat → Bool} : ∀ n, (∀ i, i < n → p i = q i) → cnt p n = cnt q n
  | 0, _ => rfl
  | n + 1, h => by
    show cnt p n + (if p n then 1 else 0) = cnt q n + (if q n then 1 else 0)
    rw [cnt_ext n (fun i hi => h i (by omega)), h n (by omega)]
def vcF (w : Nat → Nat) (s a n : Nat) : Nat := cnt (fun j => decide (0 < w (1106 + 1000 * s + (a + j)))) n
theorem vcF_ext {w w' : Nat → Nat} {s a n : Nat} (h : ∀ k, a ≤ k → k < a + n → w' (1106 + 1000 * s + k) = w (1106 + 1000 * s + k)) : vcF w' s a n = vcF w s a n := cnt_ext n (fun i hi => by rw [h (a + i) (by omega) (by omega)])
theorem vcF_add (w : Nat → Nat) (s a b c : Nat) : vcF w s a (b + c) = vcF w s a b + vcF w s (a + b) c := by
  unfold vcF
  rw [cnt_add]
  congr 1
  exact cnt_ext c (fun i _ => by rw [Nat.add_assoc a b i])
theorem vcF_t {w : Nat → Nat} {s a n : Nat} (h : w (1106 + 1000 * s + (a + n)) ≠ 0) : vcF w s a (n + 1) = vcF w s a n + 1 := cnt_t (decide_eq_true (Nat.pos_of_ne_zero h))
theorem vcF_f {w : Nat → Nat} {s a n : Nat} (h : w (1106 + 1000 * s + (a + n)) = 0) : vcF w s a (n + 1) = vcF w s a n := cnt_f (decide_eq_false (by omega))
/-- going over keys: how many there were, where the cursor stands, what is left -/
theorem goS_n {w : Nat → Nat} (iv : Inv w) {m ch : Nat} {cl : Bool} (hm : m < w 3) (hft : w (7694 + 72 * m + 3) ≠ w (7694 + 72 * m + 4)) : ∀ j, w (7694 + 72 * m + 5) + j ≤ 1000 →
    (goS w m ch cl j).2 = (if ch ≤ vcF w (w (7694 + 72 * m + 3)) (w (7694 + 72 * m + 5)) j then ch else vcF w (w (7694 + 72 * m + 3)) (w (7694 + 72 * m + 5)) j) ∧
    (∃ c, c ≤ j ∧ (goS w m ch cl j).1 (7694 + 72 * m + 5) = w (7694 + 72 * m + 5) + c ∧ vcF w (w (7694 + 72 * m + 3)) (w (7694 + 72 * m + 5)) c = (goS w m ch cl j).2) ∧
    (∀ k, k < 1000 → (cl = false ∨ (goS w m ch cl j).1 (7694 + 72 * m + 5) ≤ k) → (goS w m ch cl j).1 (1106 + 1000 * w (7694 + 72 * m + 3) + k) = w (1106 + 1000 * w (7694 + 72 * m + 3) + k))
  | 0, _ => ⟨by show 0 = _; unfold vcF cnt; split <;> omega, ⟨0, Nat.le_refl _, rfl, rfl⟩, fun k hk _ => rfl⟩
  | j + 1, hj => by
    obtain ⟨hA, ⟨c, hc1, hc2, hc3⟩, hC⟩ := goS_n iv (ch := ch) (cl := cl) hm hft j (by omega)
    obtain ⟨h1, h2, h3, h4, h5, h6⟩ := goS_in iv (ch := ch) (cl := cl) hm j (by omega)
    have hq := iv_mv iv hm
    have hmm := iv_mm iv
    have e3 := h1 (7694 + 72 * m + 3) (by omega) (by omega)
    have e4 := h1 (7694 + 72 * m + 4) (by omega) (by omega)
    have ek := hC (w (7694 + 72 * m + 5) + j) (by omega) (Or.inr h5)
    rw [goS_s]
    by_cases hcn : (goS w m ch cl j).2 < ch ∧ (goS w m ch cl j).1 (1106 + 1000 * (goS w m ch cl j).1 (7694 + 72 * m + 3) + (w (7694 + 72 * m + 5) + j)) ≠ 0
    · rw [go1_t hcn, e3, e4]
      rw [e3, ek] at hcn
      have ht := vcF_t hcn.2
      have hj2 : (goS w m ch cl j).2 = vcF w (w (7694 + 72 * m + 3)) (w (7694 + 72 * m + 5)) j := by
        rw [hA]; split
        · rename_i hz; rw [if_pos hz] at hA; omega
        · rfl
      refine ⟨?_, ⟨j + 1, Nat.le_refl _, ?_, ?_⟩, fun k hk hk2 => ?_⟩
      · show (goS w m ch cl j).2 + 1 = _
        rw [ht]
        split <;> omega
      · show upN _ _ _ _ = _
        rw [upN_s]; omega
      · show _ = (goS w m ch cl j).2 + 1
        rw [ht]; omega
      · have hk2 : cl = false ∨ w (7694 + 72 * m + 5) + j + 1 ≤ k := by
          rcases hk2 with h | h
          · exact Or.inl h
          · right
            have : upN (if cl then upN (goS w m ch cl j).1 (1106 + 1000 * w (7694 + 72 * m + 3) + (w (7694 + 72 * m + 5) + j)) 0 else upN (goS w m ch cl j).1 (1106 + 1000 * w (7694 + 72 * m + 4) + (w (7694 + 72 * m + 5) + j)) ((goS w m ch cl j).1 (1106 + 1000 * w (7694 + 72 * m + 3) + (w (7694 + 72 * m + 5) + j)))) (7694 + 72 * m + 5) (w (7694 + 72 * m + 5) + j + 1) (7694 + 72 * m + 5) ≤ k := h
            rw [upN_s] at this
            exact this
        show upN _ _ _ _ = _
        rw [upN_n (by omega)]
        cases cl with
        | false =>
          show upN _ _ _ _ = _
          rw [upN_n (by omega)]
          exact hC k hk (Or.inl rfl)
        | true =>
          have hk3 : w (7694 + 72 * m + 5) + j + 1 ≤ k := by
            rcases hk2 with h | h
            · exact absurd h (by decide)
            · exact h
          show upN _ _ _ _ = _
          rw [upN_n (by omega)]
          exact hC k hk (Or.inr (by omega))
    · rw [go1_f hcn]
      rw [e3, ek] at hcn
      refine ⟨?_, ⟨c, by omega, hc2, hc3⟩, hC⟩
      show (goS w m ch cl j).2 = _
      by_cases hz : w (1106 + 1000 * w (7694 + 72 * m + 3) + (w (7694 + 72 * m + 5) + j)) = 0
      · rw [vcF_f hz]; exact hA
      · rw [vcF_t hz, hA]
        have : ¬ (goS w m ch cl j).2 < ch := fun q => hcn ⟨q, hz⟩
        rw [hA] at this
        by_cases hz2 : ch ≤ vcF w (w (7694 + 72 * m + 3)) (w (7694 + 72 * m + 5)) j
        · rw [if_pos hz2, if_pos (by omega)]
        · rw [if_neg hz2] at this; omega
def lsC (w : Nat → Nat) (m a : Nat) : Nat := vcF w (w (7694 + 72 * m + 3)) a (w (7694 + 72 * m + 2) - a) / w 2 + 1
def lsT (w : Nat → Nat) (m : Nat) : Nat := if 1 ≤ (w (7694 + 72 * m + 6) + w 2 - 1) / w 2 then (w (7694 + 72 * m + 6) + w 2 - 1) / w 2 else 1
/-- the steps that a move still lasts -/
def lsN (w : Nat → Nat) (m : Nat) : Nat :=
  if w (7694 + 72 * m + 0) = 4 then lsC w m (w (7694 + 72 * m + 5))
  else if w (7694 + 72 * m + 0) = 3 then 1 + lsC w m (w (7694 + 72 * m + 1))
  else if w (7694 + 72 * m + 0) = 2 then lsT w m + 1 + lsC w m (w (7694 + 72 * m + 1))
  else if w (7694 + 72 * m + 0) = 1 then lsC w m (w (7694 + 72 * m + 5)) + lsT w m + 1 + lsC w m (w (7694 + 72 * m + 1))
  else 0
theorem gov_n {w : Nat → Nat} (iv : Inv w) {m : Nat} {cl : Bool} (hm : m < w 3) (hft : w (7694 + 72 * m + 3) ≠ w (7694 + 72 * m + 4)) :
    (∀ q, (q < 1106 ∨ 7106 ≤ q) → q ≠ 7694 + 72 * m + 5 → q < 8558 → govW w m (w 2) cl q = w q) ∧
    (cl = false → ∀ k, k < 1000 → govW w m (w 2) cl (1106 + 1000 * w (7694 + 72 * m + 3) + k) = w (1106 + 1000 * w (7694 + 72 * m + 3) + k)) ∧
    (govN w m (w 2) cl = w 2 → lsC w m (w (7694 + 72 * m + 5)) = vcF (govW w m (w 2) cl) (w (7694 + 72 * m + 3)) (govW w m (w 2) cl (7694 + 72 * m + 5)) (w (7694 + 72 * m + 2) - govW w m (w 2) cl (7694 + 72 * m + 5)) / w 2 + 1 + 1) ∧
    (govN w m (w 2) cl ≠ w 2 → lsC w m (w (7694 + 72 * m + 5)) = 1) := by
  have hq := iv_mv iv hm
  have hmm := iv_mm iv
  have hch := iv_ch iv
  obtain ⟨hA, ⟨c, hc1, hc2, hc3⟩, hC⟩ := goS_n iv (ch := w 2) (cl := cl) hm hft (govL w m) (by unfold govL; omega)
  have hcw : ∀ q, q < 8558 → govW w m (w 2) cl q = (goS w m (w 2) cl (govL w m)).1 q := fun q hq => upN_n (by cases cl <;> omega)
  have hL : govL w m = w (7694 + 72 * m + 2) - w (7694 + 72 * m + 5) := rfl
  refine ⟨fun q a b c => govW_g iv hm a b c, fun hcl k hk => ?_, fun hn => ?_, fun hn => ?_⟩
  · rw [hcw _ (by omega)]; exact hC k hk (Or.inl hcl)
  · rw [hcw _ (by omega), hc2]
    have hn2 : (goS w m (w 2) cl (govL w m)).2 = w 2 := hn
    have e : vcF (govW w m (w 2) cl) (w (7694 + 72 * m + 3)) (w (7694 + 72 * m + 5) + c) (w (7694 + 72 * m + 2) - (w (7694 + 72 * m + 5) + c)) = vcF w (w (7694 + 72 * m + 3)) (w (7694 + 72 * m + 5) + c) (w (7694 + 72 * m + 2) - (w (7694 + 72 * m + 5) + c)) := vcF_ext (fun k h1 h2 => by rw [hcw _ (by omega)]; exact hC k (by omega) (Or.inr (by rw [hc2]; omega)))
    rw [e]
    unfold lsC
    have ea := vcF_add w (w (7694 + 72 * m + 3)) (w (7694 + 72 * m + 5)) c (w (7694 + 72 * m + 2) - (w (7694 + 72 * m + 5) + c))
    rw [show c + (w (7694 + 72 * m + 2) - (w (7694 + 72 * m + 5) + c)) = w (7694 + 72 * m + 2) - w (7694 + 72 * m + 5) by omega] at ea
    rw [ea, hc3, hn2, Nat.add_div_left _ (by omega)]
  · have hn2 : (goS w m (w 2) cl (govL w m)).2 ≠ w 2 := hn
    unfold lsC
    rw [← hL]
    rw [Nat.div_eq_of_lt]
    split at hA
    · exact absurd hA hn2
    · omega
theorem lsN_fr {w w' : Nat → Nat} {m : Nat} (h2 : w' 2 = w 2) (hd : ∀ d, d < 12 → w' (7694 + 72 * m + d) = w (7694 + 72 * m + d)) (hs : ∀ k, k < 1000 → w' (1106 + 1000 * w (7694 + 72 * m + 3) + k) = w (1106 + 1000 * w (7694 + 72 * m + 3) + k)) (he : w (7694 + 72 * m + 2) ≤ 1000) : lsN w' m = lsN w m := by
  have hC : ∀ a, lsC w' m a = lsC w m a := fun a => by
    unfold lsC
    rw [hd 3 (by omega), hd 2 (by omega), h2, vcF_ext (fun k h1 h2 => hs k (by omega))]
  unfold lsN lsT
  rw [hd 0 (by omega), hd 1 (by omega), hd 5 (by omega), hd 6 (by omega), hC, hC, h2]
theorem lsC_e {w w' : Nat → Nat} {m a : Nat} (h2 : w' 2 = w 2) (h3 : w' (7694 + 72 * m + 3) = w (7694 + 72 * m + 3)) (he : w' (7694 + 72 * m + 2) = w (7694 + 72 * m + 2)) (hs : ∀ k, k < 1000 → w' (1106 + 1000 * w (7694 + 72 * m + 3) + k) = w (1106 + 1000 * w (7694 + 72 * m + 3) + k)) (hb : w (7694 + 72 * m + 2) ≤ 1000) : lsC w' m a = lsC w m a := by
  unfold lsC
  rw [h3, he, h2, vcF_ext (fun k h1 h2 => hs k (by omega))]
theorem lsN_1 {w : Nat → Nat} {m : Nat} (h : w (7694 + 72 * m + 0) = 1) : lsN w m = lsC w m (w (7694 + 72 * m + 5)) + lsT w m + 1 + lsC w m (w (7694 + 72 * m + 1)) := by unfold lsN; rw [h]; rfl
theorem lsN_2 {w : Nat → Nat} {m : Nat} (h : w (7694 + 72 * m + 0) = 2) : lsN w m = lsT w m + 1 + lsC w m (w (7694 + 72 * m + 1)) := by unfold lsN; rw [h]; rfl
theorem lsN_3 {w : Nat → Nat} {m : Nat} (h : w (7694 + 72 * m + 0) = 3) : lsN w m = 1 + lsC w m (w (7694 + 72 * m + 1)) := by unfold lsN; rw [h]; rfl
theorem lsN_4 {w : Nat → Nat} {m : Nat} (h : w (7694 + 72 * m + 0) = 4) : lsN w m = lsC w m (w (7694 + 72 * m + 5)) := by unfold lsN; rw [h]; rfl
theorem lsN_0 {w : Nat → Nat} {m : Nat} (h : goB w m = false) : lsN w m = 0 := by
  unfold goB at h
  have := of_decide_eq_false h
  unfold lsN
  rw [if_neg (by omega), if_neg (by omega), if_neg (by omega), if_neg (by omega)]
theorem lsT_e {w w' : Nat → Nat} {m : Nat} (h2 : w' 2 = w 2) (h6 : w' (7694 + 72 * m + 6) = w (7694 + 72 * m + 6)) : lsT w' m = lsT w m := by unfold lsT; rw [h2, h6]
theorem ls_cat {t c : Nat} (hc : 1 ≤ c) (h : c < t) : (if 1 ≤ (t - c + c - 1) / c then (t - c + c - 1) / c else 1) + 1 = (if 1 ≤ (t + c - 1) / c then (t + c - 1) / c else 1) := by
  have e : (t + c - 1) / c = (t - c + c - 1) / c + 1 := by
    rw [show t + c - 1 = (t - c + c - 1) + c by omega, Nat.add_div_right _ (by omega)]
  have g : 1 ≤ (t - c + c - 1) / c := (Nat.le_div_iff_mul_le (by omega)).mpr (by omega)
  rw [e, if_pos g, if_pos (by omega)]
theorem ls_one {t c : Nat} (hc : 1 ≤ c) (h : t ≤ c) : (if 1 ≤ (t + c - 1) / c then (t + c - 1) / c else 1) = 1 := by
  by_cases h0 : t = 0
  · subst h0
    rw [Nat.div_eq_of_lt (by omega), if_neg (by omega)]
  · have : (t + c - 1) / c = 1 := by
      rw [show t + c - 1 = (t - 1) + c by omega, Nat.add_div_right _ (by omega), Nat.div_eq_of_lt (by omega)]
    rw [this, if_pos (by omega)]
theorem cuS_k {w : Nat → Nat} (iv : Inv w) {m : Nat} (hm : m < w 3) (hft : w (7694 + 72 * m + 3) ≠ w (7694 + 72 * m + 4)) : ∀ j, j ≤ w (7694 + 72 * m + 6) → ∀ k, k < 1000 → cuS w m j (1106 + 1000 * w (7694 + 72 * m + 3) + k) = w (1106 + 1000 * w (7694 + 72 * m + 3) + k)
  | 0, _, k, _ => rfl
  | j + 1, hj, k, hk => by
    have ih := cuS_k iv hm hft j (by omega) k hk
    have hq := iv_mv iv hm
    have hmm := iv_mm iv
    obtain ⟨g1, g2⟩ := cuS_in iv hm j (by omega)
    unfold cuS
    have := hq.2.2.2.2.2.2.2.2.2.2.2 j (by omega)
    rw [upN_n (by omega)]
    exact ih
theorem ls_step {w : Nat → Nat} (iv : Inv w) {m : Nat} (hm : m < w 3) (hft : w (7694 + 72 * m + 3) ≠ w (7694 + 72 * m + 4)) (hg : goB w m = true) : lsN (steW w m) m + 1 = lsN w m ∧ steW w m (7694 + 72 * m + 3) = w (7694 + 72 * m + 3) ∧ steW w m (7694 + 72 * m + 4) = w (7694 + 72 * m + 4) := by
  have hq := iv_mv iv hm
  have hmm := iv_mm iv
  have h1 := iv_n iv
  have hch := iv_ch iv
  have hst : 1 ≤ w (7694 + 72 * m + 0) ∧ w (7694 + 72 * m + 0) ≤ 4 := of_decide_eq_true hg
  have cl0 : ∀ q, (q < 1106 ∨ (7106 ≤ q ∧ q < 7694 + 72 * m + 12)) → q ≠ 7694 + 72 * m + 6 → catW w m (w 2) q = w q := fun q h1 h2 => by
    unfold catW
    rw [upN_n (by omega), upN_n (by omega), tsF_fr (by omega)]
    exact (cuS_in iv hm _ (by unfold cuN; split <;> omega)).1 _ (by omega)
  have cl6 : catW w m (w 2) (7694 + 72 * m + 6) = w (7694 + 72 * m + 6) - cuN w m (w 2) := by unfold catW; rw [upN_n (by omega), upN_s]
  have clk : ∀ k, k < 1000 → catW w m (w 2) (1106 + 1000 * w (7694 + 72 * m + 3) + k) = w (1106 + 1000 * w (7694 + 72 * m + 3) + k) := fun k hk => by
    unfold catW
    rw [upN_n (by omega), upN_n (by omega), tsF_fr (by omega)]
    exact cuS_k iv hm hft _ (by unfold cuN; split <;> omega) k hk
  unfold steW
  split
  · rename_i hs
    obtain ⟨g1, g2, g3, g4⟩ := gov_n iv (cl := false) hm hft
    unfold gonW
    split
    · rename_i hn
      have e : ∀ d, d < 72 → d ≠ 5 → govW w m (w 2) false (7694 + 72 * m + d) = w (7694 + 72 * m + d) := fun d hd h5 => g1 _ (by omega) (by omega) (by omega)
      refine ⟨?_, e 3 (by omega) (by omega), e 4 (by omega) (by omega)⟩
      have eC : ∀ a, lsC (govW w m (w 2) false) m a = lsC w m a := fun a => lsC_e (g1 2 (by omega) (by omega) (by omega)) (e 3 (by omega) (by omega)) (e 2 (by omega) (by omega)) (g2 rfl) hq.2.2.1
      have eD := g3 hn
      have eE : lsC (govW w m (w 2) false) m (govW w m (w 2) false (7694 + 72 * m + 5)) = vcF (govW w m (w 2) false) (w (7694 + 72 * m + 3)) (govW w m (w 2) false (7694 + 72 * m + 5)) (w (7694 + 72 * m + 2) - govW w m (w 2) false (7694 + 72 * m + 5)) / w 2 + 1 := by
        unfold lsC; rw [e 3 (by omega) (by omega), e 2 (by omega) (by omega), g1 2 (by omega) (by omega) (by omega)]
      rw [lsN_1 hs, lsN_1 (by rw [e 0 (by omega) (by omega)]; exact hs), eE, lsT_e (g1 2 (by omega) (by omega) (by omega)) (e 6 (by omega) (by omega)), e 1 (by omega) (by omega), eC, eD]
      omega
    · rename_i hn
      have e : ∀ q, (q < 1106 ∨ 7106 ≤ q) → q ≠ 7694 + 72 * m + 5 → q ≠ 7694 + 72 * m + 0 → q < 8558 → upN (upN (govW w m (w 2) false) (7694 + 72 * m + 0) 2) (7694 + 72 * m + 5) (w (7694 + 72 * m + 2)) q = w q := fun q a b c d => by rw [upN_n b, upN_n c]; exact g1 q a b d
      rw [if_neg (by decide)]
      refine ⟨?_, e _ (by omega) (by omega) (by omega) (by omega), e _ (by omega) (by omega) (by omega) (by omega)⟩
      have eC : ∀ a, lsC (upN (upN (govW w m (w 2) false) (7694 + 72 * m + 0) 2) (7694 + 72 * m + 5) (w (7694 + 72 * m + 2))) m a = lsC w m a := fun a => lsC_e (e 2 (by omega) (by omega) (by omega) (by omega)) (e _ (by omega) (by omega) (by omega) (by omega)) (e _ (by omega) (by omega) (by omega) (by omega)) (fun k hk => by rw [upN_n (by omega), upN_n (by omega)]; exact g2 rfl k hk) hq.2.2.1
      have es : upN (upN (govW w m (w 2) false) (7694 + 72 * m + 0) 2) (7694 + 72 * m + 5) (w (7694 + 72 * m + 2)) (7694 + 72 * m + 0) = 2 := by rw [upN_n (by omega), upN_s]
      rw [lsN_1 hs, lsN_2 es, lsT_e (w' := upN (upN (govW w m (w 2) false) (7694 + 72 * m + 0) 2) (7694 + 72 * m + 5) (w (7694 + 72 * m + 2))) (w := w) (e 2 (by omega) (by omega) (by omega) (by omega)) (e (7694 + 72 * m + 6) (by omega) (by omega) (by omega) (by omega)), e (7694 + 72 * m + 1) (by omega) (by omega) (by omega) (by omega), eC, g4 hn]
      omega
  · split
    · rename_i hs
      have eC : ∀ a, lsC (catW w m (w 2)) m a = lsC w m a := fun a => lsC_e (cl0 2 (by omega) (by omega)) (cl0 _ (by omega) (by omega)) (cl0 _ (by omega) (by omega)) clk hq.2.2.1
      split
      · rename_i h6
        rw [cl6] at h6
        have ht : w (7694 + 72 * m + 6) ≤ w 2 := by unfold cuN at h6; split at h6 <;> omega
        have e : ∀ q, (q < 1106 ∨ (7106 ≤ q ∧ q < 7694 + 72 * m + 12)) → q ≠ 7694 + 72 * m + 6 → q ≠ 7694 + 72 * m + 0 → upN (catW w m (w 2)) (7694 + 72 * m + 0) 3 q = w q := fun q a b c => by rw [upN_n c]; exact cl0 q a b
        refine ⟨?_, e _ (by omega) (by omega) (by omega), e _ (by omega) (by omega) (by omega)⟩
        have eC2 : ∀ a, lsC (upN (catW w m (w 2)) (7694 + 72 * m + 0) 3) m a = lsC w m a := fun a => lsC_e (e 2 (by omega) (by omega) (by omega)) (e _ (by omega) (by omega) (by omega)) (e _ (by omega) (by omega) (by omega)) (fun k hk => by rw [upN_n (by omega)]; exact clk k hk) hq.2.2.1
        rw [lsN_3 (upN_s _ _ _), lsN_2 hs, e (7694 + 72 * m + 1) (by omega) (by omega) (by omega), eC2]
        unfold lsT
        rw [ls_one (by omega) ht]
        omega
      · rename_i h6
        rw [cl6] at h6
        have ht : w 2 < w (7694 + 72 * m + 6) := by unfold cuN at h6; split at h6 <;> omega
        have hcu : cuN w m (w 2) = w 2 := by unfold cuN; rw [if_pos ht]
        refine ⟨?_, cl0 _ (by omega) (by omega), cl0 _ (by omega) (by omega)⟩
        rw [lsN_2 hs, lsN_2 (by rw [cl0 _ (by omega) (by omega)]; exact hs), cl0 (7694 + 72 * m + 1) (by omega) (by omega), eC]
        unfold lsT
        rw [cl6, hcu, cl0 2 (by omega) (by omega), ← ls_cat (by omega) ht]
        omega
    · split
      · rename_i hs
        have e : ∀ q, 106 ≤ q → q ≠ 7694 + 72 * m + 11 → q ≠ 7694 + 72 * m + 0 → q ≠ 7694 + 72 * m + 5 → swiW w m q = w q := fun q a b c d => by
          have := spW_lt iv (w (7694 + 72 * m + 1))
          unfold swiW
          rw [upN_n d, upN_n c, upN_n b, upN_n (by omega), upN_n (by omega), upN_n (by omega)]
        have e2 : swiW w m 2 = w 2 := by unfold swiW; rw [upN_n (by omega), upN_n (by omega), upN_n (by omega), upN_n (by omega), upN_n (by omega), upN_n (by omega)]
        have e5 : swiW w m (7694 + 72 * m + 5) = w (7694 + 72 * m + 1) := by unfold swiW; rw [upN_s]
        have e0 : swiW w m (7694 + 72 * m + 0) = 4 := by unfold swiW; rw [upN_n (by omega), upN_s]
        refine ⟨?_, e _ (by omega) (by omega) (by omega) (by omega), e _ (by omega) (by omega) (by omega) (by omega)⟩
        have eC : ∀ a, lsC (swiW w m) m a = lsC w m a := fun a => lsC_e e2 (e _ (by omega) (by omega) (by omega) (by omega)) (e _ (by omega) (by omega) (by omega) (by omega)) (fun k hk => e _ (by omega) (by omega) (by omega) (by omega)) hq.2.2.1
        unfold lsN
        rw [e0, hs, if_pos rfl, if_neg (by omega), if_pos rfl, e5, eC]
        omega
      · have hs : w (7694 + 72 * m + 0) = 4 := by omega
        obtain ⟨g1, g2, g3, g4⟩ := gov_n iv (cl := true) hm hft
        unfold gonW
        split
        · rename_i hn
          have e : ∀ d, d < 72 → d ≠ 5 → govW w m (w 2) true (7694 + 72 * m + d) = w (7694 + 72 * m + d) := fun d hd h5 => g1 _ (by omega) (by omega) (by omega)
          refine ⟨?_, e 3 (by omega) (by omega), e 4 (by omega) (by omega)⟩
          have eE : lsC (govW w m (w 2) true) m (govW w m (w 2) true (7694 + 72 * m + 5)) = vcF (govW w m (w 2) true) (w (7694 + 72 * m + 3)) (govW w m (w 2) true (7694 + 72 * m + 5)) (w (7694 + 72 * m + 2) - govW w m (w 2) true (7694 + 72 * m + 5)) / w 2 + 1 := by
            unfold lsC; rw [e 3 (by omega) (by omega), e 2 (by omega) (by omega), g1 2 (by omega) (by omega) (by omega)]
          unfold lsN
          rw [e 0 (by omega) (by omega), hs, if_pos rfl, if_pos rfl, eE, g3 hn]
        · rename_i hn
          rw [if_pos rfl]
          refine ⟨?_, ?_, ?_⟩
          · unfold lsN
            rw [upN_n (by omega), upN_n (by omega), upN_s, hs, if_neg (by omega), if_neg (by omega), if_neg (by omega), if_neg (by omega), if_pos rfl, g4 hn]
          · rw [upN_n (by omega), upN_n (by omega), upN_n (by omega)]; exact g1 _ (by omega) (by omega) (by omega)
          · rw [upN_n (by omega), upN_n (by omega), upN_n (by omega)]; exact g1 _ (by omega) (by omega) (by omega)
