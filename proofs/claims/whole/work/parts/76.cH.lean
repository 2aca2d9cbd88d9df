theorem son_f {w : Nat → Nat} (iv : Inv w) {m : Nat} (hm : m < w 3) (hst : 1 ≤ w (7694 + 72 * m + 0) ∧ w (7694 + 72 * m + 0) ≤ 4) :
    (∀ d, (1 ≤ d ∧ d ≤ 4) → sonW w m (7694 + 72 * m + d) = w (7694 + 72 * m + d)) ∧ ((sonW w m 0 = w 0 ∧ sonW w m (7694 + 72 * m + 11) = w (7694 + 72 * m + 11)) ∨ (sonW w m 0 = w 0 + 1 ∧ sonW w m (7694 + 72 * m + 11) = w 0 + 1)) ∧
    ((1 ≤ sonW w m (7694 + 72 * m + 0) ∧ sonW w m (7694 + 72 * m + 0) ≤ 4) ∨ sonW w m (7694 + 72 * m + 7) = w (7694 + 72 * m + 7)) := by
  have hmm := iv_mm iv
  have iv3 := so3_Inv iv hm
  have hm3 : m < so3 w m 3 := by rw [so3_fr (by omega) (by omega) (by omega)]; exact hm
  have S : ∀ q, q ≠ 8558 + 11 → q ≠ 7694 + 72 * m + 9 → q ≠ 7694 + 72 * m + 10 → so3 w m q = w q := fun q a b c => so3_fr a b c
  have cf : ∀ (x : Nat → Nat) (ch q : Nat), Inv x → m < x 3 → (q = 0 ∨ (7694 + 72 * m ≤ q ∧ q < 7694 + 72 * m + 12 ∧ q ≠ 7694 + 72 * m + 6)) → catW x m ch q = x q := fun x ch q ix hx hq => by
    have h6 := (iv_mv ix hx).2.2.2.2.2.2.2.1
    unfold catW
    rw [upN_n (by omega), upN_n (by omega), tsF_fr (by omega)]
    exact (cuS_in ix hx _ (by unfold cuN; split <;> omega)).1 _ (by omega)
  have gf : ∀ (x : Nat → Nat) (ch q : Nat) (cl : Bool), Inv x → m < x 3 → (q = 0 ∨ (7694 + 72 * m ≤ q ∧ q < 7694 + 72 * m + 12 ∧ q ≠ 7694 + 72 * m + 5)) → govW x m ch cl q = x q := fun x ch q cl ix hx hq => govW_g ix hx (by omega) (by omega) (by omega)
  have iv4 := fa2_Inv iv3 hm3
  have hm4 : m < fa2 (so3 w m) m 3 := by rw [fa2_fr (by omega) (by omega)]; exact hm3
  have F : ∀ q, q ≠ 8558 + 11 → q ≠ 7694 + 72 * m + 9 → q ≠ 7694 + 72 * m + 10 → q ≠ 7694 + 72 * m + 8 → q ≠ 8558 + 12 → fa2 (so3 w m) m q = w q := fun q a b c d e => by rw [fa2_fr d e]; exact S q a b c
  have hsp := spW_lt iv3 (so3 w m (7694 + 72 * m + 1))
  have hsp2 := spW_lt iv3 (w (7694 + 72 * m + 1))
  have h1 := iv_n iv3
  have s0 := S (7694 + 72 * m + 0) (by omega) (by omega) (by omega)
  refine ⟨fun d hd => ?_, ?_, ?_⟩
  · unfold sonW
    split
    · unfold faiW
      repeat' split
      all_goals (simp (disch := first | omega | assumption) only [upN_n, cf, gf, F])
    · unfold steW gonW
      repeat' split
      all_goals (first | (unfold swiW; simp (disch := omega) only [upN_n, S]; done) | (simp (disch := first | omega | assumption) only [upN_n, cf, gf, S]; done) | contradiction | (exfalso; rename_i hh; exact absurd rfl hh) | (exfalso; rename_i hh; exact absurd hh (by decide)))
  · unfold sonW
    split
    · left
      unfold faiW
      repeat' split
      all_goals (simp (disch := first | omega | assumption) only [upN_n, cf, gf, F, and_self])
    · unfold steW gonW
      repeat' split
      all_goals (first | (left; simp (disch := first | omega | assumption) only [upN_n, cf, gf, S, and_self]; done) | (right; unfold swiW; simp (disch := omega) only [upN_n, upN_s, S, and_self]; done))
  · unfold sonW
    split
    · left
      unfold faiW
      repeat' split
      all_goals (simp (disch := first | omega | assumption) only [upN_n, cf, gf, F]; exact hst)
    · right
      unfold steW gonW
      repeat' split
      all_goals (first | (unfold swiW; simp (disch := omega) only [upN_n, S]; done) | (simp (disch := first | omega | assumption) only [upN_n, cf, gf, S]; done) | contradiction | (exfalso; rename_i hh; exact absurd rfl hh) | (exfalso; rename_i hh; exact absurd hh (by decide)))
theorem st_I2 {w w' : Nat → Nat} (iv : Inv w) (h : Inv2 w) {m : Nat} (hm : m < w 3) (hg : goB w m = true) (hb : w (7694 + 72 * m + 7) = 0) (hq : ∀ q, 1 ≤ q → q < 42 → w' q = w q) (hr : ∀ m' d, m' < w 3 → m' ≠ m → d < 12 → w' (7694 + 72 * m' + d) = w (7694 + 72 * m' + d)) (hd : ∀ d, (1 ≤ d ∧ d ≤ 4) → w' (7694 + 72 * m + d) = w (7694 + 72 * m + d))
    (he : (w' 0 = w 0 ∧ w' (7694 + 72 * m + 11) = w (7694 + 72 * m + 11)) ∨ (w' 0 = w 0 + 1 ∧ w' (7694 + 72 * m + 11) = w 0 + 1)) (h7 : w' (7694 + 72 * m + 7) = 1 → goB w' m = true) : Inv2 w' := by
  obtain ⟨h1, h2, h3⟩ := h
  have hmm := iv_mm iv
  have hn := iv_n iv
  have e1 := hq 1 (by omega) (by omega)
  have e3 := hq 3 (by omega) (by omega)
  have en : ∀ i, i < w 1 → enF w' i = enF w i := fun i hi => by
    unfold enF
    rw [e1]
    split
    · exact hq _ (by omega) (by omega)
    · rfl
  refine ⟨by omega, fun m' hml => ?_, fun a b hab hml => ?_⟩
  · rw [e3] at hml
    have g := h2 m' hml
    have gi := iv_mv iv hml
    by_cases e : m' = m
    · subst e
      unfold Mv2
      rw [hd 1 (by omega), hd 2 (by omega), hd 3 (by omega), hd 4 (by omega), hq (4 + w (7694 + 72 * m' + 3)) (by omega) (by omega), hq (4 + w (7694 + 72 * m' + 4)) (by omega) (by omega)]
      refine ⟨fun _ => ?_, fun _ _ => g.2.1 hg hb, g.2.2.1, h7, by have := g.2.2.2.2; omega⟩
      obtain ⟨i, hi, a, b⟩ := g.1 hg
      exact ⟨i, by omega, by rw [hq _ (by omega) (by omega)]; exact a, by rw [en i hi]; exact b⟩
    · unfold Mv2
      rw [goB_e (hr m' 0 hml e (by omega)), hr m' 1 hml e (by omega), hr m' 2 hml e (by omega), hr m' 3 hml e (by omega), hr m' 4 hml e (by omega), hr m' 7 hml e (by omega), hr m' 11 hml e (by omega), hq (4 + w (7694 + 72 * m' + 3)) (by omega) (by omega), hq (4 + w (7694 + 72 * m' + 4)) (by omega) (by omega)]
      refine ⟨fun hgo => ?_, g.2.1, g.2.2.1, g.2.2.2.1, by have := g.2.2.2.2; omega⟩
      obtain ⟨i, hi, a, b⟩ := g.1 hgo
      exact ⟨i, by omega, by rw [hq _ (by omega) (by omega)]; exact a, by rw [en i hi]; exact b⟩
  · rw [e3] at hml
    have g := h3 a b hab hml
    by_cases ea : a = m
    · subst ea
      have gb : b ≠ a := by omega
      intro x y
      rw [hd 1 (by omega), hr b 2 hml gb (by omega)] at x
      rw [hd 2 (by omega), hr b 1 hml gb (by omega)] at y
      have := (g x y).1
      rw [hg] at this
      exact absurd this (by decide)
    · by_cases eb : b = m
      · subst eb
        intro x y
        rw [hr a 1 (by omega) ea (by omega), hd 2 (by omega)] at x
        rw [hd 1 (by omega), hr a 2 (by omega) ea (by omega)] at y
        obtain ⟨p1, p2⟩ := g x y
        refine ⟨by rw [goB_e (hr a 0 (by omega) ea (by omega))]; exact p1, ?_⟩
        rw [hr a 11 (by omega) ea (by omega)]
        intro n1 n2
        rcases he with ⟨he1, he2⟩ | ⟨he1, he2⟩
        · rw [he2] at n2 ⊢; exact p2 n1 n2
        · have := (h2 a (by omega)).2.2.2.2; omega
      · unfold Pr2
        rw [goB_e (hr a 0 (by omega) ea (by omega)), hr a 1 (by omega) ea (by omega), hr a 2 (by omega) ea (by omega), hr a 11 (by omega) ea (by omega), hr b 1 hml eb (by omega), hr b 2 hml eb (by omega), hr b 11 hml eb (by omega)]
        exact g
theorem son_I2 {w : Nat → Nat} (iv : Inv w) (h : Inv2 w) {m : Nat} (hm : m < w 3) (hg : goB w m = true) (hb : w (7694 + 72 * m + 7) = 0) (h0 : w (7694 + 72 * m + 0) = 3 → w 0 < 1999) : Inv2 (sonW w m) := by
  have hst := goB_e1 hg
  have hmm := iv_mm iv
  obtain ⟨f1, f2, f3⟩ := son_f iv hm hst
  have hS := (sonW_St iv hm h0).1
  refine st_I2 iv h hm hg hb (fun q a b => hS q (by omega) (by unfold stO; omega)) (fun m' d x y z => hS _ (by omega) (by unfold stO; omega)) f1 f2 (fun e => ?_)
  rcases f3 with f3 | f3
  · exact decide_eq_true f3
  · rw [f3, hb] at e; omega
theorem up_I2 {w : Nat → Nat} (iv : Inv w) (h : Inv2 w) {s : Nat} (hs : s < 6) : Inv2 (upN w (4 + s) 1) := by
  obtain ⟨h1, h2, h3⟩ := h
  have hmm := iv_mm iv
  have hn := iv_n iv
  have f : ∀ q, q < 4 ∨ 10 ≤ q → upN w (4 + s) 1 q = w q := fun q hq => upN_n (by omega)
  have fu : ∀ x, w (4 + x) = 1 → upN w (4 + s) 1 (4 + x) = 1 := fun x hx => by
    unfold upN
    split
    · rfl
    · exact hx
  refine ⟨by rw [f 0 (by omega)]; exact h1, fun m hml => ?_, fun a b hab hml => ?_⟩
  · rw [f 3 (by omega)] at hml
    have g := h2 m hml
    unfold Mv2
    rw [goB_e (f _ (by omega)), f (7694 + 72 * m + 1) (by omega), f (7694 + 72 * m + 2) (by omega), f (7694 + 72 * m + 3) (by omega), f (7694 + 72 * m + 4) (by omega), f (7694 + 72 * m + 7) (by omega), f (7694 + 72 * m + 11) (by omega), f 0 (by omega)]
    refine ⟨fun hgo => ?_, fun x y => ⟨fu _ (g.2.1 x y).1, fu _ (g.2.1 x y).2⟩, g.2.2⟩
    obtain ⟨i, hi, a, b⟩ := g.1 hgo
    refine ⟨i, by rw [f 1 (by omega)]; exact hi, by rw [f _ (by omega)]; exact a, ?_⟩
    rw [← b]
    unfold enF
    rw [f 1 (by omega)]
    split
    · exact f _ (by omega)
    · rfl
  · rw [f 3 (by omega)] at hml
    unfold Pr2
    rw [goB_e (f _ (by omega)), f (7694 + 72 * a + 1) (by omega), f (7694 + 72 * a + 2) (by omega), f (7694 + 72 * a + 11) (by omega), f (7694 + 72 * b + 1) (by omega), f (7694 + 72 * b + 2) (by omega), f (7694 + 72 * b + 11) (by omega)]
    exact h3 a b hab hml
/-- a move ends -/
theorem end_I2 {w : Nat → Nat} (iv : Inv w) (h : Inv2 w) {m : Nat} (hm : m < w 3) (hg : goB w m = true) : Inv2 (endW w m) := by
  obtain ⟨h1, h2, h3⟩ := h
  have hmm := iv_mm iv
  have hn := iv_n iv
  have hst := goB_e1 hg
  have hq := iv_mv iv hm
  have f : ∀ q, q < 1106 ∨ 7106 ≤ q → q ≠ 7694 + 72 * m + 0 → q ≠ 7694 + 72 * m + 7 → q < 8558 → endW w m q = w q := fun q a b c d => end_fr iv hm a b c d
  have g0 : goB (endW w m) m = false := by
    have : endW w m (7694 + 72 * m + 0) = endS w m := by
      unfold endW
      have : 8558 + (if w (7694 + 72 * m + 0) ≤ 3 then 10 else 9) ≠ 7694 + 72 * m + 0 := by split <;> omega
      rw [upN_n (fun e => this e.symm), upN_n (by omega), upN_s]
    unfold goB
    rw [this]
    unfold endS
    split <;> rfl
  have g7 : endW w m (7694 + 72 * m + 7) = 0 := by
    unfold endW
    have : 8558 + (if w (7694 + 72 * m + 0) ≤ 3 then 10 else 9) ≠ 7694 + 72 * m + 7 := by split <;> omega
    rw [upN_n (fun e => this e.symm), upN_s]
  have gg : ∀ m', m' < w 3 → goB (endW w m) m' = true → goB w m' = true ∧ m' ≠ m := fun m' hm' x => by
    by_cases e : m' = m
    · subst e; rw [g0] at x; cases x
    · rw [goB_e (f _ (by omega) (by omega) (by omega) (by omega))] at x; exact ⟨x, e⟩
  refine ⟨by rw [f 0 (by omega) (by omega) (by omega) (by omega)]; exact h1, fun m' hml => ?_, fun a b hab hml => ?_⟩
  · rw [f 3 (by omega) (by omega) (by omega) (by omega)] at hml
    have g := h2 m' hml
    have gi := iv_mv iv hml
    unfold Mv2
    rw [f (7694 + 72 * m' + 1) (by omega) (by omega) (by omega) (by omega), f (7694 + 72 * m' + 2) (by omega) (by omega) (by omega) (by omega), f (7694 + 72 * m' + 3) (by omega) (by omega) (by omega) (by omega), f (7694 + 72 * m' + 4) (by omega) (by omega) (by omega) (by omega), f (7694 + 72 * m' + 11) (by omega) (by omega) (by omega) (by omega), f 0 (by omega) (by omega) (by omega) (by omega), f (4 + w (7694 + 72 * m' + 3)) (by omega) (by omega) (by omega) (by omega), f (4 + w (7694 + 72 * m' + 4)) (by omega) (by omega) (by omega) (by omega)]
    refine ⟨fun hgo => ?_, fun x y => ?_, g.2.2.1, fun x => ?_, g.2.2.2.2⟩
    · obtain ⟨i, hi, a, b⟩ := g.1 (gg m' hml hgo).1
      refine ⟨i, by rw [f 1 (by omega) (by omega) (by omega) (by omega)]; exact hi, by rw [f _ (by omega) (by omega) (by omega) (by omega)]; exact a, ?_⟩
      rw [← b]
      unfold enF
      rw [f 1 (by omega) (by omega) (by omega) (by omega)]
      split
      · exact f _ (by omega) (by omega) (by omega) (by omega)
      · rfl
    · obtain ⟨x1, x2⟩ := gg m' hml x
      rw [f (7694 + 72 * m' + 7) (by omega) (by omega) (by omega) (by omega)] at y
      exact g.2.1 x1 y
    · by_cases e : m' = m
      · subst e; rw [g7] at x; omega
      · rw [f (7694 + 72 * m' + 7) (by omega) (by omega) (by omega) (by omega)] at x
        rw [goB_e (f _ (by omega) (by omega) (by omega) (by omega))]
        exact g.2.2.2.1 x
  · rw [f 3 (by omega) (by omega) (by omega) (by omega)] at hml
    intro x y
    rw [f (7694 + 72 * a + 1) (by omega) (by omega) (by omega) (by omega), f (7694 + 72 * b + 2) (by omega) (by omega) (by omega) (by omega)] at x
    rw [f (7694 + 72 * b + 1) (by omega) (by omega) (by omega) (by omega), f (7694 + 72 * a + 2) (by omega) (by omega) (by omega) (by omega)] at y
    obtain ⟨p1, p2⟩ := h3 a b hab hml x y
    rw [f (7694 + 72 * a + 11) (by omega) (by omega) (by omega) (by omega), f (7694 + 72 * b + 11) (by omega) (by omega) (by omega) (by omega)]
    refine ⟨?_, p2⟩
    by_cases e : a = m
    · subst e; exact g0
    · rw [goB_e (f _ (by omega) (by omega) (by omega) (by omega))]; exact p1
/-- a move begins -/
theorem mov_I2 {w : Nat → Nat} (iv : Inv w) (h : Inv2 w) {i s : Nat} (hi : i < w 1) (hs : s < 6) (h3m : w 3 < 12) (hc : movC w i s = true) : Inv2 (movW w i s) := by
  obtain ⟨h1, h2, h3⟩ := h
  have hn := iv_n iv
  have ho := iv_own iv hi
  have hen := enF_le iv hi
  unfold movC at hc
  simp only [Bool.and_eq_true, decide_eq_true_eq] at hc
  obtain ⟨⟨⟨⟨⟨c1, c2⟩, c3⟩, c4⟩, c5⟩, c6⟩ := hc
  have u1 := iv_up iv hs
  have u2 := iv_up iv ho
  have f : ∀ q, q ≠ 3 → (q < 7694 + 72 * w 3 ∨ (7694 + 72 * w 3 + 72 ≤ q ∧ q ≠ 8558 + 8)) → movW w i s q = w q := fun q a b => mov_fr h3m a b
  have n3 : movW w i s 3 = w 3 + 1 := by rw [mov_v h3m, if_neg (by omega), if_pos rfl]
  have nr : ∀ d, d < 72 → movW w i s (7694 + 72 * w 3 + d) = if d = 5 then w (10 + i) else if d = 4 then s else if d = 3 then w (42 + i) else if d = 2 then enF w i else if d = 1 then w (10 + i) else if d = 0 then 1 else 0 := fun d hd => mov_new h3m d hd
  have r1 : movW w i s (7694 + 72 * w 3 + 1) = w (10 + i) := by rw [nr 1 (by omega)]; rfl
  have r2 : movW w i s (7694 + 72 * w 3 + 2) = enF w i := by rw [nr 2 (by omega)]; rfl
  have r3 : movW w i s (7694 + 72 * w 3 + 3) = w (42 + i) := by rw [nr 3 (by omega)]; rfl
  have r4 : movW w i s (7694 + 72 * w 3 + 4) = s := by rw [nr 4 (by omega)]; rfl
  have r7 : movW w i s (7694 + 72 * w 3 + 7) = 0 := by rw [nr 7 (by omega)]; rfl
  have r11 : movW w i s (7694 + 72 * w 3 + 11) = 0 := by rw [nr 11 (by omega)]; rfl
  have en : ∀ j, j < w 1 → enF (movW w i s) j = enF w j := fun j hj => by
    unfold enF
    rw [f 1 (by omega) (by omega)]
    split
    · exact f _ (by omega) (by omega)
    · rfl
  refine ⟨by rw [f 0 (by omega) (by omega)]; exact h1, fun m hml => ?_, fun a b hab hml => ?_⟩
  · rw [n3] at hml
    by_cases e : m = w 3
    · subst e
      unfold Mv2
      rw [r1, r2, r3, r4, r7, r11, f (4 + w (42 + i)) (by omega) (by omega), f (4 + s) (by omega) (by omega)]
      refine ⟨fun _ => ⟨i, by rw [f 1 (by omega) (by omega)]; exact hi, f _ (by omega) (by omega), en i hi⟩, fun _ _ => by omega, c1, fun x => by omega, by omega⟩
    · have hm : m < w 3 := by omega
      have g := h2 m hm
      have gi := iv_mv iv hm
      unfold Mv2
      rw [goB_e (f _ (by omega) (by omega)), f (7694 + 72 * m + 1) (by omega) (by omega), f (7694 + 72 * m + 2) (by omega) (by omega), f (7694 + 72 * m + 3) (by omega) (by omega), f (7694 + 72 * m + 4) (by omega) (by omega), f (7694 + 72 * m + 7) (by omega) (by omega), f (7694 + 72 * m + 11) (by omega) (by omega), f 0 (by omega) (by omega), f (4 + w (7694 + 72 * m + 3)) (by omega) (by omega), f (4 + w (7694 + 72 * m + 4)) (by omega) (by omega)]
      refine ⟨fun hgo => ?_, g.2⟩
      obtain ⟨j, hj, a, b⟩ := g.1 hgo
      exact ⟨j, by rw [f 1 (by omega) (by omega)]; exact hj, by rw [f _ (by omega) (by omega)]; exact a, by rw [en j hj]; exact b⟩
  · rw [n3] at hml
    by_cases e : b = w 3
    · subst e
      have ha : a < w 3 := by omega
      intro x y
      rw [f (7694 + 72 * a + 1) (by omega) (by omega), r2] at x
      rw [f (7694 + 72 * a + 2) (by omega) (by omega), r1] at y
      refine ⟨?_, fun _ q => absurd r11 q⟩
      rw [goB_e (f _ (by omega) (by omega))]
      cases hg : goB w a with
      | false => rfl
      | true =>
        exfalso
        obtain ⟨j, hj, p, q⟩ := (h2 a ha).1 hg
        have hj2 := enF_le iv hj
        rw [← p] at x
        rw [← q] at y
        have hji : j = i := by
          rcases Nat.lt_trichotomy j i with z | z | z
          · have := en_lt iv hi z; omega
          · exact z
          · have := en_lt iv hj z; omega
        subst hji
        cases hv : mvL w (w (10 + j)) with
        | some z => rw [hv] at c2; simp at c2
        | none =>
          have := fO_none hv a ha
          rw [hg, p] at this
          simp at this
    · have hb : b < w 3 := by omega
      unfold Pr2
      rw [goB_e (f _ (by omega) (by omega)), f (7694 + 72 * a + 1) (by omega) (by omega), f (7694 + 72 * a + 2) (by omega) (by omega), f (7694 + 72 * a + 11) (by omega) (by omega), f (7694 + 72 * b + 1) (by omega) (by omega), f (7694 + 72 * b + 2) (by omega) (by omega), f (7694 + 72 * b + 11) (by omega) (by omega)]
      exact h3 a b hab hb
/-- a server goes down -/
theorem dn1_7 {w : Nat → Nat} {s m : Nat} (h7 : w (7694 + 72 * m + 7) ≤ 1) : dn1 w s m (7694 + 72 * m + 7) = if goB w m = true ∧ (w (7694 + 72 * m + 3) = s ∨ w (7694 + 72 * m + 4) = s) then 1 else w (7694 + 72 * m + 7) := by
  unfold dn1
  split
  · repeat' split
    all_goals (try simp (disch := omega) only [upN_n, upN_s])
    all_goals omega
  · rfl
theorem dnF_7 {w : Nat → Nat} (iv : Inv w) {s : Nat} (hs : s < 6) : ∀ j, j ≤ w 3 → ∀ m, m < w 3 → dnF w s j (7694 + 72 * m + 7) = if m < j ∧ goB w m = true ∧ (w (7694 + 72 * m + 3) = s ∨ w (7694 + 72 * m + 4) = s) then 1 else w (7694 + 72 * m + 7)
  | 0, _, m, hm => by
    rw [if_neg (fun q => absurd q.1 (by omega))]
    exact upN_n (by omega)
  | j + 1, hj, m, hm => by
    have hmm := iv_mm iv
    have ih := dnF_7 iv hs j (by omega) m hm
    show dn1 (dnF w s j) s j (7694 + 72 * m + 7) = _
    by_cases e : m = j
    · subst e
      have r : ∀ d, dnF w s m (7694 + 72 * m + d) = w (7694 + 72 * m + d) := fun d => dnF_fr (by omega) m (fun m2 hm2 => by omega)
      have h7 := (iv_mv iv hm).2.2.2.2.2.2.2.2.1
      rw [dn1_7 (by rw [r]; exact h7), goB_e (r 0), r 3, r 4, r 7]
      by_cases c : goB w m = true ∧ (w (7694 + 72 * m + 3) = s ∨ w (7694 + 72 * m + 4) = s)
      · rw [if_pos c, if_pos ⟨by omega, c⟩]
      · rw [if_neg c, if_neg (fun q => c q.2)]
    · rw [dn1_fr (by omega), ih]
      by_cases c : m < j
      · by_cases c2 : goB w m = true ∧ (w (7694 + 72 * m + 3) = s ∨ w (7694 + 72 * m + 4) = s)
        · rw [if_pos ⟨c, c2⟩, if_pos ⟨by omega, c2⟩]
        · rw [if_neg (fun q => c2 q.2), if_neg (fun q => c2 q.2)]
      · rw [if_neg (fun q => c q.1), if_neg (fun q => by have := q.1; omega)]
theorem dn_I2 {w : Nat → Nat} (iv : Inv w) (h : Inv2 w) {s : Nat} (hs : s < 6) : Inv2 (dnF w s (w 3)) := by
  obtain ⟨h1, h2, h3⟩ := h
  have hmm := iv_mm iv
  have hn := iv_n iv
  have f : ∀ q, q < 7694 → q ≠ 4 + s → dnF w s (w 3) q = w q := fun q a b => dnF_fr b (w 3) (fun m hm => by omega)
  have r : ∀ m d, (d ≤ 5 ∨ (9 ≤ d ∧ d < 72)) → dnF w s (w 3) (7694 + 72 * m + d) = w (7694 + 72 * m + d) := fun m d hd => dnF_fr (by omega) (w 3) (fun m hm => by omega)
  have r7 := fun m hm => dnF_7 iv hs (w 3) (Nat.le_refl _) m hm
  refine ⟨by rw [f 0 (by omega) (by omega)]; exact h1, fun m hml => ?_, fun a b hab hml => ?_⟩
  · rw [f 3 (by omega) (by omega)] at hml
    have g := h2 m hml
    have gi := iv_mv iv hml
    unfold Mv2
    rw [goB_e (r m 0 (by omega)), r m 1 (by omega), r m 2 (by omega), r m 3 (by omega), r m 4 (by omega), r m 11 (by omega), f 0 (by omega) (by omega), r7 m hml]
    refine ⟨fun hgo => ?_, fun x y => ?_, g.2.2.1, fun x => ?_, g.2.2.2.2⟩
    · obtain ⟨i, hi, a, b⟩ := g.1 hgo
      refine ⟨i, by rw [f 1 (by omega) (by omega)]; exact hi, by rw [f _ (by omega) (by omega)]; exact a, ?_⟩
      rw [← b]
      unfold enF
      rw [f 1 (by omega) (by omega)]
      split
      · exact f _ (by omega) (by omega)
      · rfl
    · by_cases c : w (7694 + 72 * m + 3) = s ∨ w (7694 + 72 * m + 4) = s
      · rw [if_pos ⟨hml, x, c⟩] at y; omega
      · rw [if_neg (fun q => c q.2.2)] at y
        rw [f (4 + w (7694 + 72 * m + 3)) (by omega) (by omega), f (4 + w (7694 + 72 * m + 4)) (by omega) (by omega)]
        exact g.2.1 x y
    · by_cases c : goB w m = true
      · exact c
      · rw [if_neg (fun q => c q.2.1)] at x
        exact g.2.2.2.1 x
  · rw [f 3 (by omega) (by omega)] at hml
    unfold Pr2
    rw [goB_e (r a 0 (by omega)), r a 1 (by omega), r a 2 (by omega), r a 11 (by omega), r b 1 (by omega), r b 2 (by omega), r b 11 (by omega)]
    exact h3 a b hab hml
