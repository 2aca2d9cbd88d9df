/-- what must hold of a move -/
def MvI (w : Nat → Nat) (m : Nat) : Prop := w (7694 + 72 * m + 0) ≤ 6 ∧ w (7694 + 72 * m + 1) < w (7694 + 72 * m + 2) ∧ w (7694 + 72 * m + 2) ≤ 1000 ∧ w (7694 + 72 * m + 3) < 6 ∧ w (7694 + 72 * m + 4) < 6 ∧ w (7694 + 72 * m + 1) ≤ w (7694 + 72 * m + 5) ∧ w (7694 + 72 * m + 5) ≤ w (7694 + 72 * m + 2) ∧ w (7694 + 72 * m + 6) ≤ 60 ∧ w (7694 + 72 * m + 7) ≤ 1 ∧ w (7694 + 72 * m + 10) ≤ 99 ∧ w (7694 + 72 * m + 11) < 2000 ∧ ∀ i, i < w (7694 + 72 * m + 6) → w (7694 + 72 * m + 12 + i) < 1000
theorem iv_mvI {w : Nat → Nat} (h : Inv w) {m : Nat} (hm : m < w 3) : MvI w m := iv_mv h hm
/-- the places that a step of move m may change -/
def stO (m q : Nat) : Prop := q = 0 ∨ (42 ≤ q ∧ q < 106) ∨ (1106 ≤ q ∧ q < 7106) ∨ (7694 + 72 * m ≤ q ∧ q < 7694 + 72 * m + 72)
theorem Inv_st {w w' : Nat → Nat} (iv : Inv w) {m : Nat} (hm : m < w 3) (h : ∀ q, q < 8558 → ¬ stO m q → w' q = w q) (h0 : w' 0 < 2000) (ho : ∀ i, i < w 1 → w' (42 + i) < 6) (he : ∀ i, i < w 1 → w' (74 + i) ≤ w' 0) (hv : ∀ i, i < 6000 → w' (1106 + i) ≤ 99999) (hM : MvI w' m) : Inv w' := by
  have hmm := iv_mm iv
  obtain ⟨a1, a2, a3, a4, a5, a6, a7, a8, a9, a10, a11, a12, a13⟩ := iv
  unfold stO at h
  have e1 := h 1 (by omega) (by omega); have e2 := h 2 (by omega) (by omega); have e3 := h 3 (by omega) (by omega); have e10 := h 10 (by omega) (by omega)
  refine ⟨by rw [e1]; exact a1, by rw [e10]; exact a2, fun i hi => ?_, fun i hi => ?_, fun i hi => ho i (by rw [e1] at hi; exact hi), ⟨h0, fun i hi => he i (by rw [e1] at hi; exact hi)⟩, by rw [e2]; exact a7, by rw [e3]; exact a8, fun s hs => ?_, fun k hk => ?_, hv, fun c hc => ?_, fun m2 hm2 => ?_⟩
  · rw [e1] at hi; rw [h _ (by omega) (by omega), h _ (by omega) (by omega)]; exact a3 i hi
  · rw [e1] at hi; rw [h _ (by omega) (by omega)]; exact a4 i hi
  · rw [h _ (by omega) (by omega)]; exact a9 s hs
  · rw [h _ (by omega) (by omega)]; exact a10 k hk
  · have q := a12 c hc
    rw [h (7106 + 98 * c + 1) (by omega) (by omega), h (7106 + 98 * c + 0) (by omega) (by omega), h (7106 + 98 * c + 2) (by omega) (by omega)]
    exact ⟨q.1, q.2.1, q.2.2.1, q.2.2.2.1, fun j hj => by rw [h _ (by omega) (by omega), h _ (by omega) (by omega), h _ (by omega) (by omega)]; exact q.2.2.2.2 j hj⟩
  · rw [e3] at hm2
    by_cases em : m2 = m
    · subst em; exact hM
    · have q := a13 m2 hm2
      have g : ∀ d, d < 72 → w' (7694 + 72 * m2 + d) = w (7694 + 72 * m2 + d) := fun d hd => h _ (by omega) (by omega)
      rw [g 0 (by omega), g 1 (by omega), g 2 (by omega), g 3 (by omega), g 4 (by omega), g 5 (by omega), g 6 (by omega), g 7 (by omega), g 10 (by omega), g 11 (by omega)]
      refine ⟨q.1, q.2.1, q.2.2.1, q.2.2.2.1, q.2.2.2.2.1, q.2.2.2.2.2.1, q.2.2.2.2.2.2.1, q.2.2.2.2.2.2.2.1, q.2.2.2.2.2.2.2.2.1, q.2.2.2.2.2.2.2.2.2.1, q.2.2.2.2.2.2.2.2.2.2.1, fun i hi => ?_⟩
      have := q.2.2.2.2.2.2.2.1
      have e := g (12 + i) (by omega)
      rw [← Nat.add_assoc] at e
      rw [e]
      exact q.2.2.2.2.2.2.2.2.2.2.2 i hi
/-- w' comes of w by a step of move m: what is left alone, and what holds -/
def StP (w w' : Nat → Nat) (m : Nat) : Prop := (∀ q, q < 8558 → ¬ stO m q → w' q = w q) ∧ Inv w'
theorem govW_v {w : Nat → Nat} (iv : Inv w) {m ch : Nat} {cl : Bool} (hm : m < w 3) : (∀ i, i < 6000 → govW w m ch cl (1106 + i) ≤ 99999) ∧ w (7694 + 72 * m + 1) ≤ govW w m ch cl (7694 + 72 * m + 5) ∧ govW w m ch cl (7694 + 72 * m + 5) ≤ w (7694 + 72 * m + 2) := by
  have hq := iv_mv iv hm
  have hmm := iv_mm iv
  obtain ⟨g1, g2, g3, g4, g5, g6⟩ := goS_in iv (ch := ch) (cl := cl) hm (govL w m) (by unfold govL; omega)
  have hL : w (7694 + 72 * m + 5) + govL w m = w (7694 + 72 * m + 2) := by unfold govL; omega
  have hx : ∀ q, q < 8558 → govW w m ch cl q = (goS w m ch cl (govL w m)).1 q := fun q hq => upN_n (by omega)
  refine ⟨fun i hi => ?_, ?_, ?_⟩
  · rw [hx _ (by omega)]; exact g2 i hi
  · rw [hx _ (by omega)]; omega
  · rw [hx _ (by omega)]; omega
theorem govW_g {w : Nat → Nat} (iv : Inv w) {m ch : Nat} {cl : Bool} (hm : m < w 3) {q : Nat} (h : q < 1106 ∨ 7106 ≤ q) (h5 : q ≠ 7694 + 72 * m + 5) (hc : q < 8558) : govW w m ch cl q = w q := govW_f iv hm (iv_mv iv hm).2.2.2.2.2.2.1 h h5 (by omega)
/-- the row behind going over, its stage s, its cursor c, broken b -/
theorem gov_Inv {w w' : Nat → Nat} (iv : Inv w) {m ch : Nat} {cl : Bool} (hm : m < w 3) (h : ∀ q, q < 8558 → q ≠ 7694 + 72 * m + 0 → q ≠ 7694 + 72 * m + 5 → q ≠ 7694 + 72 * m + 7 → q ≠ 7694 + 72 * m + 8 → w' q = govW w m ch cl q) (hs : w' (7694 + 72 * m + 0) ≤ 6) (h5 : w (7694 + 72 * m + 1) ≤ w' (7694 + 72 * m + 5) ∧ w' (7694 + 72 * m + 5) ≤ w (7694 + 72 * m + 2)) (h7 : w' (7694 + 72 * m + 7) ≤ 1) : StP w w' m := by
  have hmm := iv_mm iv
  have hq := iv_mv iv hm
  obtain ⟨v1, v2, v3⟩ := govW_v iv (ch := ch) (cl := cl) hm
  have g : ∀ q, q < 8558 → (q < 1106 ∨ 7106 ≤ q) → q ≠ 7694 + 72 * m + 0 → q ≠ 7694 + 72 * m + 5 → q ≠ 7694 + 72 * m + 7 → q ≠ 7694 + 72 * m + 8 → w' q = w q := fun q a b c d e f => by rw [h q a c d e f]; exact govW_g iv hm b d a
  have hfr : ∀ q, q < 8558 → ¬ stO m q → w' q = w q := fun q a b => by unfold stO at b; exact g q a (by omega) (by omega) (by omega) (by omega) (by omega)
  refine ⟨hfr, Inv_st iv hm hfr ?_ (fun i hi => ?_) (fun i hi => ?_) (fun i hi => ?_) ?_⟩
  · rw [g 0 (by omega) (by omega) (by omega) (by omega) (by omega) (by omega)]; exact iv_ep0 iv
  · have := iv_n iv; rw [g _ (by omega) (by omega) (by omega) (by omega) (by omega) (by omega)]; exact iv_own iv hi
  · have := iv_n iv; rw [g _ (by omega) (by omega) (by omega) (by omega) (by omega) (by omega), g 0 (by omega) (by omega) (by omega) (by omega) (by omega) (by omega)]; exact iv_ep iv hi
  · rw [h _ (by omega) (by omega) (by omega) (by omega) (by omega)]; exact v1 i hi
  · unfold MvI
    rw [g (7694 + 72 * m + 1) (by omega) (by omega) (by omega) (by omega) (by omega) (by omega), g (7694 + 72 * m + 2) (by omega) (by omega) (by omega) (by omega) (by omega) (by omega), g (7694 + 72 * m + 3) (by omega) (by omega) (by omega) (by omega) (by omega) (by omega), g (7694 + 72 * m + 4) (by omega) (by omega) (by omega) (by omega) (by omega) (by omega), g (7694 + 72 * m + 6) (by omega) (by omega) (by omega) (by omega) (by omega) (by omega), g (7694 + 72 * m + 10) (by omega) (by omega) (by omega) (by omega) (by omega) (by omega), g (7694 + 72 * m + 11) (by omega) (by omega) (by omega) (by omega) (by omega) (by omega)]
    refine ⟨hs, by omega, by omega, by omega, by omega, h5.1, h5.2, by omega, h7, by omega, by omega, fun i hi => ?_⟩
    rw [g _ (by omega) (by omega) (by omega) (by omega) (by omega) (by omega)]
    exact hq.2.2.2.2.2.2.2.2.2.2.2 i hi
theorem gonW_St {w : Nat → Nat} (iv : Inv w) {m ch : Nat} {cl : Bool} (hm : m < w 3) : StP w (gonW w m ch cl) m := by
  have hq := iv_mv iv hm
  have hmm := iv_mm iv
  obtain ⟨v1, v2, v3⟩ := govW_v iv (ch := ch) (cl := cl) hm
  have s0 := govW_g iv (ch := ch) (cl := cl) hm (q := 7694 + 72 * m + 0) (by omega) (by omega) (by omega)
  have s7 := govW_g iv (ch := ch) (cl := cl) hm (q := 7694 + 72 * m + 7) (by omega) (by omega) (by omega)
  unfold gonW
  split
  · exact gov_Inv iv (ch := ch) (cl := cl) hm (fun _ _ _ _ _ _ => rfl) (by rw [s0]; omega) ⟨v2, v3⟩ (by rw [s7]; omega)
  · split
    · refine gov_Inv iv (ch := ch) (cl := cl) hm (fun q h1 h2 h3 h4 h5 => by simp (disch := omega) only [upN_n]) ?_ ?_ ?_
      · simp (disch := omega) only [upN_n, upN_s]; omega
      · simp (disch := omega) only [upN_n, upN_s]; omega
      · simp (disch := omega) only [upN_n, upN_s, s7]; omega
    · refine gov_Inv iv (ch := ch) (cl := cl) hm (fun q h1 h2 h3 h4 h5 => by simp (disch := omega) only [upN_n]) ?_ ?_ ?_
      · simp (disch := omega) only [upN_n, upN_s]; omega
      · simp (disch := omega) only [upN_n, upN_s]; omega
      · simp (disch := omega) only [upN_n, upN_s, s7]; omega
theorem cat_Inv {w w' : Nat → Nat} (iv : Inv w) {m ch : Nat} (hm : m < w 3) (h : ∀ q, q < 8558 → q ≠ 7694 + 72 * m + 0 → q ≠ 7694 + 72 * m + 7 → q ≠ 7694 + 72 * m + 8 → w' q = catW w m ch q) (hs : w' (7694 + 72 * m + 0) ≤ 6) (h7 : w' (7694 + 72 * m + 7) ≤ 1) : StP w w' m := by
  have hmm := iv_mm iv
  have hq := iv_mv iv hm
  have hn6 : cuN w m ch ≤ w (7694 + 72 * m + 6) := by unfold cuN; split <;> omega
  obtain ⟨g1, g2⟩ := cuS_in iv hm (cuN w m ch) hn6
  have c6 : catW w m ch (7694 + 72 * m + 6) = w (7694 + 72 * m + 6) - cuN w m ch := by unfold catW; rw [upN_n (by omega), upN_s]
  have cf : ∀ q, q < 8558 → q ≠ 7694 + 72 * m + 6 → (q < 7694 + 72 * m + 12 ∨ 7694 + 72 * m + 72 ≤ q) → catW w m ch q = cuS w m (cuN w m ch) q := fun q a b c => by unfold catW; rw [upN_n (by omega), upN_n (by omega)]; exact tsF_fr (by omega)
  have g : ∀ q, q < 8558 → (q < 1106 ∨ 7106 ≤ q) → q ≠ 7694 + 72 * m + 0 → q ≠ 7694 + 72 * m + 6 → q ≠ 7694 + 72 * m + 7 → q ≠ 7694 + 72 * m + 8 → (q < 7694 + 72 * m + 12 ∨ 7694 + 72 * m + 72 ≤ q) → w' q = w q := fun q a b c d e f i => by rw [h q a c e f, cf q a d i]; exact g1 q b
  have hfr : ∀ q, q < 8558 → ¬ stO m q → w' q = w q := fun q a b => by unfold stO at b; exact g q a (by omega) (by omega) (by omega) (by omega) (by omega) (by omega)
  refine ⟨hfr, Inv_st iv hm hfr ?_ (fun i hi => ?_) (fun i hi => ?_) (fun i hi => ?_) ?_⟩
  · rw [g 0 (by omega) (by omega) (by omega) (by omega) (by omega) (by omega) (by omega)]; exact iv_ep0 iv
  · have := iv_n iv; rw [g _ (by omega) (by omega) (by omega) (by omega) (by omega) (by omega) (by omega)]; exact iv_own iv hi
  · have := iv_n iv; rw [g _ (by omega) (by omega) (by omega) (by omega) (by omega) (by omega) (by omega), g 0 (by omega) (by omega) (by omega) (by omega) (by omega) (by omega) (by omega)]; exact iv_ep iv hi
  · rw [h _ (by omega) (by omega) (by omega) (by omega), cf _ (by omega) (by omega) (by omega)]; exact g2 i hi
  · unfold MvI
    rw [g (7694 + 72 * m + 1) (by omega) (by omega) (by omega) (by omega) (by omega) (by omega) (by omega), g (7694 + 72 * m + 2) (by omega) (by omega) (by omega) (by omega) (by omega) (by omega) (by omega), g (7694 + 72 * m + 3) (by omega) (by omega) (by omega) (by omega) (by omega) (by omega) (by omega), g (7694 + 72 * m + 4) (by omega) (by omega) (by omega) (by omega) (by omega) (by omega) (by omega), g (7694 + 72 * m + 5) (by omega) (by omega) (by omega) (by omega) (by omega) (by omega) (by omega), g (7694 + 72 * m + 10) (by omega) (by omega) (by omega) (by omega) (by omega) (by omega) (by omega), g (7694 + 72 * m + 11) (by omega) (by omega) (by omega) (by omega) (by omega) (by omega) (by omega), h (7694 + 72 * m + 6) (by omega) (by omega) (by omega) (by omega), c6]
    refine ⟨hs, by omega, by omega, by omega, by omega, by omega, by omega, by omega, h7, by omega, by omega, fun i hi => ?_⟩
    rw [h _ (by omega) (by omega) (by omega) (by omega)]
    have e : catW w m ch (7694 + 72 * m + 12 + i) = w (7694 + 72 * m + 12 + (i + cuN w m ch)) := by
      unfold catW
      rw [upN_n (by omega), upN_n (by omega)]
      unfold tsF
      rw [if_pos (by omega), g1 _ (by omega)]
      congr 1
      omega
    rw [e]
    exact hq.2.2.2.2.2.2.2.2.2.2.2 _ (by omega)
theorem swiW_St {w : Nat → Nat} (iv : Inv w) {m : Nat} (hm : m < w 3) (h0 : w 0 < 1999) : StP w (swiW w m) m := by
  have hmm := iv_mm iv
  have hq := iv_mv iv hm
  have hsp := spW_lt iv (w (7694 + 72 * m + 1))
  have hn := iv_n iv
  have hfr : ∀ q, q < 8558 → ¬ stO m q → swiW w m q = w q := fun q a b => by unfold stO at b; unfold swiW; simp (disch := omega) only [upN_n]
  have e0 : swiW w m 0 = w 0 + 1 := by unfold swiW; simp (disch := omega) only [upN_n, upN_s]
  refine ⟨hfr, Inv_st iv hm hfr (by rw [e0]; omega) (fun i hi => ?_) (fun i hi => ?_) (fun i hi => ?_) ?_⟩
  · have := iv_own iv hi
    unfold swiW
    rw [upN_n (by omega), upN_n (by omega), upN_n (by omega), upN_n (by omega)]
    unfold upN
    repeat' split
    all_goals omega
  · have := iv_ep iv hi
    rw [e0]
    unfold swiW
    rw [upN_n (by omega), upN_n (by omega), upN_n (by omega)]
    unfold upN
    repeat' split
    all_goals omega
  · unfold swiW
    simp (disch := omega) only [upN_n]
    exact iv_va iv hi
  · unfold MvI
    have f : ∀ d, d < 72 → d ≠ 0 → d ≠ 5 → d ≠ 11 → swiW w m (7694 + 72 * m + d) = w (7694 + 72 * m + d) := fun d a b c e => by unfold swiW; simp (disch := omega) only [upN_n]
    have f0 : swiW w m (7694 + 72 * m + 0) = 4 := by unfold swiW; simp (disch := omega) only [upN_n, upN_s]
    have f5 : swiW w m (7694 + 72 * m + 5) = w (7694 + 72 * m + 1) := by unfold swiW; simp (disch := omega) only [upN_n, upN_s]
    have f11 : swiW w m (7694 + 72 * m + 11) = w 0 + 1 := by unfold swiW; simp (disch := omega) only [upN_n, upN_s]
    rw [f0, f5, f11, f 1 (by omega) (by omega) (by omega) (by omega), f 2 (by omega) (by omega) (by omega) (by omega), f 3 (by omega) (by omega) (by omega) (by omega), f 4 (by omega) (by omega) (by omega) (by omega), f 6 (by omega) (by omega) (by omega) (by omega), f 7 (by omega) (by omega) (by omega) (by omega), f 10 (by omega) (by omega) (by omega) (by omega)]
    refine ⟨by omega, by omega, by omega, by omega, by omega, by omega, by omega, by omega, by omega, by omega, by omega, fun i hi => ?_⟩
    rw [Nat.add_assoc, Nat.add_assoc, ← Nat.add_assoc 7694, f (12 + i) (by omega) (by omega) (by omega) (by omega), ← Nat.add_assoc]
    exact hq.2.2.2.2.2.2.2.2.2.2.2 i hi
