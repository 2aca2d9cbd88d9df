theorem wrW_c (w : Nat → Nat) (k v : Nat) : wrW w k v = wr3 w k v ∨ ∃ m, mvL w (w (10 + spW w k)) = some m ∧ w (7694 + 72 * m + 0) ≤ 2 ∧ inT w m k = false ∧ wrW w k v = wrT (wr3 w k v) k m := by
  unfold wrW
  cases h : mvL w (w (10 + spW w k)) with
  | none => left; rfl
  | some m =>
    by_cases hc : w (7694 + 72 * m + 0) ≤ 2 ∧ inT w m k = false
    · right; exact ⟨m, rfl, hc.1, hc.2, if_pos hc⟩
    · left; exact if_neg hc
theorem ff_lt {p : Nat → Bool} {i n : Nat} (hi : i < n) (hp : p i = true) (h : ∀ j, j < i → p j = false) : fO p n = some i := fO_eq h hp hi
theorem fO_none {p : Nat → Bool} {n : Nat} (h : fO p n = none) : ∀ j, j < n → p j = false := by
  intro j
  induction j using Nat.strongRecOn with
  | ind j ih =>
    intro hj
    cases hp : p j with
    | false => rfl
    | true => rw [fO_eq (fun i hi => ih i hi (by omega)) hp hj] at h; cases h
theorem fcF_hi (w : Nat → Nat) (c j q : Nat) (hc : c < 6) (hj : j ≤ 32) (h : 7694 ≤ q) : fcF w c j q = w q := by unfold fcF; rw [if_neg (by omega), if_neg (by omega), if_neg (by omega), if_neg (by omega), if_neg (by omega)]
/-- writing: what stays -/
theorem wrW_fr {w : Nat → Nat} (iv : Inv w) {k v q : Nat} (hk : k < 1000) (hf : fzK w k = false) (h : q < 106 ∨ (7106 ≤ q ∧ q < 7694) ∨ (8558 ≤ q ∧ q ≠ 8558 + 1)) : wrW w k v q = w q := by
  have h1 := iv_own iv (spW_lt iv k)
  have e3 : wr3 w k v q = w q := by unfold wr3; rw [upN_n (by omega), upN_n (by omega), upN_n (by omega)]
  rcases wrW_c w k v with e | ⟨m, hm, z1, z2, e⟩
  · rw [e]; exact e3
  · have hml := mvL_lt hm
    have hmm := iv_mm iv
    have hq := fz_room iv hf hm ⟨z1, z2⟩
    rw [e]
    unfold wrT
    rw [wr3_fr iv hk (by omega), upN_n (by omega), upN_n (by omega)]
    exact e3
theorem wrW_mv {w : Nat → Nat} (iv : Inv w) {k v m d : Nat} (hk : k < 1000) (hf : fzK w k = false) (hm : m < 12) (hd : d < 12) (h6 : d ≠ 6) : wrW w k v (7694 + 72 * m + d) = w (7694 + 72 * m + d) := by
  rcases wrW_c w k v with e | ⟨m2, hm2, z1, z2, e⟩
  · rw [e]; exact wr3_fr iv hk (by omega)
  · have hml := mvL_lt hm2
    have hmm := iv_mm iv
    have hq := fz_room iv hf hm2 ⟨z1, z2⟩
    rw [e]
    unfold wrT
    rw [wr3_fr iv hk (by omega), upN_n (by omega), upN_n (by omega)]
    exact wr3_fr iv hk (by omega)
theorem wrW_wt {w : Nat → Nat} (iv : Inv w) {k v j : Nat} (hk : k < 1000) (hj : j < 1000) : wrW w k v (106 + j) ≤ w (106 + j) + 2 := by
  have h1 := iv_own iv (spW_lt iv k)
  have e3 : wr3 w k v (106 + j) ≤ w (106 + j) + 2 := by
    unfold wr3
    rw [upN_n (by omega)]
    by_cases e : 106 + j = 106 + k
    · rw [e, upN_s]; exact Nat.le_refl _
    · rw [upN_n e, upN_n (by omega)]; omega
  rcases wrW_c w k v with e | ⟨m2, hm2, -, -, e⟩
  · rw [e]; exact e3
  · rw [e]
    unfold wrT
    rw [upN_n (by omega), upN_n (by omega)]
    exact e3
theorem asA_fz {w : Nat → Nat} {c k v : Nat} (h : asA w c k v = 0) (h0 : 0 < v) : fzK w k = false := by
  unfold asA at h
  cases hz : fzK w k with
  | false => rfl
  | true =>
    rw [hz] at h
    by_cases ha : anF w c k = 0
    · rw [if_pos ⟨ha, h0, rfl⟩] at h; omega
    · rw [if_neg (fun q => ha q.1)] at h; exact absurd h ha
/-- asking: what stays -/
theorem ask_fr {w : Nat → Nat} (iv : Inv w) {c k v q : Nat} (hc : c < 6) (hk : k < 1000) (h : q < 106 ∨ (7106 ≤ q ∧ q < 7694) ∨ 8597 ≤ q) : askW w c k v q = w q := by
  have f1 : ∀ p, (p < 8558 ∨ 8597 ≤ p) → upN (ask1 w c) (8573 + 4 * c + 1) (w (8573 + 4 * c + 1) + 1) p = w p := fun p hp => by unfold ask1; rw [upN_n (by omega), upN_n (by omega)]
  have iv1 := Inv_fr (fun q hq => f1 q (Or.inl hq)) iv
  have hle : asA w c k v ≤ 4 := by unfold asA; have := anF_le w c k; split <;> omega
  unfold askW
  split
  · rename_i h00
    split
    · rename_i h0v
      rw [wrW_fr iv1 hk (by rw [fzK_fr iv (fun q hq => f1 q (Or.inl hq))]; exact asA_fz h00 h0v) (by omega)]; exact f1 q (by omega)
    · rw [upN_n (by omega), upN_n (by omega)]; exact f1 q (by omega)
  · unfold ask3 ask1
    split <;> simp (disch := omega) only [upN_n]
theorem ask_mv {w : Nat → Nat} (iv : Inv w) {c k v m d : Nat} (hk : k < 1000) (hm : m < 12) (hd : d < 12) (h6 : d ≠ 6) : askW w c k v (7694 + 72 * m + d) = w (7694 + 72 * m + d) := by
  have f1 : ∀ p, p < 8558 → upN (ask1 w c) (8573 + 4 * c + 1) (w (8573 + 4 * c + 1) + 1) p = w p := fun p hp => by unfold ask1; rw [upN_n (by omega), upN_n (by omega)]
  have iv1 := Inv_fr f1 iv
  by_cases h : asA w c k v = 0
  · unfold askW
    rw [if_pos h]
    split
    · rename_i h0v
      rw [wrW_mv iv1 hk (by rw [fzK_fr iv f1]; exact asA_fz h h0v) hm hd h6]; exact f1 _ (by omega)
    · rw [upN_n (by omega), upN_n (by omega)]; exact f1 _ (by omega)
  · exact askN_fr h (by omega)
theorem ask_wt {w : Nat → Nat} (iv : Inv w) {c k v j : Nat} (hk : k < 1000) (hj : j < 1000) : askW w c k v (106 + j) ≤ w (106 + j) + 2 := by
  have f1 : ∀ p, p < 8558 → upN (ask1 w c) (8573 + 4 * c + 1) (w (8573 + 4 * c + 1) + 1) p = w p := fun p hp => by unfold ask1; rw [upN_n (by omega), upN_n (by omega)]
  have iv1 := Inv_fr f1 iv
  by_cases h : asA w c k v = 0
  · unfold askW
    rw [if_pos h]
    split
    · have := wrW_wt iv1 (v := v) hk hj
      rw [f1 _ (by omega)] at this
      exact this
    · rw [upN_n (by omega)]
      by_cases e : 106 + j = 106 + k
      · rw [e, upN_s]; omega
      · rw [upN_n e, f1 _ (by omega)]; omega
  · rw [askN_fr h (by omega)]; omega
/-- the second invariant: moves and their spans, servers, epochs -/
def Mv2 (w : Nat → Nat) (m : Nat) : Prop := (goB w m = true → ∃ i, i < w 1 ∧ w (10 + i) = w (7694 + 72 * m + 1) ∧ enF w i = w (7694 + 72 * m + 2)) ∧ (goB w m = true → w (7694 + 72 * m + 7) = 0 → w (4 + w (7694 + 72 * m + 3)) = 1 ∧ w (4 + w (7694 + 72 * m + 4)) = 1) ∧ w (7694 + 72 * m + 3) ≠ w (7694 + 72 * m + 4) ∧ (w (7694 + 72 * m + 7) = 1 → goB w m = true) ∧ (w (7694 + 72 * m + 11) = 0 ∨ (2 ≤ w (7694 + 72 * m + 11) ∧ w (7694 + 72 * m + 11) ≤ w 0))
def Pr2 (w : Nat → Nat) (m m' : Nat) : Prop := w (7694 + 72 * m + 1) < w (7694 + 72 * m' + 2) → w (7694 + 72 * m' + 1) < w (7694 + 72 * m + 2) → goB w m = false ∧ (w (7694 + 72 * m + 11) ≠ 0 → w (7694 + 72 * m' + 11) ≠ 0 → w (7694 + 72 * m + 11) < w (7694 + 72 * m' + 11))
def Inv2 (w : Nat → Nat) : Prop := 1 ≤ w 0 ∧ (∀ m, m < w 3 → Mv2 w m) ∧ (∀ m m', m < m' → m' < w 3 → Pr2 w m m')
theorem goB_e {w w' : Nat → Nat} {m : Nat} (h : w' (7694 + 72 * m + 0) = w (7694 + 72 * m + 0)) : goB w' m = goB w m := by unfold goB; rw [h]
theorem Inv2_fr {w w' : Nat → Nat} (iv : Inv w) (hq : ∀ q, q < 42 → q ≠ 2 → w' q = w q) (hm : ∀ m d, m < w 3 → (d ≤ 4 ∨ d = 7 ∨ d = 11) → w' (7694 + 72 * m + d) = w (7694 + 72 * m + d)) (h : Inv2 w) : Inv2 w' := by
  obtain ⟨h1, h2, h3⟩ := h
  have hmm := iv_mm iv
  have hn := iv_n iv
  have e3 := hq 3 (by omega) (by omega)
  have e0 := hq 0 (by omega) (by omega)
  have e1 := hq 1 (by omega) (by omega)
  refine ⟨by rw [e0]; exact h1, fun m hml => ?_, fun m m' hlt hml => ?_⟩
  · rw [e3] at hml
    have g := h2 m hml
    have gi := iv_mv iv hml
    unfold Mv2
    rw [goB_e (hm m 0 hml (by omega)), hm m 1 hml (by omega), hm m 2 hml (by omega), hm m 3 hml (by omega), hm m 4 hml (by omega), hm m 7 hml (by omega), hm m 11 hml (by omega), hq (4 + w (7694 + 72 * m + 3)) (by omega) (by omega), hq (4 + w (7694 + 72 * m + 4)) (by omega) (by omega), e0]
    refine ⟨fun hg => ?_, g.2⟩
    obtain ⟨i, hi, a, b⟩ := g.1 hg
    refine ⟨i, by rw [e1]; exact hi, by rw [hq _ (by omega) (by omega)]; exact a, ?_⟩
    rw [← b]
    unfold enF
    rw [e1]
    split
    · exact hq _ (by omega) (by omega)
    · rfl
  · rw [e3] at hml
    have g := h3 m m' hlt hml
    unfold Pr2
    rw [goB_e (hm m 0 (by omega) (by omega)), hm m 1 (by omega) (by omega), hm m 2 (by omega) (by omega), hm m 11 (by omega) (by omega), hm m' 1 hml (by omega), hm m' 2 hml (by omega), hm m' 11 hml (by omega)]
    exact g
theorem fet_I2 {w : Nat → Nat} (iv : Inv w) (h : Inv2 w) {c : Nat} (hc : c < 6) : Inv2 (fetW w c) := Inv2_fr iv (fun q a _ => fcF_lo w c (w 1) q (by omega)) (fun m d a _ => fcF_hi w c (w 1) _ hc (iv_n iv).2 (by omega)) h
theorem ask_I2 {w : Nat → Nat} (iv : Inv w) (h : Inv2 w) {c k v : Nat} (hc : c < 6) (hk : k < 1000) : Inv2 (askW w c k v) := Inv2_fr iv (fun q a _ => ask_fr iv hc hk (by omega)) (fun m d a b => ask_mv iv hk (by have := iv_mm iv; omega) (by omega) (by omega)) h
theorem age_I2 {w : Nat → Nat} (iv : Inv w) (h : Inv2 w) : Inv2 (ageW w) := Inv2_fr iv (fun q a _ => by unfold ageW agF; rw [if_neg (by omega)]) (fun m d a b => by unfold ageW agF; rw [if_neg (by omega)]) h
theorem chk_I2 {w : Nat → Nat} (iv : Inv w) (h : Inv2 w) {v : Nat} : Inv2 (upN w 2 v) := Inv2_fr iv (fun q a b => upN_n b) (fun m d a b => upN_n (by omega)) h
theorem fai_I2 {w : Nat → Nat} (iv : Inv w) (h : Inv2 w) {m v : Nat} : Inv2 (upN w (7694 + 72 * m + 10) v) := Inv2_fr iv (fun q a b => upN_n (by omega)) (fun m' d a b => upN_n (by omega)) h
/-- the map and its spans change, but no span of a move that goes on -/
theorem map_I2 {w w' : Nat → Nat} (iv : Inv w) (h : Inv2 w) (h0 : w 0 ≤ w' 0) (hq : ∀ q, (3 ≤ q ∧ q < 10) ∨ (7694 ≤ q ∧ q < 8558) → w' q = w q) (hs : ∀ i, i < w 1 → (mvL w (w (10 + i))).isSome = true → ∃ j, j < w' 1 ∧ w' (10 + j) = w (10 + i) ∧ enF w' j = enF w i) : Inv2 w' := by
  obtain ⟨h1, h2, h3⟩ := h
  have hmm := iv_mm iv
  have e3 := hq 3 (by omega)
  refine ⟨by omega, fun m hml => ?_, fun m m' hlt hml => ?_⟩
  · rw [e3] at hml
    have g := h2 m hml
    have gi := iv_mv iv hml
    unfold Mv2
    rw [goB_e (hq _ (by omega)), hq (7694 + 72 * m + 1) (by omega), hq (7694 + 72 * m + 2) (by omega), hq (7694 + 72 * m + 3) (by omega), hq (7694 + 72 * m + 4) (by omega), hq (7694 + 72 * m + 7) (by omega), hq (7694 + 72 * m + 11) (by omega), hq (4 + w (7694 + 72 * m + 3)) (by omega), hq (4 + w (7694 + 72 * m + 4)) (by omega)]
    refine ⟨fun hg => ?_, g.2.1, g.2.2.1, g.2.2.2.1, by have := g.2.2.2.2; omega⟩
    obtain ⟨i, hi, a, b⟩ := g.1 hg
    have hsome : (mvL w (w (10 + i))).isSome = true := by
      cases hv : mvL w (w (10 + i)) with
      | some _ => rfl
      | none =>
        have := fO_none hv m hml
        rw [hg, a] at this
        simp at this
    obtain ⟨j, hj, c, d⟩ := hs i hi hsome
    exact ⟨j, hj, c.trans a, d.trans b⟩
  · rw [e3] at hml
    have g := h3 m m' hlt hml
    unfold Pr2
    rw [goB_e (hq _ (by omega)), hq (7694 + 72 * m + 1) (by omega), hq (7694 + 72 * m + 2) (by omega), hq (7694 + 72 * m + 11) (by omega), hq (7694 + 72 * m' + 1) (by omega), hq (7694 + 72 * m' + 2) (by omega), hq (7694 + 72 * m' + 11) (by omega)]
    exact g
theorem spl_I2 {w : Nat → Nat} (iv : Inv w) (h : Inv2 w) {i key : Nat} (hi : i < w 1) (hn : w 1 ≤ 31) (hm : (mvL w (w (10 + i))).isNone = true) : Inv2 (splW w i key) := by
  obtain ⟨v0, v1, vl, vo, ve, vf⟩ := spl_v (key := key) hi hn
  refine map_I2 iv h (by omega) (fun q hq => vf q (by omega)) (fun j hj hsj => ?_)
  have hne : j ≠ i := fun e => by rw [e] at hsj; cases hv : mvL w (w (10 + i)) <;> simp_all
  by_cases hlt : j < i
  · refine ⟨j, by omega, by rw [vl j (by omega), if_pos (by omega)], ?_⟩
    unfold enF
    rw [v1, if_pos (by omega), if_pos (by omega), Nat.add_assoc, vl (j + 1) (by omega), if_pos (by omega)]
  · refine ⟨j + 1, by omega, by rw [vl (j + 1) (by omega), if_neg (by omega), if_neg (by omega), Nat.add_sub_cancel], ?_⟩
    unfold enF
    rw [v1]
    by_cases hl : j + 1 < w 1
    · rw [if_pos (by omega), if_pos hl, Nat.add_assoc, vl (j + 1 + 1) (by omega), if_neg (by omega), if_neg (by omega), Nat.add_sub_cancel, Nat.add_assoc]
    · rw [if_neg (by omega), if_neg hl]
theorem spc_I2 {w : Nat → Nat} (iv : Inv w) (h : Inv2 w) {i key : Nat} (hi : i < w 1) (hn : w 1 ≤ 31) (hk : w (10 + i) < key ∧ key < enF w i) (h0 : w 0 < 1999) (hm : (mvL w (w (10 + i))).isNone = true) : Inv2 (spcW w i key) := Inv2_fr (spl_Inv iv hi hn hk h0) (fun q a _ => upN_n (by omega)) (fun m d a b => upN_n (by have := iv_mm (spl_Inv iv hi hn hk h0); omega)) (spl_I2 iv h hi hn hm)
theorem joi_I2 {w : Nat → Nat} (iv : Inv w) (h : Inv2 w) {i : Nat} (hi : i + 1 < w 1) (hm : (mvL w (w (10 + i))).isNone = true) (hm2 : (mvL w (w (10 + (i + 1)))).isNone = true) : Inv2 (joiW w i) := by
  have h1 := iv_n iv
  obtain ⟨v0, v1, vl, vo, ve, vf⟩ := joi_v hi h1.2
  refine map_I2 iv h (by omega) (fun q hq => vf q (by omega)) (fun j hj hsj => ?_)
  have hne : j ≠ i := fun e => by rw [e] at hsj; cases hv : mvL w (w (10 + i)) <;> simp_all
  have hne2 : j ≠ i + 1 := fun e => by rw [e] at hsj; cases hv : mvL w (w (10 + (i + 1))) <;> simp_all
  by_cases hlt : j < i
  · refine ⟨j, by omega, by rw [vl j (by omega), if_pos (by omega)], ?_⟩
    unfold enF
    rw [v1, if_pos (by omega), if_pos (by omega), Nat.add_assoc, vl (j + 1) (by omega), if_pos (by omega)]
  · refine ⟨j - 1, by omega, by rw [vl (j - 1) (by omega), if_neg (by omega), show j - 1 + 1 = j by omega], ?_⟩
    unfold enF
    rw [v1, show j - 1 + 1 = j by omega]
    by_cases hl : j + 1 < w 1
    · rw [if_pos (by omega), if_pos hl, Nat.add_assoc, show j - 1 + 1 = j by omega, vl j (by omega), if_neg (by omega), Nat.add_assoc]
    · rw [if_neg (by omega), if_neg hl]
