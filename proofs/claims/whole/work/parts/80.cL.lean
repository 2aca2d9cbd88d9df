theorem spF_in {w : Nat → Nat} (iv : Inv w) {k : Nat} : ∀ n, n < w 1 → (n + 1 < w 1 → k < w (10 + (n + 1))) → w (10 + spF w k n) ≤ k ∧ k < (if spF w k n + 1 < w 1 then w (10 + (spF w k n + 1)) else k + 1)
  | 0, h, hn => by
    show w (10 + 0) ≤ k ∧ k < (if 0 + 1 < w 1 then w (10 + (0 + 1)) else k + 1)
    rw [show w (10 + 0) = 0 from iv_l0 iv]
    refine ⟨Nat.zero_le _, ?_⟩
    split
    · rename_i e; exact hn e
    · omega
  | n + 1, h, hn => by
    unfold spF
    by_cases e : w (10 + (n + 1)) ≤ k
    · rw [if_pos e]
      refine ⟨e, ?_⟩
      split
      · rename_i e2; exact hn e2
      · omega
    · rw [if_neg e]
      exact spF_in iv n (by omega) (fun _ => by omega)
theorem sp_in {w : Nat → Nat} (iv : Inv w) {k : Nat} (hk : k < 1000) : w (10 + spW w k) ≤ k ∧ k < enF w (spW w k) := by
  have h1 := iv_n iv
  have := spF_in iv (k := k) (w 1 - 1) (by omega) (fun h => by omega)
  unfold spW enF
  refine ⟨this.1, ?_⟩
  have h2 := this.2
  split
  · rename_i e; rw [if_pos e] at h2; exact h2
  · exact hk
theorem fO_ext {p q : Nat → Bool} {n : Nat} (h : ∀ i, i < n → p i = q i) : fO p n = fO q n := by
  cases hq : fO q n with
  | none => exact fO_no (fun j hj => by rw [h j hj]; exact fO_none hq j hj)
  | some i =>
    obtain ⟨hi, hqi⟩ := fO_in hq
    refine fO_eq (fun j hj => ?_) (by rw [h i hi]; exact hqi) hi
    rw [h j (by omega)]
    cases e : q j with
    | false => rfl
    | true =>
      exfalso
      have : ∀ j, j < i → q j = false := fun j2 hj2 => by
        cases e2 : q j2 with
        | false => rfl
        | true =>
          exfalso
          have hff : ff q n = i := by
            unfold fO at hq
            split at hq
            · exact Option.some.inj hq
            · cases hq
          have hmin : ∀ n, j2 < n → ff q n ≤ j2 := by
            intro n
            induction n with
            | zero => intro h; omega
            | succ n ih =>
              intro hn
              unfold ff
              by_cases e3 : ff q n < n
              · rw [if_pos e3]
                by_cases e4 : j2 < n
                · exact ih e4
                · omega
              · by_cases e4 : j2 < n
                · have := ih e4; omega
                · have e5 : j2 = n := by omega
                  subst e5
                  rw [if_neg e3, e2]
                  exact Nat.le_refl _
          have := hmin n (by omega)
          omega
      rw [this j hj] at e
      cases e
theorem fO_mn {q : Nat → Bool} {n i : Nat} (h : fO q n = some i) : ∀ j, j < i → q j = false := by
  intro j hj
  cases e : q j with
  | false => rfl
  | true =>
    exfalso
    have hi := (fO_in h).1
    have hex : ∃ m, m ≤ j ∧ q m = true ∧ ∀ p, p < m → q p = false := by
      clear h hi hj
      induction j using Nat.strongRecOn with
      | ind j ih =>
        by_cases hx : ∃ p, p < j ∧ q p = true
        · obtain ⟨p, hp, hqp⟩ := hx
          obtain ⟨m, a, b, c⟩ := ih p hp hqp
          exact ⟨m, by omega, b, c⟩
        · refine ⟨j, Nat.le_refl _, e, fun p hp => ?_⟩
          cases e2 : q p with
          | false => rfl
          | true => exact absurd ⟨p, hp, e2⟩ hx
    obtain ⟨m, a, b, c⟩ := hex
    rw [fO_eq c b (by omega)] at h
    have := Option.some.inj h
    omega
theorem cnt_sub {p q : Nat → Bool} : ∀ n, (∀ i, i < n → p i = true → q i = true) → cnt p n ≤ cnt q n
  | 0, _ => Nat.le_refl _
  | n + 1, h => by
    have := cnt_sub n (fun i hi => h i (by omega))
    have h2 := h n (by omega)
    show cnt p n + (if p n then 1 else 0) ≤ cnt q n + (if q n then 1 else 0)
    cases hp : p n with
    | false => simp; omega
    | true => rw [h2 hp]; simp; omega
theorem cnt_lt {p q : Nat → Bool} {k : Nat} : ∀ n, k < n → (∀ i, i < n → p i = true → q i = true) → p k = false → q k = true → cnt p n + 1 ≤ cnt q n
  | 0, h, _, _, _ => by omega
  | n + 1, h, hs, hp, hq => by
    show cnt p n + (if p n then 1 else 0) + 1 ≤ cnt q n + (if q n then 1 else 0)
    by_cases e : k = n
    · subst e
      have := cnt_sub (p := p) (q := q) k (fun i hi => hs i (by omega))
      rw [hp, hq]; simp; omega
    · have := cnt_lt n (by omega) (fun i hi => hs i (by omega)) hp hq
      have h2 := hs n (by omega)
      cases hpn : p n with
      | false => simp; omega
      | true => rw [h2 hpn]; simp; omega
theorem cnt_0 {p : Nat → Bool} {n : Nat} (h : ∀ i, i < n → p i = false) : cnt p n = 0 := by
  have := cnt_ext (p := p) (q := fun _ => false) n h
  rw [this]
  clear this h
  induction n with
  | zero => rfl
  | succ n ih => show cnt _ n + (if false then 1 else 0) = 0; rw [ih]; rfl
theorem cnt_pos {p : Nat → Bool} {n : Nat} (h : 0 < cnt p n) : ∃ i, i < n ∧ p i = true := by
  by_cases hx : ∃ i, i < n ∧ p i = true
  · exact hx
  · rw [cnt_0 (fun i hi => by cases e : p i with | false => rfl | true => exact absurd ⟨i, hi, e⟩ hx)] at h
    omega
-- who owned what
theorem sw_inc {w : Nat → Nat} (iv : Inv w) (i2 : Inv2 w) {k i j : Nat} (hij : i < j) (hj : j < w 3) (h1 : swB w k i = true) (h2 : swB w k j = true) : w (7694 + 72 * i + 11) < w (7694 + 72 * j + 11) := by
  unfold swB at h1 h2
  simp only [Bool.and_eq_true, decide_eq_true_eq] at h1 h2
  exact (i2.2.2 i j hij hj (by omega) (by omega)).2 (by omega) (by omega)
def quB (w : Nat → Nat) (e t k m : Nat) : Bool := swB w k m && decide (e < w (7694 + 72 * m + 11) ∧ w (7694 + 72 * m + 11) ≤ t)
theorem bst_ext {c c' : Nat → Bool} {b : Nat → Nat → Bool} : ∀ n, (∀ i, i < n → c i = c' i) → bst c b n = bst c' b n
  | 0, _ => rfl
  | n + 1, h => by
    unfold bst
    rw [h n (by omega), bst_ext n (fun i hi => h i (by omega))]
theorem sb_qu {w : Nat → Nat} (iv : Inv w) (e t k : Nat) : sbO w e t k = bst (quB w e t k) (fun m q => decide (w (7694 + 72 * m + 11) < w (7694 + 72 * q + 11))) (w 3) := by
  unfold sbO
  refine bst_ext (w 3) (fun m hm => ?_)
  have hv := iv_mv iv hm
  unfold quB swB
  rw [Bool.eq_iff_iff]
  simp only [Bool.and_eq_true, decide_eq_true_eq]
  omega
theorem sb_none {w : Nat → Nat} (iv : Inv w) {e t k : Nat} (h : sbO w e t k = none) : ∀ j, j < w 3 → quB w e t k j = false := by
  rw [sb_qu iv] at h
  exact bst_no h
theorem sb_some {w : Nat → Nat} (iv : Inv w) (i2 : Inv2 w) {e t k m : Nat} (h : sbO w e t k = some m) : m < w 3 ∧ quB w e t k m = true ∧ (∀ j, j < m → quB w e t k j = false) ∧ (∀ j, j ≤ m → quB w (w (7694 + 72 * m + 11)) t k j = false) ∧ ∀ j, m < j → j < w 3 → quB w e t k j = quB w (w (7694 + 72 * m + 11)) t k j := by
  rw [sb_qu iv] at h
  obtain ⟨hm, hc⟩ := bst_in h
  have hmn := bst_mn (f := fun m => w (7694 + 72 * m + 11)) h
  have hc2 := hc
  unfold quB at hc2
  simp only [Bool.and_eq_true, decide_eq_true_eq] at hc2
  have hlt : ∀ j, j < m → quB w e t k j = false := fun j hj => by
    cases q : quB w e t k j with
    | false => rfl
    | true =>
      exfalso
      have h1 := hmn j (by omega) q
      unfold quB at q
      simp only [Bool.and_eq_true, decide_eq_true_eq] at q
      have := sw_inc iv i2 hj hm q.1 hc2.1
      omega
  refine ⟨hm, hc, hlt, fun j hj => ?_, fun j h1 h2 => ?_⟩
  · cases q : quB w (w (7694 + 72 * m + 11)) t k j with
    | false => rfl
    | true =>
      exfalso
      unfold quB at q
      simp only [Bool.and_eq_true, decide_eq_true_eq] at q
      by_cases e2 : j = m
      · subst e2; omega
      · have := sw_inc iv i2 (show j < m by omega) hm q.1 hc2.1
        omega
  · rw [Bool.eq_iff_iff]
    unfold quB
    simp only [Bool.and_eq_true, decide_eq_true_eq]
    refine ⟨fun z => ⟨z.1, ?_, z.2.2⟩, fun z => ⟨z.1, by omega, z.2.2⟩⟩
    exact sw_inc iv i2 h1 h2 hc2.1 z.1
def owQ (w : Nat → Nat) (e t k o : Nat) : Nat → Nat
  | 0 => o
  | j + 1 => if quB w e t k j then w (7694 + 72 * j + 4) else owQ w e t k o j
theorem owQ_no {w : Nat → Nat} {e t k o : Nat} : ∀ n, (∀ j, j < n → quB w e t k j = false) → owQ w e t k o n = o
  | 0, _ => rfl
  | n + 1, h => by
    show (if quB w e t k n then _ else owQ w e t k o n) = o
    rw [h n (by omega), owQ_no n (fun j hj => h j (by omega))]; rfl
theorem owQ_st {w : Nat → Nat} (iv : Inv w) (i2 : Inv2 w) {e t k m o : Nat} (h : sbO w e t k = some m) : ∀ n, m < n → n ≤ w 3 → owQ w e t k o n = owQ w (w (7694 + 72 * m + 11)) t k (w (7694 + 72 * m + 4)) n
  | 0, h0, _ => by omega
  | n + 1, h0, h1 => by
    obtain ⟨hm, hc, hl, hle, hgt⟩ := sb_some iv i2 h
    show (if quB w e t k n then _ else owQ w e t k o n) = if quB w (w (7694 + 72 * m + 11)) t k n then _ else owQ w (w (7694 + 72 * m + 11)) t k (w (7694 + 72 * m + 4)) n
    by_cases e2 : n = m
    · subst e2
      rw [hc, hle n (Nat.le_refl _), owQ_no n (fun j hj => hle j (by omega))]; rfl
    · rw [hgt n (by omega) (by omega), owQ_st iv i2 h n (by omega) (by omega)]
theorem owF_Q {w : Nat → Nat} (iv : Inv w) (i2 : Inv2 w) {t k : Nat} : ∀ n e o, t < n + e → owF w t k n e o = owQ w e t k o (w 3)
  | 0, e, o, h => by
    show o = _
    rw [owQ_no (w 3) (fun j hj => ?_)]
    unfold quB
    rw [decide_eq_false (by omega), Bool.and_false]
  | n + 1, e, o, h => by
    show (match sbO w e t k with | none => o | some m => owF w t k n (w (7694 + 72 * m + 11)) (w (7694 + 72 * m + 4))) = _
    cases hs : sbO w e t k with
    | none => rw [owQ_no (w 3) (sb_none iv hs)]
    | some m =>
      obtain ⟨hm, hc, -, -, -⟩ := sb_some iv i2 hs
      unfold quB at hc
      simp only [Bool.and_eq_true, decide_eq_true_eq] at hc
      show owF w t k n (w (7694 + 72 * m + 11)) (w (7694 + 72 * m + 4)) = _
      rw [owF_Q iv i2 n _ _ (by omega), owQ_st iv i2 hs (w 3) hm (Nat.le_refl _)]
theorem owC_Q {w : Nat → Nat} (i2 : Inv2 w) {t k o : Nat} : ∀ n, n ≤ w 3 → owC w t k o n = owQ w 1 t k o n
  | 0, _ => rfl
  | n + 1, h => by
    show (if swB w k n && decide (w (7694 + 72 * n + 11) ≤ t) then _ else owC w t k o n) = if quB w 1 t k n then _ else owQ w 1 t k o n
    rw [owC_Q i2 n (by omega)]
    have e : (swB w k n && decide (w (7694 + 72 * n + 11) ≤ t)) = quB w 1 t k n := by
      rw [Bool.eq_iff_iff]
      unfold quB swB
      simp only [Bool.and_eq_true, decide_eq_true_eq]
      have := (i2.2.1 n (by omega)).2.2.2.2
      omega
    rw [e]
theorem own_eq {w : Nat → Nat} (iv : Inv w) (i2 : Inv2 w) {t k : Nat} (ht : t ≤ w 0) : owC w t k 0 (w 3) = owF w t k 2000 1 0 := by
  have := iv_ep0 iv
  rw [owF_Q iv i2 2000 1 0 (by omega), owC_Q i2 (w 3) (Nat.le_refl _)]
def paQ (w : Nat → Nat) (k n e : Nat) : Option Nat := (fO (fun i => quB w e (w 0) k i && decide (cnt (quB w e (w 0) k) i = n)) (w 3)).map (fun m => w (7694 + 72 * m + 11))
theorem pas_Q {w : Nat → Nat} (iv : Inv w) (i2 : Inv2 w) {k : Nat} : ∀ n e, pasF w k n e = paQ w k n e
  | 0, e => by
    show (sbO w e (w 0) k).map _ = _
    unfold paQ
    congr 1
    cases hs : sbO w e (w 0) k with
    | none => exact (fO_no (fun j hj => by rw [sb_none iv hs j hj]; rfl)).symm
    | some m =>
      obtain ⟨hm, hc, hl, -, -⟩ := sb_some iv i2 hs
      refine (fO_eq (fun j hj => by rw [hl j hj]; rfl) ?_ hm).symm
      show (quB w e (w 0) k m && decide (cnt (quB w e (w 0) k) m = 0)) = true
      rw [hc, cnt_0 hl]; rfl
  | n + 1, e => by
    show (match sbO w e (w 0) k with | none => none | some m => pasF w k n (w (7694 + 72 * m + 11))) = _
    cases hs : sbO w e (w 0) k with
    | none =>
      show none = _
      unfold paQ
      rw [fO_no (fun j hj => by rw [sb_none iv hs j hj]; rfl)]; rfl
    | some m =>
      obtain ⟨hm, hc, hl, hle, hgt⟩ := sb_some iv i2 hs
      show pasF w k n (w (7694 + 72 * m + 11)) = _
      rw [pas_Q iv i2 n _]
      unfold paQ
      congr 1
      have hcn : ∀ j, m < j → j ≤ w 3 → cnt (quB w e (w 0) k) j = cnt (quB w (w (7694 + 72 * m + 11)) (w 0) k) j + 1 := by
        intro j
        induction j with
        | zero => intro h; omega
        | succ j ih =>
          intro h1 h2
          show cnt _ j + (if quB w e (w 0) k j then 1 else 0) = cnt _ j + (if quB w (w (7694 + 72 * m + 11)) (w 0) k j then 1 else 0) + 1
          by_cases e2 : j = m
          · subst e2
            rw [hc, hle j (Nat.le_refl _), cnt_0 hl, cnt_0 (fun i hi => hle i (by omega))]; rfl
          · rw [ih (by omega) (by omega), hgt j (by omega) (by omega)]
            omega
      refine fO_ext (fun j hj => ?_)
      by_cases e2 : j ≤ m
      · rw [hle j e2, Bool.false_and]
        by_cases e3 : j = m
        · subst e3
          rw [cnt_0 hl, decide_eq_false (by omega), Bool.and_false]
        · rw [hl j (by omega), Bool.false_and]
      · rw [hgt j (by omega) hj, hcn j (by omega) (by omega)]
        congr 1
        rw [decide_eq_decide]
        omega
theorem pas_eq {w : Nat → Nat} (iv : Inv w) (i2 : Inv2 w) {k t : Nat} : paC w k t = pasF w k t 1 := by
  rw [pas_Q iv i2]
  unfold paC paQ
  have e : ∀ j, j < w 3 → swB w k j = quB w 1 (w 0) k j := fun j hj => by
    rw [Bool.eq_iff_iff]
    unfold quB swB
    simp only [Bool.and_eq_true, decide_eq_true_eq]
    have := (i2.2.1 j hj).2.2.2.2
    omega
  congr 1
  refine fO_ext (fun j hj => ?_)
  rw [e j hj, cnt_ext j (fun i hi => e i (by omega))]
-- what is sound
theorem so_eq {w : Nat → Nat} (iv : Inv w) : soC w = soB w := by
  have h1 : ∀ (p : Nat → Bool) n, (fO p n).isNone = true ↔ ∀ i, i < n → p i = false := fun p n => by
    cases h : fO p n with
    | none => exact ⟨fun _ => fO_none h, fun _ => rfl⟩
    | some i => exact ⟨fun q => by simp at q, fun q => by have := fO_in h; rw [q i this.1] at this; exact absurd this.2 (by decide)⟩
  have h2 : ∀ (p : Nat → Bool) n, (fO p n).isSome = false ↔ ∀ i, i < n → p i = false := fun p n => by
    rw [← h1]
    cases fO p n <;> simp
  rw [Bool.eq_iff_iff]
  unfold soC soB
  rw [h1, h1]
  simp only [h2]
  refine ⟨fun h s hs k hk => ?_, fun h i hi s hs => ?_⟩
  · cases q : sdB w s k with
    | false => rfl
    | true =>
      exfalso
      unfold sdB at q
      simp only [Bool.and_eq_true, decide_eq_true_eq, Bool.not_eq_true'] at q
      have hsp := spW_lt iv k
      have hsi := sp_in iv hk
      have := h (spW w k) hsp s hs
      unfold sdS at this
      have hb : blB w (spW w k) s = false := by
        have q2 := q.2
        unfold mhB at q2
        unfold blB
        cases hm : mvL w (w (10 + spW w k)) with
        | none => simp; omega
        | some m =>
          rw [hm] at q2
          simp only [Bool.or_eq_false_iff, decide_eq_false_iff_not] at q2 ⊢
          omega
      rw [hb, Bool.not_false, Bool.true_and] at this
      have hv : 0 < vsN w (spW w k) s := by
        have he := enF_le iv hsp
        have := cnt_lt (p := fun _ => false) (q := fun j => decide (0 < w (1106 + 1000 * s + (w (10 + spW w k) + j)))) (k := k - w (10 + spW w k)) (enF w (spW w k) - w (10 + spW w k)) (by omega) (fun _ _ z => by cases z) rfl (by
          rw [decide_eq_true_eq, show w (10 + spW w k) + (k - w (10 + spW w k)) = k by omega]; exact q.1.1)
        unfold vsN
        omega
      rw [decide_eq_true hv] at this
      cases this
  · cases q : sdS w i s with
    | false => rfl
    | true =>
      exfalso
      unfold sdS at q
      simp only [Bool.and_eq_true, decide_eq_true_eq, Bool.not_eq_true'] at q
      obtain ⟨j, hj, hv⟩ := cnt_pos q.2
      have he := enF_le iv hi
      have hsp : spW w (w (10 + i) + j) = i := sp_un iv hi (by omega) (by omega) (by omega)
      have := h s hs (w (10 + i) + j) (by omega)
      unfold sdB at this
      rw [hsp, hv, Bool.true_and] at this
      have qb := q.1
      unfold blB at qb
      have hm : mhB w s (w (10 + i) + j) = false := by
        unfold mhB
        rw [hsp]
        cases hm : mvL w (w (10 + i)) with
        | none => rfl
        | some m =>
          rw [hm] at qb
          simp only [Bool.or_eq_false_iff, decide_eq_false_iff_not] at qb ⊢
          omega
      rw [hm, Bool.not_false, Bool.and_true] at this
      have := of_decide_eq_false this
      simp only [Bool.or_eq_false_iff, decide_eq_false_iff_not] at qb
      omega
-- the hottest keys
theorem ab_mono {w : Nat → Nat} {u v : Nat} (h : u ≤ v) : cnt (fun k => decide (v < w (106 + k))) 1000 ≤ cnt (fun k => decide (u < w (106 + k))) 1000 := cnt_sub 1000 (fun i _ z => by
  rw [decide_eq_true_eq] at z ⊢
  omega)
theorem wb_in {w : Nat → Nat} {r : Nat} (n : Nat) : ∀ lo hi, hi - lo < 2 ^ n → lo ≤ hi → cnt (fun k => decide (hi < w (106 + k))) 1000 ≤ r → (∀ v, v < lo → r < cnt (fun k => decide (v < w (106 + k))) 1000) → cnt (fun k => decide (wbF w r n lo hi < w (106 + k))) 1000 ≤ r ∧ (∀ v, v < wbF w r n lo hi → r < cnt (fun k => decide (v < w (106 + k))) 1000) := by
  induction n with
  | zero =>
    intro lo hi h hl a b
    have h2 : lo = hi := by rw [Nat.pow_zero] at h; omega
    have e : wbF w r 0 lo hi = lo := rfl
    rw [e]
    rw [← h2] at a
    exact ⟨a, b⟩
  | succ n ih =>
    intro lo hi h hl a b
    unfold wbF
    by_cases e : lo < hi
    · rw [if_pos e]
      have hp : 2 ^ (n + 1) = 2 * 2 ^ n := by rw [Nat.pow_succ, Nat.mul_comm]
      split
      · rename_i e2
        exact ih lo _ (by omega) (by omega) e2 b
      · rename_i e2
        refine ih _ hi (by omega) (by omega) a (fun v hv => ?_)
        have := ab_mono (w := w) (u := v) (v := lo + (hi - lo) / 2) (by omega)
        omega
    · rw [if_neg e]
      have h2 : lo = hi := by omega
      rw [← h2] at a
      exact ⟨a, b⟩
theorem gt_max {w : Nat → Nat} : ∀ n k, k < n → w (106 + k) ≤ gtW w n
  | 0, k, h => by omega
  | n + 1, k, h => by
    unfold gtW
    by_cases e : k = n
    · subst e; split <;> omega
    · have := gt_max (w := w) n k (by omega)
      split <;> omega
theorem hv_inj {w : Nat → Nat} {k q : Nat} (hk : k < 1000) (hq : q < 1000) (h : hvN w k = hvN w q) : k = q := by
  have key : ∀ k q, k < 1000 → q < 1000 → (w (106 + q) < w (106 + k) ∨ (w (106 + k) = w (106 + q) ∧ k < q)) → hvN w k + 1 ≤ hvN w q := fun k q hk hq hc => by
    unfold hvN
    refine cnt_lt (k := k) 1000 hk (fun i _ z => ?_) ?_ ?_
    · simp only [Bool.or_eq_true, Bool.and_eq_true, decide_eq_true_eq] at z ⊢
      omega
    · simp
    · simp only [Bool.or_eq_true, Bool.and_eq_true, decide_eq_true_eq]
      omega
  rcases Nat.lt_trichotomy (w (106 + k)) (w (106 + q)) with z | z | z
  · have := key q k hq hk (Or.inl z); omega
  · rcases Nat.lt_trichotomy k q with y | y | y
    · have := key k q hk hq (Or.inr ⟨z, y⟩); omega
    · exact y
    · have := key q k hq hk (Or.inr ⟨z.symm, y⟩); omega
  · have := key k q hk hq (Or.inl z); omega
theorem hv_split {w : Nat → Nat} {k : Nat} (hk : k < 1000) : hvN w k = cnt (fun q => decide (w (106 + k) < w (106 + q))) 1000 + cnt (fun q => decide (w (106 + q) = w (106 + k))) k := by
  have h1 : ∀ n, cnt (fun q => decide (w (106 + k) < w (106 + q)) || (decide (w (106 + q) = w (106 + k)) && decide (q < k))) n = cnt (fun q => decide (w (106 + k) < w (106 + q))) n + cnt (fun q => decide (w (106 + q) = w (106 + k)) && decide (q < k)) n := by
    intro n
    induction n with
    | zero => rfl
    | succ n ih =>
      show cnt _ n + (if _ then 1 else 0) = cnt _ n + (if _ then 1 else 0) + (cnt _ n + (if _ then 1 else 0))
      rw [ih]
      by_cases a : w (106 + k) < w (106 + n)
      · have b : ¬ w (106 + n) = w (106 + k) := by omega
        simp [a, b]; omega
      · by_cases b : w (106 + n) = w (106 + k)
        · by_cases c : n < k
          · simp [a, b, c]; omega
          · simp [a, b, c]
        · simp [a, b]
  unfold hvN
  rw [h1]
  congr 1
  obtain ⟨d, hd⟩ : ∃ d, 1000 = k + d := ⟨1000 - k, by omega⟩
  rw [hd, cnt_add, cnt_0 (p := fun i => (fun q => decide (w (106 + q) = w (106 + k)) && decide (q < k)) (k + i)) (fun i _ => by simp), Nat.add_zero]
  exact cnt_ext k (fun i hi => by simp [hi])
theorem eq_split {w : Nat → Nat} {v : Nat} (hv : 0 < v) : ∀ n, cnt (fun q => decide (v - 1 < w (106 + q))) n = cnt (fun q => decide (v < w (106 + q))) n + cnt (fun q => decide (w (106 + q) = v)) n
  | 0 => rfl
  | n + 1 => by
    have ih := eq_split (w := w) hv n
    by_cases a : v < w (106 + n)
    · rw [cnt_t (p := fun q => decide (v - 1 < w (106 + q))) (n := n) (decide_eq_true (by omega)), cnt_t (p := fun q => decide (v < w (106 + q))) (n := n) (decide_eq_true a), cnt_f (p := fun q => decide (w (106 + q) = v)) (n := n) (decide_eq_false (by omega)), ih]; omega
    · by_cases c : w (106 + n) = v
      · rw [cnt_t (p := fun q => decide (v - 1 < w (106 + q))) (n := n) (decide_eq_true (by omega)), cnt_f (p := fun q => decide (v < w (106 + q))) (n := n) (decide_eq_false a), cnt_t (p := fun q => decide (w (106 + q) = v)) (n := n) (decide_eq_true c), ih]; omega
      · rw [cnt_f (p := fun q => decide (v - 1 < w (106 + q))) (n := n) (decide_eq_false (by omega)), cnt_f (p := fun q => decide (v < w (106 + q))) (n := n) (decide_eq_false a), cnt_f (p := fun q => decide (w (106 + q) = v)) (n := n) (decide_eq_false c), ih]; omega
/-- the r-th of a kind -/
theorem nth_ex {p : Nat → Bool} : ∀ n r, r < cnt p n → ∃ i, i < n ∧ p i = true ∧ cnt p i = r
  | 0, r, h => by exact absurd h (Nat.not_lt_zero _)
  | n + 1, r, h => by
    by_cases e : r < cnt p n
    · obtain ⟨i, a, b, c⟩ := nth_ex n r e
      exact ⟨i, by omega, b, c⟩
    · cases hp : p n with
      | false => rw [cnt_f hp] at h; omega
      | true => rw [cnt_t hp] at h; exact ⟨n, by omega, hp, by omega⟩
theorem cnt_mo {p : Nat → Bool} {a : Nat} : ∀ b, a ≤ b → cnt p a ≤ cnt p b
  | 0, h => by rw [show a = 0 by omega]; exact Nat.le_refl _
  | b + 1, h => by
    by_cases e : a = b + 1
    · rw [e]; exact Nat.le_refl _
    · have h1 := cnt_mo (p := p) (a := a) b (by omega)
      have h2 : cnt p b ≤ cnt p (b + 1) := Nat.le_add_right _ _
      omega
/-- what hot looks for, and where it is -/
theorem hot_eq {w : Nat → Nat} (iv : Inv w) {i : Nat} (hi : i < 1000) : (wbF w i 32 0 (gtW w 1000) = 0 → hotO w (nI i) = none) ∧ (wbF w i 32 0 (gtW w 1000) ≠ 0 → ∃ k, hotO w (nI i) = some k ∧ w (106 + k) = wbF w i 32 0 (gtW w 1000) ∧ cnt (fun k => decide (wbF w i 32 0 (gtW w 1000) < w (106 + k))) 1000 ≤ i ∧ fO (fun q => decide (w (106 + q) = wbF w i 32 0 (gtW w 1000)) && decide (cnt (fun q => decide (w (106 + q) = wbF w i 32 0 (gtW w 1000))) q = i - cnt (fun k => decide (wbF w i 32 0 (gtW w 1000) < w (106 + k))) 1000)) 1000 = some k) := by
  have hg := gtW_le iv 1000 (by omega)
  obtain ⟨w1, w2⟩ := wb_in (w := w) (r := i) 32 0 (gtW w 1000) (by omega) (by omega) (by
    rw [cnt_0 (fun k hk => decide_eq_false (by have := gt_max (w := w) 1000 k hk; omega))]; omega) (fun v hv => by omega)
  have hvl : ∀ k, k < 1000 → hvN w k < 2147483648 := fun k hk => by have := cnt_le (fun q => decide (w (106 + k) < w (106 + q)) || (decide (w (106 + q) = w (106 + k)) && decide (q < k))) 1000; unfold hvN; omega
  have hot1 : ∀ k, k < 1000 → 0 < w (106 + k) → hvN w k = i → hotO w (nI i) = some k := fun k hk h0 h => by
    unfold hotO
    refine fO_eq (fun j hj => ?_) ?_ hk
    · cases q : (decide (0 < w (106 + j)) && decide (nI (hvN w j) = nI i)) with
      | false => rfl
      | true =>
        simp only [Bool.and_eq_true, decide_eq_true_eq] at q
        have := (nI_eq (b31 (hvl j (by omega))) (b31 (by omega))).mp q.2
        have := hv_inj (w := w) (k := j) (q := k) (by omega) hk (by omega)
        omega
    · simp only [Bool.and_eq_true, decide_eq_true_eq]
      exact ⟨h0, by rw [h]⟩
  refine ⟨fun h0 => ?_, fun h0 => ?_⟩
  · unfold hotO
    refine fO_no (fun k hk => ?_)
    cases q : (decide (0 < w (106 + k)) && decide (nI (hvN w k) = nI i)) with
    | false => rfl
    | true =>
      exfalso
      simp only [Bool.and_eq_true, decide_eq_true_eq] at q
      have h1 := (nI_eq (b31 (hvl k hk)) (b31 (by omega))).mp q.2
      rw [h0] at w1
      have : hvN w k + 1 ≤ cnt (fun k => decide (0 < w (106 + k))) 1000 := by
        unfold hvN
        refine cnt_lt (k := k) 1000 hk (fun i _ z => ?_) (by simp) (decide_eq_true q.1)
        simp only [Bool.or_eq_true, Bool.and_eq_true, decide_eq_true_eq] at z ⊢
        omega
      omega
  · generalize wbF w i 32 0 (gtW w 1000) = v at *
    have h1 := w2 (v - 1) (by omega)
    rw [eq_split (by omega)] at h1
    obtain ⟨k, hk, hp, hc⟩ := nth_ex (p := fun q => decide (w (106 + q) = v)) 1000 (i - cnt (fun k => decide (v < w (106 + k))) 1000) (by omega)
    have hp2 := of_decide_eq_true hp
    have hv : hvN w k = i := by
      rw [hv_split hk, hp2, hc]
      omega
    refine ⟨k, hot1 k hk (by omega) hv, hp2, w1, fO_eq (fun j hj => ?_) ?_ hk⟩
    · cases q : (decide (w (106 + j) = v) && decide (cnt (fun q => decide (w (106 + q) = v)) j = i - cnt (fun k => decide (v < w (106 + k))) 1000)) with
      | false => rfl
      | true =>
        exfalso
        simp only [Bool.and_eq_true, decide_eq_true_eq] at q
        have h2 := cnt_t (p := fun q => decide (w (106 + q) = v)) (n := j) (decide_eq_true q.1)
        have h3 := cnt_mo (p := fun q => decide (w (106 + q) = v)) (a := j + 1) k (by omega)
        omega
    · simp only [Bool.and_eq_true, decide_eq_true_eq]
      exact ⟨hp2, hc⟩
