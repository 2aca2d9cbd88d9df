-- sums, counts, the first of a kind
def cnt (p : Nat → Bool) : Nat → Nat
  | 0 => 0
  | n + 1 => cnt p n + (if p n then 1 else 0)
def rs (f : Nat → Nat) (a : Nat) : Nat → Nat
  | 0 => 0
  | n + 1 => rs f a n + f (a + n)
def ff (p : Nat → Bool) : Nat → Nat
  | 0 => 0
  | n + 1 => if ff p n < n then ff p n else if p n then n else n + 1
theorem ff_le (p : Nat → Bool) : ∀ n, ff p n ≤ n
  | 0 => Nat.le_refl 0
  | n + 1 => by
    unfold ff
    have := ff_le p n
    split
    · omega
    · split <;> omega
theorem ff_eq {p : Nat → Bool} {i : Nat} (hb : ∀ j, j < i → p j = false) (hi : p i = true) : ∀ n, i < n → ff p n = i
  | 0, h => by omega
  | n + 1, h => by
    unfold ff
    by_cases hn : i < n
    · rw [ff_eq hb hi n hn, if_pos hn]
    · have e : i = n := by omega
      subst e
      have h2 : ∀ m, m ≤ i → ff p m = m := by
        intro m
        induction m with
        | zero => intro _; rfl
        | succ m ih => intro hm; unfold ff; rw [ih (by omega), if_neg (by omega), hb m (by omega)]; rfl
      rw [h2 i (Nat.le_refl i), if_neg (Nat.lt_irrefl i), hi]
      rfl
theorem ff_no {p : Nat → Bool} : ∀ n, (∀ j, j < n → p j = false) → ff p n = n
  | 0, _ => rfl
  | n + 1, h => by
    unfold ff
    rw [ff_no n (fun j hj => h j (by omega)), if_neg (Nat.lt_irrefl n), h n (by omega)]
    rfl
def fO (p : Nat → Bool) (n : Nat) : Option Nat := if ff p n < n then some (ff p n) else none
theorem fO_eq {p : Nat → Bool} {i n : Nat} (hb : ∀ j, j < i → p j = false) (hi : p i = true) (h : i < n) : fO p n = some i := by
  unfold fO
  rw [ff_eq hb hi n h, if_pos h]
theorem fO_no {p : Nat → Bool} {n : Nat} (h : ∀ j, j < n → p j = false) : fO p n = none := by
  unfold fO
  rw [ff_no n h, if_neg (Nat.lt_irrefl n)]
-- the state: the reference's own row of numbers
def spF (w : Nat → Nat) (k : Nat) : Nat → Nat
  | 0 => 0
  | i + 1 => if w (10 + (i + 1)) ≤ k then i + 1 else spF w k i
def spW (w : Nat → Nat) (k : Nat) : Nat := spF w k (w 1 - 1)
def enF (w : Nat → Nat) (i : Nat) : Nat := if i + 1 < w 1 then w (10 + i + 1) else 1000
def nmO (w : Nat → Nat) (x : Int32) : Option Nat := if inR x 1000 then (if w (10 + spW w x.toNatClampNeg) = x.toNatClampNeg then some (spW w x.toNatClampNeg) else none) else none
def goB (w : Nat → Nat) (m : Nat) : Bool := decide (1 ≤ w (7694 + 72 * m + 0) ∧ w (7694 + 72 * m + 0) ≤ 4)
def mvL (w : Nat → Nat) (l : Nat) : Option Nat := fO (fun m => goB w m && decide (w (7694 + 72 * m + 1) = l)) (w 3)
def wtF (w : Nat → Nat) (i : Nat) : Nat := rs (fun k => w (106 + k)) (w (10 + i)) (enF w i - w (10 + i))
def ldF (w : Nat → Nat) (s : Nat) : Nat := rs (fun i => if w (42 + i) = s then wtF w i else 0) 0 (w 1)
def upF (w : Nat → Nat) (s : Nat) : Bool := decide (w (4 + s) = 1)
/-- what holds of the state at all times -/
def Inv (w : Nat → Nat) : Prop :=
  (1 ≤ w 1 ∧ w 1 ≤ 32) ∧ w 10 = 0 ∧ (∀ i, i + 1 < w 1 → w (10 + i) < w (10 + (i + 1))) ∧ (∀ i, i < w 1 → w (10 + i) < 1000) ∧ (∀ i, i < w 1 → w (42 + i) < 6) ∧ (w 0 < 2000 ∧ ∀ i, i < w 1 → w (74 + i) ≤ w 0) ∧
  (1 ≤ w 2 ∧ w 2 ≤ 16) ∧ w 3 ≤ 12 ∧ (∀ s, s < 6 → w (4 + s) ≤ 1) ∧ (∀ k, k < 1000 → w (106 + k) ≤ 100000) ∧ (∀ i, i < 6000 → w (1106 + i) ≤ 99999) ∧
  (∀ c, c < 6 → w (7106 + 98 * c + 1) ≤ 32 ∧ (w (7106 + 98 * c + 0) = 0 ↔ w (7106 + 98 * c + 1) = 0) ∧ w (7106 + 98 * c + 0) < 2000 ∧ w (7106 + 98 * c + 2) = 0 ∧ ∀ j, j < w (7106 + 98 * c + 1) → w (7106 + 98 * c + 2 + j) < 1000 ∧ w (7106 + 98 * c + 34 + j) < 6 ∧ w (7106 + 98 * c + 66 + j) < 2000) ∧
  (∀ m, m < w 3 → w (7694 + 72 * m + 0) ≤ 6 ∧ w (7694 + 72 * m + 1) < w (7694 + 72 * m + 2) ∧ w (7694 + 72 * m + 2) ≤ 1000 ∧ w (7694 + 72 * m + 3) < 6 ∧ w (7694 + 72 * m + 4) < 6 ∧ w (7694 + 72 * m + 1) ≤ w (7694 + 72 * m + 5) ∧ w (7694 + 72 * m + 5) ≤ w (7694 + 72 * m + 2) ∧ w (7694 + 72 * m + 6) ≤ 60 ∧ w (7694 + 72 * m + 7) ≤ 1 ∧ w (7694 + 72 * m + 10) ≤ 99 ∧ w (7694 + 72 * m + 11) < 2000 ∧ ∀ i, i < w (7694 + 72 * m + 6) → w (7694 + 72 * m + 12 + i) < 1000)
theorem iv_n {w : Nat → Nat} (h : Inv w) : 1 ≤ w 1 ∧ w 1 ≤ 32 := h.1
theorem iv_l0 {w : Nat → Nat} (h : Inv w) : w 10 = 0 := h.2.1
theorem iv_inc {w : Nat → Nat} (h : Inv w) {i : Nat} (hi : i + 1 < w 1) : w (10 + i) < w (10 + (i + 1)) := h.2.2.1 i hi
theorem iv_low {w : Nat → Nat} (h : Inv w) {i : Nat} (hi : i < w 1) : w (10 + i) < 1000 := h.2.2.2.1 i hi
theorem iv_own {w : Nat → Nat} (h : Inv w) {i : Nat} (hi : i < w 1) : w (42 + i) < 6 := h.2.2.2.2.1 i hi
theorem iv_ep0 {w : Nat → Nat} (h : Inv w) : w 0 < 2000 := h.2.2.2.2.2.1.1
theorem iv_ep {w : Nat → Nat} (h : Inv w) {i : Nat} (hi : i < w 1) : w (74 + i) ≤ w 0 := h.2.2.2.2.2.1.2 i hi
theorem iv_ch {w : Nat → Nat} (h : Inv w) : 1 ≤ w 2 ∧ w 2 ≤ 16 := h.2.2.2.2.2.2.1
theorem iv_mm {w : Nat → Nat} (h : Inv w) : w 3 ≤ 12 := h.2.2.2.2.2.2.2.1
theorem iv_up {w : Nat → Nat} (h : Inv w) {s : Nat} (hs : s < 6) : w (4 + s) ≤ 1 := h.2.2.2.2.2.2.2.2.1 s hs
theorem iv_wt {w : Nat → Nat} (h : Inv w) {k : Nat} (hk : k < 1000) : w (106 + k) ≤ 100000 := h.2.2.2.2.2.2.2.2.2.1 k hk
theorem iv_mv {w : Nat → Nat} (h : Inv w) {m : Nat} (hm : m < w 3) : w (7694 + 72 * m + 0) ≤ 6 ∧ w (7694 + 72 * m + 1) < w (7694 + 72 * m + 2) ∧ w (7694 + 72 * m + 2) ≤ 1000 ∧ w (7694 + 72 * m + 3) < 6 ∧ w (7694 + 72 * m + 4) < 6 ∧ w (7694 + 72 * m + 1) ≤ w (7694 + 72 * m + 5) ∧ w (7694 + 72 * m + 5) ≤ w (7694 + 72 * m + 2) ∧ w (7694 + 72 * m + 6) ≤ 60 ∧ w (7694 + 72 * m + 7) ≤ 1 ∧ w (7694 + 72 * m + 10) ≤ 99 ∧ w (7694 + 72 * m + 11) < 2000 ∧ ∀ i, i < w (7694 + 72 * m + 6) → w (7694 + 72 * m + 12 + i) < 1000 := h.2.2.2.2.2.2.2.2.2.2.2.2 m hm
theorem iv_cl {w : Nat → Nat} (h : Inv w) {c : Nat} (hc : c < 6) : w (7106 + 98 * c + 1) ≤ 32 ∧ (w (7106 + 98 * c + 0) = 0 ↔ w (7106 + 98 * c + 1) = 0) ∧ w (7106 + 98 * c + 0) < 2000 ∧ w (7106 + 98 * c + 2) = 0 ∧ ∀ j, j < w (7106 + 98 * c + 1) → w (7106 + 98 * c + 2 + j) < 1000 ∧ w (7106 + 98 * c + 34 + j) < 6 ∧ w (7106 + 98 * c + 66 + j) < 2000 := h.2.2.2.2.2.2.2.2.2.2.2.1 c hc
theorem iv_va {w : Nat → Nat} (h : Inv w) {i : Nat} (hi : i < 6000) : w (1106 + i) ≤ 99999 := h.2.2.2.2.2.2.2.2.2.2.1 i hi
theorem spF_s (w : Nat → Nat) (k i : Nat) : spF w k (i + 1) = if w (10 + (i + 1)) ≤ k then i + 1 else spF w k i := rfl
theorem spF_le (w : Nat → Nat) (k : Nat) : ∀ i, spF w k i ≤ i
  | 0 => Nat.le_refl 0
  | i + 1 => by
    unfold spF
    split
    · exact Nat.le_refl _
    · exact Nat.le_trans (spF_le w k i) (Nat.le_succ i)
theorem spW_lt {w : Nat → Nat} (h : Inv w) (k : Nat) : spW w k < w 1 := by
  have := spF_le w k (w 1 - 1)
  have := iv_n h
  unfold spW
  omega
theorem enF_le {w : Nat → Nat} (h : Inv w) {i : Nat} (hi : i < w 1) : w (10 + i) < enF w i ∧ enF w i ≤ 1000 := by
  unfold enF
  have h1 := iv_low h hi
  split
  · rename_i hq
    have h2 := iv_inc h hq
    have h3 := iv_low h hq
    exact ⟨h2, Nat.le_of_lt h3⟩
  · exact ⟨h1, Nat.le_refl _⟩
theorem rs_le {f : Nat → Nat} {a B : Nat} : ∀ n, (∀ j, j < n → f (a + j) ≤ B) → rs f a n ≤ B * n
  | 0, _ => Nat.le_refl _
  | n + 1, h => by
    unfold rs
    have h1 := rs_le n (fun j hj => h j (by omega))
    have h2 := h n (by omega)
    rw [Nat.mul_succ]
    omega
theorem wtF_le {w : Nat → Nat} (h : Inv w) {i : Nat} (hi : i < w 1) : wtF w i ≤ 100000000 := by
  unfold wtF
  have h1 := enF_le h hi
  have := rs_le (f := fun k => w (106 + k)) (a := w (10 + i)) (B := 100000) (enF w i - w (10 + i)) (fun j hj => iv_wt h (by omega))
  omega
theorem ldF_le {w : Nat → Nat} (h : Inv w) (s : Nat) : ldF w s ≤ 3200000000 := by
  unfold ldF
  have := rs_le (f := fun i => if w (42 + i) = s then wtF w i else 0) (a := 0) (B := 100000000) (w 1) (fun j hj => by
    show (if w (42 + (0 + j)) = s then wtF w (0 + j) else 0) ≤ 100000000
    rw [Nat.zero_add]
    split
    · exact wtF_le h hj
    · omega)
  have := iv_n h
  omega
theorem ct_X11_endOf {fi : FI} {fr : FR} {ai : FI} {ar : FR} {N : Nat} {w : Nat → Nat} (sm : SM fr) (iv : Inv w) {i : Nat} (hi : i < w 1) : CP mX11_endOf 0 0 0 [.ref (rf 11 80), .int (nI i)] fi fr (mW ai w) ar N (xQ (some (.int (nI (enF w i)))) fi fr (mW ai w) ar N) := by
  obtain ⟨sW, -⟩ := sm
  have h1 := iv_n iv
  change EV mX11_endOf 0 0 0 0 [some (.ref (rf 11 80)), some (.int (nI i))] [] fi fr (mW ai w) ar N _
  refine e_iload_n dX11_endOf_0 rfl rfl ?_
  refine e_iconst (v := nI 1) dX11_endOf_1 rfl ?_
  first | ((with_reducible refine mk_nn ?_); refine n_iadd dX11_endOf_2 ?_) | refine e_iadd dX11_endOf_2 ?_
  refine e_aload_n dX11_endOf_3 rfl rfl ?_
  refine e_getR dX11_endOf_4 fl_X11_7 rfl (by assumption) ?_
  refine e_iconst (v := nI 1) dX11_endOf_7 rfl ?_
  first | ((with_reducible refine mk_ldw ?_); refine e_ldw dX11_endOf_8 (by omega) ?_) | refine e_iald _ dX11_endOf_8 ⟨by decide, by decide⟩ rfl rfl (by simp only [lenK]; omega) ?_
  first | ((with_reducible refine mk_nn ?_); refine n_icmp_ge (tgt := 26) dX11_endOf_9 (by decide) (by omega) (by omega) (fun h9 => ?_) (fun h9 => ?_)) | refine e_icmp_ge (tgt := 26) dX11_endOf_9 (by decide) (fun h9 => ?_) (fun h9 => ?_)
  · try first | contradiction | omega
    all_goals
      refine e_sipush (v := nI 1000) dX11_endOf_26 rfl ?_
      refine e_ret (some _) rfl (r_int dX11_endOf_29 rfl) ?_
      refine xq ?_ rfl rfl rfl rfl rfl
      unfold enF
      first | rw [if_pos (by omega)] | rw [if_neg (by omega)]
  · try first | contradiction | omega
    all_goals
      refine e_aload_n dX11_endOf_12 rfl rfl ?_
      refine e_getR dX11_endOf_13 fl_X11_7 rfl (by assumption) ?_
      refine e_bipush (v := nI 10) dX11_endOf_16 rfl ?_
      refine e_iload_n dX11_endOf_18 rfl rfl ?_
      first | ((with_reducible refine mk_nn ?_); refine n_iadd dX11_endOf_19 ?_) | refine e_iadd dX11_endOf_19 ?_
      refine e_iconst (v := nI 1) dX11_endOf_20 rfl ?_
      first | ((with_reducible refine mk_nn ?_); refine n_iadd dX11_endOf_21 ?_) | refine e_iadd dX11_endOf_21 ?_
      first | ((with_reducible refine mk_ldw ?_); refine e_ldw dX11_endOf_22 (by omega) ?_) | refine e_iald _ dX11_endOf_22 ⟨by decide, by decide⟩ rfl rfl (by simp only [lenK]; omega) ?_
      refine e_goto (tgt := 29) dX11_endOf_23 (by decide) ?_
      refine e_ret (some _) rfl (r_int dX11_endOf_29 rfl) ?_
      refine xq ?_ rfl rfl rfl rfl rfl
      unfold enF
      first | rw [if_pos (by omega)] | rw [if_neg (by omega)]
theorem ct_X11_spanWith {fi : FI} {fr : FR} {ai : FI} {ar : FR} {N : Nat} {w : Nat → Nat} (sm : SM fr) (iv : Inv w) {k : Nat} (hk : k < 2147483648) : CP mX11_spanWith 0 0 0 [.ref (rf 11 80), .int (nI k)] fi fr (mW ai w) ar N (xQ (some (.int (nI (spW w k)))) fi fr (mW ai w) ar N) := by
  obtain ⟨sW, -⟩ := sm
  have h1 := iv_n iv
  have h0 : w (10 + 0) = 0 := iv_l0 iv
  change EV mX11_spanWith 0 0 0 0 [some (.ref (rf 11 80)), some (.int (nI k)), none] [] fi fr (mW ai w) ar N _
  have key : ∀ i, i < w 1 → EV mX11_spanWith 0 0 0 9 [some (.ref (rf 11 80)), some (.int (nI k)), some (.int (nI i))] [] fi fr (mW ai w) ar N (xQ (some (.int (nI (spF w k i)))) fi fr (mW ai w) ar N) := by
    intro i
    induction i with
    | zero =>
      intro hi
      refine e_aload_n dX11_spanWith_9 rfl rfl ?_
      refine e_getR dX11_spanWith_10 fl_X11_7 rfl (by assumption) ?_
      refine e_bipush (v := nI 10) dX11_spanWith_13 rfl ?_
      refine e_iload_n dX11_spanWith_15 rfl rfl ?_
      first | ((with_reducible refine mk_nn ?_); refine n_iadd dX11_spanWith_16 ?_) | refine e_iadd dX11_spanWith_16 ?_
      first | ((with_reducible refine mk_ldw ?_); refine e_ldw dX11_spanWith_17 (by omega) ?_) | refine e_iald _ dX11_spanWith_17 ⟨by decide, by decide⟩ rfl rfl (by simp only [lenK]; omega) ?_
      refine e_iload_n dX11_spanWith_18 rfl rfl ?_
      first | ((with_reducible refine mk_nn ?_); refine n_icmp_le (tgt := 28) dX11_spanWith_19 (by decide) (by omega) (by omega) (fun h19 => ?_) (fun h19 => ?_)) | refine e_icmp_le (tgt := 28) dX11_spanWith_19 (by decide) (fun h19 => ?_) (fun h19 => ?_)
      · try first | contradiction | omega
        all_goals
          refine e_iload_n dX11_spanWith_28 rfl rfl ?_
          refine e_ret (some _) rfl (r_int dX11_spanWith_29 rfl) ?_
          exact xq rfl rfl rfl rfl rfl rfl
      · try first | contradiction | omega
        all_goals
          first | refine n_dec dX11_spanWith_22 rfl (Nat.le_of_ble_eq_true rfl) rfl ?_ | refine e_iinc dX11_spanWith_22 rfl rfl (Nat.le_of_ble_eq_true rfl) rfl ?_
          refine e_goto (tgt := 9) dX11_spanWith_25 (by decide) ?_
          omega
    | succ i ih =>
      intro hi
      have hl := iv_low iv hi
      refine e_aload_n dX11_spanWith_9 rfl rfl ?_
      refine e_getR dX11_spanWith_10 fl_X11_7 rfl (by assumption) ?_
      refine e_bipush (v := nI 10) dX11_spanWith_13 rfl ?_
      refine e_iload_n dX11_spanWith_15 rfl rfl ?_
      first | ((with_reducible refine mk_nn ?_); refine n_iadd dX11_spanWith_16 ?_) | refine e_iadd dX11_spanWith_16 ?_
      first | ((with_reducible refine mk_ldw ?_); refine e_ldw dX11_spanWith_17 (by omega) ?_) | refine e_iald _ dX11_spanWith_17 ⟨by decide, by decide⟩ rfl rfl (by simp only [lenK]; omega) ?_
      refine e_iload_n dX11_spanWith_18 rfl rfl ?_
      first | ((with_reducible refine mk_nn ?_); refine n_icmp_le (tgt := 28) dX11_spanWith_19 (by decide) (by omega) (by omega) (fun h19 => ?_) (fun h19 => ?_)) | refine e_icmp_le (tgt := 28) dX11_spanWith_19 (by decide) (fun h19 => ?_) (fun h19 => ?_)
      · try first | contradiction | omega
        all_goals
          refine e_iload_n dX11_spanWith_28 rfl rfl ?_
          refine e_ret (some _) rfl (r_int dX11_spanWith_29 rfl) ?_
          refine xq ?_ rfl rfl rfl rfl rfl
          rw [spF_s, if_pos (by omega)]
      · try first | contradiction | omega
        all_goals
          first | refine n_dec dX11_spanWith_22 rfl (Nat.le_of_ble_eq_true rfl) rfl ?_ | refine e_iinc dX11_spanWith_22 rfl rfl (Nat.le_of_ble_eq_true rfl) rfl ?_
          refine e_goto (tgt := 9) dX11_spanWith_25 (by decide) ?_
          have e : spF w k (i + 1) = spF w k i := by rw [spF_s, if_neg (by omega)]
          rw [e]
          exact ih (by omega)
  refine e_aload_n dX11_spanWith_0 rfl rfl ?_
  refine e_getR dX11_spanWith_1 fl_X11_7 rfl (by assumption) ?_
  refine e_iconst (v := nI 1) dX11_spanWith_4 rfl ?_
  first | ((with_reducible refine mk_ldw ?_); refine e_ldw dX11_spanWith_5 (by omega) ?_) | refine e_iald _ dX11_spanWith_5 ⟨by decide, by decide⟩ rfl rfl (by simp only [lenK]; omega) ?_
  refine e_iconst (v := nI 1) dX11_spanWith_6 rfl ?_
  first | ((with_reducible refine mk_nn ?_); refine n_isub dX11_spanWith_7 (by omega) ?_) | refine e_isub dX11_spanWith_7 ?_
  refine e_istore_n dX11_spanWith_8 rfl (Nat.le_of_ble_eq_true rfl) rfl ?_
  exact key (w 1 - 1) (by omega)
theorem ct_X11_isGoing {fi : FI} {fr : FR} {ai : FI} {ar : FR} {N : Nat} {w : Nat → Nat} (sm : SM fr) (iv : Inv w) {m : Nat} (hm : m < w 3) : CP mX11_isGoing 1 0 0 [.ref (rf 11 80), .int (nI m)] fi fr (mW ai w) ar N (xQ (some (.int (bI (goB w m)))) fi fr (mW ai w) ar N) := by
  obtain ⟨sW, -⟩ := sm
  have h1 := iv_mm iv
  have h2 := (iv_mv iv hm).1
  change EV mX11_isGoing 1 0 0 0 [some (.ref (rf 11 80)), some (.int (nI m))] [] fi fr (mW ai w) ar N _
  refine e_aload_n dX11_isGoing_0 rfl rfl ?_
  refine e_getR dX11_isGoing_1 fl_X11_7 rfl (by assumption) ?_
  refine e_iload_n dX11_isGoing_4 rfl rfl ?_
  refine x_S1 (M' := mX11_moveAt) dX11_isGoing_5 ml_X11_62 ok_X11_moveAt rfl sc_X11_moveAt (ct_X11_moveAt) (Nat.le_of_ble_eq_true rfl) (by decide) (Nat.le_of_ble_eq_true rfl) ?_
  refine e_iconst (v := nI 0) dX11_isGoing_8 rfl ?_
  first | ((with_reducible refine mk_nn ?_); refine n_iadd dX11_isGoing_9 ?_) | refine e_iadd dX11_isGoing_9 ?_
  first | ((with_reducible refine mk_ldw ?_); refine e_ldw dX11_isGoing_10 (by omega) ?_) | refine e_iald _ dX11_isGoing_10 ⟨by decide, by decide⟩ rfl rfl (by simp only [lenK]; omega) ?_
  first | ((with_reducible refine mk_n ?_); refine n_i2l dX11_isGoing_11 (by omega) ?_) | refine e_i2l dX11_isGoing_11 ?_
  refine e_lconst (v := lN 1) dX11_isGoing_12 rfl ?_
  refine e_ldc2 dX11_isGoing_13 co_X11_65 ?_
  refine x_S3 (M' := mX11_isIn) dX11_isGoing_16 ml_X11_45 ok_X11_isIn rfl sc_X11_isIn (ct_isInN (by omega) (by omega) (by omega)) (Nat.le_of_ble_eq_true rfl) (by decide) (Nat.le_of_ble_eq_true rfl) ?_
  first | ((with_reducible refine mk_b ?_); refine e_ret (some _) rfl (r_bool dX11_isGoing_19 rfl) ?_) | ((with_reducible refine mk_n1 ?_); refine e_ret (some _) rfl (r_b1 dX11_isGoing_19 rfl) ?_) | ((with_reducible refine mk_n0 ?_); refine e_ret (some _) rfl (r_b0 dX11_isGoing_19 rfl) ?_)
  exact xq (by first | rfl | simp_all [bI_t, bI_f]) rfl rfl rfl rfl rfl
theorem ct_X11_moveOfSpan {fi : FI} {fr : FR} {ai : FI} {ar : FR} {N : Nat} {w : Nat → Nat} (sm : SM fr) (iv : Inv w) {i : Nat} (hi : i < w 1) : CP mX11_moveOfSpan 2 0 0 [.ref (rf 11 80), .int (nI i)] fi fr (mW ai w) ar N (xQ (some (.int (oI (mvL w (w (10 + i)))))) fi fr (mW ai w) ar N) := by
  obtain ⟨sW, sr⟩ := id sm
  have h1 := iv_n iv
  have h3 := iv_mm iv
  have hl := iv_low iv hi
  change EV mX11_moveOfSpan 2 0 0 0 [some (.ref (rf 11 80)), some (.int (nI i)), none] [] fi fr (mW ai w) ar N _
  have key := ev_up (P := fun m => (∀ j, j < m → (goB w j && decide (w (7694 + 72 * j + 1) = w (10 + i))) = false) → EV mX11_moveOfSpan 2 0 0 2 [some (.ref (rf 11 80)), some (.int (nI i)), some (.int (nI m))] [] fi fr (mW ai w) ar N (xQ (some (.int (oI (mvL w (w (10 + i)))))) fi fr (mW ai w) ar N)) (w 3) (fun m hm ih hn => by
    have hmv := iv_mv iv hm
    refine e_iload_n dX11_moveOfSpan_2 rfl rfl ?_
    refine e_aload_n dX11_moveOfSpan_3 rfl rfl ?_
    refine e_getR dX11_moveOfSpan_4 fl_X11_7 rfl (by assumption) ?_
    refine e_iconst (v := nI 3) dX11_moveOfSpan_7 rfl ?_
    first | ((with_reducible refine mk_ldw ?_); refine e_ldw dX11_moveOfSpan_8 (by omega) ?_) | refine e_iald _ dX11_moveOfSpan_8 ⟨by decide, by decide⟩ rfl rfl (by simp only [lenK]; omega) ?_
    first | ((with_reducible refine mk_nn ?_); refine n_icmp_ge (tgt := 51) dX11_moveOfSpan_9 (by decide) (by omega) (by omega) (fun h9 => ?_) (fun h9 => ?_)) | refine e_icmp_ge (tgt := 51) dX11_moveOfSpan_9 (by decide) (fun h9 => ?_) (fun h9 => ?_)
    · try first | contradiction | omega
      all_goals
        refine e_iconst (v := -1) dX11_moveOfSpan_51 rfl ?_
        refine e_ret (some _) rfl (r_int dX11_moveOfSpan_52 rfl) ?_
        refine xq ?_ rfl rfl rfl rfl rfl
        unfold mvL
        rw [fO_eq (i := m) hn (by simp_all) hm]
        rfl
    · try first | contradiction | omega
      all_goals
        refine e_aload_n dX11_moveOfSpan_12 rfl rfl ?_
        refine e_iload_n dX11_moveOfSpan_13 rfl rfl ?_
        refine x_V1 (M' := mX11_isGoing) dX11_moveOfSpan_14 ml_X11_67 ok_X11_isGoing (by decide) rfl im_X11_isGoing se_X11_isGoing (ct_X11_isGoing ‹_› ‹_› (by omega)) (Nat.le_of_ble_eq_true rfl) (by decide) (Nat.le_of_ble_eq_true rfl) ?_
        first | ((with_reducible refine mk_b ?_); refine b_if_eq (tgt := 45) dX11_moveOfSpan_17 (by decide) (fun h17 => ?_) (fun h17 => ?_)) | ((with_reducible refine mk_ll ?_); refine m_if_eq (tgt := 45) dX11_moveOfSpan_17 (by decide) (by omega) (by omega) (fun h17 => ?_) (fun h17 => ?_)) | ((with_reducible refine mk_lc ?_); refine l_if_eq (tgt := 45) dX11_moveOfSpan_17 (by decide) (fun h17 => ?_) (fun h17 => ?_)) | ((with_reducible refine mk_n ?_); refine n_if_eq (tgt := 45) dX11_moveOfSpan_17 (by decide) (by omega) (fun h17 => ?_) (fun h17 => ?_)) | refine e_if_eq (tgt := 45) dX11_moveOfSpan_17 (by decide) (fun h17 => ?_) (fun h17 => ?_)
        · try first | contradiction | omega | (simp only [decide_eq_true_eq, decide_eq_false_iff_not] at h17; omega)
          all_goals
            first | refine n_inc dX11_moveOfSpan_45 rfl (Nat.le_of_ble_eq_true rfl) rfl ?_ | refine e_iinc dX11_moveOfSpan_45 rfl rfl (Nat.le_of_ble_eq_true rfl) rfl ?_
            refine e_goto (tgt := 2) dX11_moveOfSpan_48 (by decide) ?_
            refine ih (fun j hj => ?_)
            by_cases hjm : j = m
            · subst hjm; simp_all
            · exact hn j (by omega)
        · try first | contradiction | omega | (simp only [decide_eq_true_eq, decide_eq_false_iff_not] at h17; omega)
          all_goals
            refine e_aload_n dX11_moveOfSpan_20 rfl rfl ?_
            refine e_getR dX11_moveOfSpan_21 fl_X11_7 rfl (by assumption) ?_
            refine e_iload_n dX11_moveOfSpan_24 rfl rfl ?_
            refine x_S1 (M' := mX11_moveAt) dX11_moveOfSpan_25 ml_X11_62 ok_X11_moveAt rfl sc_X11_moveAt (ct_X11_moveAt) (Nat.le_of_ble_eq_true rfl) (by decide) (Nat.le_of_ble_eq_true rfl) ?_
            refine e_iconst (v := nI 1) dX11_moveOfSpan_28 rfl ?_
            first | ((with_reducible refine mk_nn ?_); refine n_iadd dX11_moveOfSpan_29 ?_) | refine e_iadd dX11_moveOfSpan_29 ?_
            first | ((with_reducible refine mk_ldw ?_); refine e_ldw dX11_moveOfSpan_30 (by omega) ?_) | refine e_iald _ dX11_moveOfSpan_30 ⟨by decide, by decide⟩ rfl rfl (by simp only [lenK]; omega) ?_
            refine e_aload_n dX11_moveOfSpan_31 rfl rfl ?_
            refine e_getR dX11_moveOfSpan_32 fl_X11_7 rfl (by assumption) ?_
            refine e_bipush (v := nI 10) dX11_moveOfSpan_35 rfl ?_
            refine e_iload_n dX11_moveOfSpan_37 rfl rfl ?_
            first | ((with_reducible refine mk_nn ?_); refine n_iadd dX11_moveOfSpan_38 ?_) | refine e_iadd dX11_moveOfSpan_38 ?_
            first | ((with_reducible refine mk_ldw ?_); refine e_ldw dX11_moveOfSpan_39 (by omega) ?_) | refine e_iald _ dX11_moveOfSpan_39 ⟨by decide, by decide⟩ rfl rfl (by simp only [lenK]; omega) ?_
            first | ((with_reducible refine mk_mo ?_); refine p_icmp_ne (tgt := 45) dX11_moveOfSpan_40 (by decide) (fun h40 => ?_) (fun h40 => ?_)) | ((with_reducible refine mk_ms ?_); refine s_icmp_ne (tgt := 45) dX11_moveOfSpan_40 (by decide) (by omega) (fun h40 => ?_) (fun h40 => ?_)) | ((with_reducible refine mk_mn ?_); refine q_icmp_ne (tgt := 45) dX11_moveOfSpan_40 (by decide) (by omega) (fun h40 => ?_) (fun h40 => ?_)) | ((with_reducible refine mk_nn ?_); refine n_icmp_ne (tgt := 45) dX11_moveOfSpan_40 (by decide) (by omega) (by omega) (fun h40 => ?_) (fun h40 => ?_)) | refine e_icmp_ne (tgt := 45) dX11_moveOfSpan_40 (by decide) (fun h40 => ?_) (fun h40 => ?_)
            · try first | contradiction | omega
              all_goals
                first | refine n_inc dX11_moveOfSpan_45 rfl (Nat.le_of_ble_eq_true rfl) rfl ?_ | refine e_iinc dX11_moveOfSpan_45 rfl rfl (Nat.le_of_ble_eq_true rfl) rfl ?_
                refine e_goto (tgt := 2) dX11_moveOfSpan_48 (by decide) ?_
                refine ih (fun j hj => ?_)
                by_cases hjm : j = m
                · subst hjm; simp_all
                · exact hn j (by omega)
            · try first | contradiction | omega
              all_goals
                refine e_iload_n dX11_moveOfSpan_43 rfl rfl ?_
                refine e_ret (some _) rfl (r_int dX11_moveOfSpan_44 rfl) ?_
                refine xq ?_ rfl rfl rfl rfl rfl
                unfold mvL
                rw [fO_eq (i := m) hn (by simp_all) hm]
                rfl
    ) (fun hn => by
    refine e_iload_n dX11_moveOfSpan_2 rfl rfl ?_
    refine e_aload_n dX11_moveOfSpan_3 rfl rfl ?_
    refine e_getR dX11_moveOfSpan_4 fl_X11_7 rfl (by assumption) ?_
    refine e_iconst (v := nI 3) dX11_moveOfSpan_7 rfl ?_
    first | ((with_reducible refine mk_ldw ?_); refine e_ldw dX11_moveOfSpan_8 (by omega) ?_) | refine e_iald _ dX11_moveOfSpan_8 ⟨by decide, by decide⟩ rfl rfl (by simp only [lenK]; omega) ?_
    first | ((with_reducible refine mk_nn ?_); refine n_icmp_ge (tgt := 51) dX11_moveOfSpan_9 (by decide) (by omega) (by omega) (fun h9 => ?_) (fun h9 => ?_)) | refine e_icmp_ge (tgt := 51) dX11_moveOfSpan_9 (by decide) (fun h9 => ?_) (fun h9 => ?_)
    · try first | contradiction | omega
      all_goals
        refine e_iconst (v := -1) dX11_moveOfSpan_51 rfl ?_
        refine e_ret (some _) rfl (r_int dX11_moveOfSpan_52 rfl) ?_
        refine xq ?_ rfl rfl rfl rfl rfl
        unfold mvL
        rw [fO_no hn]
        rfl
    · try first | contradiction | omega
      all_goals
        refine e_aload_n dX11_moveOfSpan_12 rfl rfl ?_
        refine e_iload_n dX11_moveOfSpan_13 rfl rfl ?_
        refine x_V1 (M' := mX11_isGoing) dX11_moveOfSpan_14 ml_X11_67 ok_X11_isGoing (by decide) rfl im_X11_isGoing se_X11_isGoing (ct_X11_isGoing ‹_› ‹_› (by omega)) (Nat.le_of_ble_eq_true rfl) (by decide) (Nat.le_of_ble_eq_true rfl) ?_
        first | ((with_reducible refine mk_b ?_); refine b_if_eq (tgt := 45) dX11_moveOfSpan_17 (by decide) (fun h17 => ?_) (fun h17 => ?_)) | ((with_reducible refine mk_ll ?_); refine m_if_eq (tgt := 45) dX11_moveOfSpan_17 (by decide) (by omega) (by omega) (fun h17 => ?_) (fun h17 => ?_)) | ((with_reducible refine mk_lc ?_); refine l_if_eq (tgt := 45) dX11_moveOfSpan_17 (by decide) (fun h17 => ?_) (fun h17 => ?_)) | ((with_reducible refine mk_n ?_); refine n_if_eq (tgt := 45) dX11_moveOfSpan_17 (by decide) (by omega) (fun h17 => ?_) (fun h17 => ?_)) | refine e_if_eq (tgt := 45) dX11_moveOfSpan_17 (by decide) (fun h17 => ?_) (fun h17 => ?_)
        · try first | contradiction | omega | (simp only [decide_eq_true_eq, decide_eq_false_iff_not] at h17; omega)
          all_goals
            first | refine n_inc dX11_moveOfSpan_45 rfl (Nat.le_of_ble_eq_true rfl) rfl ?_ | refine e_iinc dX11_moveOfSpan_45 rfl rfl (Nat.le_of_ble_eq_true rfl) rfl ?_
            refine e_goto (tgt := 2) dX11_moveOfSpan_48 (by decide) ?_
            refine ih (fun j hj => ?_)
            by_cases hjm : j = m
            · subst hjm; simp_all
            · exact hn j (by omega)
        · try first | contradiction | omega | (simp only [decide_eq_true_eq, decide_eq_false_iff_not] at h17; omega)
          all_goals
            refine e_aload_n dX11_moveOfSpan_20 rfl rfl ?_
            refine e_getR dX11_moveOfSpan_21 fl_X11_7 rfl (by assumption) ?_
            refine e_iload_n dX11_moveOfSpan_24 rfl rfl ?_
            refine x_S1 (M' := mX11_moveAt) dX11_moveOfSpan_25 ml_X11_62 ok_X11_moveAt rfl sc_X11_moveAt (ct_X11_moveAt) (Nat.le_of_ble_eq_true rfl) (by decide) (Nat.le_of_ble_eq_true rfl) ?_
            refine e_iconst (v := nI 1) dX11_moveOfSpan_28 rfl ?_
            first | ((with_reducible refine mk_nn ?_); refine n_iadd dX11_moveOfSpan_29 ?_) | refine e_iadd dX11_moveOfSpan_29 ?_
            first | ((with_reducible refine mk_ldw ?_); refine e_ldw dX11_moveOfSpan_30 (by omega) ?_) | refine e_iald _ dX11_moveOfSpan_30 ⟨by decide, by decide⟩ rfl rfl (by simp only [lenK]; omega) ?_
            refine e_aload_n dX11_moveOfSpan_31 rfl rfl ?_
            refine e_getR dX11_moveOfSpan_32 fl_X11_7 rfl (by assumption) ?_
            refine e_bipush (v := nI 10) dX11_moveOfSpan_35 rfl ?_
            refine e_iload_n dX11_moveOfSpan_37 rfl rfl ?_
            first | ((with_reducible refine mk_nn ?_); refine n_iadd dX11_moveOfSpan_38 ?_) | refine e_iadd dX11_moveOfSpan_38 ?_
            first | ((with_reducible refine mk_ldw ?_); refine e_ldw dX11_moveOfSpan_39 (by omega) ?_) | refine e_iald _ dX11_moveOfSpan_39 ⟨by decide, by decide⟩ rfl rfl (by simp only [lenK]; omega) ?_
            first | ((with_reducible refine mk_mo ?_); refine p_icmp_ne (tgt := 45) dX11_moveOfSpan_40 (by decide) (fun h40 => ?_) (fun h40 => ?_)) | ((with_reducible refine mk_ms ?_); refine s_icmp_ne (tgt := 45) dX11_moveOfSpan_40 (by decide) (by omega) (fun h40 => ?_) (fun h40 => ?_)) | ((with_reducible refine mk_mn ?_); refine q_icmp_ne (tgt := 45) dX11_moveOfSpan_40 (by decide) (by omega) (fun h40 => ?_) (fun h40 => ?_)) | ((with_reducible refine mk_nn ?_); refine n_icmp_ne (tgt := 45) dX11_moveOfSpan_40 (by decide) (by omega) (by omega) (fun h40 => ?_) (fun h40 => ?_)) | refine e_icmp_ne (tgt := 45) dX11_moveOfSpan_40 (by decide) (fun h40 => ?_) (fun h40 => ?_)
            · try first | contradiction | omega
              all_goals
                first | refine n_inc dX11_moveOfSpan_45 rfl (Nat.le_of_ble_eq_true rfl) rfl ?_ | refine e_iinc dX11_moveOfSpan_45 rfl rfl (Nat.le_of_ble_eq_true rfl) rfl ?_
                refine e_goto (tgt := 2) dX11_moveOfSpan_48 (by decide) ?_
                refine ih (fun j hj => ?_)
                by_cases hjm : j = m
                · subst hjm; simp_all
                · exact hn j (by omega)
            · try first | contradiction | omega
              all_goals
                refine e_iload_n dX11_moveOfSpan_43 rfl rfl ?_
                refine e_ret (some _) rfl (r_int dX11_moveOfSpan_44 rfl) ?_
                refine xq ?_ rfl rfl rfl rfl rfl
                unfold mvL
                rw [fO_no hn]
                rfl
    )
  refine e_iconst (v := nI 0) dX11_moveOfSpan_0 rfl ?_
  refine e_istore_n dX11_moveOfSpan_1 rfl (Nat.le_of_ble_eq_true rfl) rfl ?_
  exact key 0 (Nat.zero_le _) (fun j hj => absurd hj (Nat.not_lt_zero j))
theorem ct_X11_weightOf {fi : FI} {fr : FR} {ai : FI} {ar : FR} {N : Nat} {w : Nat → Nat} (sm : SM fr) (iv : Inv w) {i : Nat} (hi : i < w 1) : CP mX11_weightOf 1 0 0 [.ref (rf 11 80), .int (nI i)] fi fr (mW ai w) ar N (xQ (some (.long (lN (wtF w i)))) fi fr (mW ai w) ar N) := by
  obtain ⟨sW, sr⟩ := id sm
  have h1 := iv_n iv
  have he := enF_le iv hi
  change EV mX11_weightOf 1 0 0 0 [some (.ref (rf 11 80)), some (.int (nI i)), none, none, none] [] fi fr (mW ai w) ar N _
  have key := ev_up (P := fun j => EV mX11_weightOf 1 0 0 13 [some (.ref (rf 11 80)), some (.int (nI i)), some (.long (lN (rs (fun k => w (106 + k)) (w (10 + i)) j))), none, some (.int (nI (w (10 + i) + j)))] [] fi fr (mW ai w) ar N (xQ (some (.long (lN (wtF w i)))) fi fr (mW ai w) ar N)) (enF w i - w (10 + i)) (fun j hj ih => by
    have hw := iv_wt iv (k := w (10 + i) + j) (by omega)
    refine e_iload dX11_weightOf_13 rfl ?_
    refine e_aload_n dX11_weightOf_15 rfl rfl ?_
    refine e_iload_n dX11_weightOf_16 rfl rfl ?_
    refine x_V1 (M' := mX11_endOf) dX11_weightOf_17 ml_X11_70 ok_X11_endOf (by decide) rfl im_X11_endOf se_X11_endOf (ct_X11_endOf ‹_› ‹_› (by omega)) (Nat.le_of_ble_eq_true rfl) (by decide) (Nat.le_of_ble_eq_true rfl) ?_
    first | ((with_reducible refine mk_nn ?_); refine n_icmp_ge (tgt := 43) dX11_weightOf_20 (by decide) (by omega) (by omega) (fun h20 => ?_) (fun h20 => ?_)) | refine e_icmp_ge (tgt := 43) dX11_weightOf_20 (by decide) (fun h20 => ?_) (fun h20 => ?_)
    · try first | contradiction | omega
      all_goals
        refine e_lload_n dX11_weightOf_43 rfl rfl ?_
        refine e_ret (some _) rfl (r_long dX11_weightOf_44 rfl) ?_
        exact xq (by first | rfl | simp_all [bI_t, bI_f]) rfl rfl rfl rfl rfl
    · try first | contradiction | omega
      all_goals
        refine e_lload_n dX11_weightOf_23 rfl rfl ?_
        refine e_aload_n dX11_weightOf_24 rfl rfl ?_
        refine e_getR dX11_weightOf_25 fl_X11_7 rfl (by assumption) ?_
        refine e_bipush (v := nI 106) dX11_weightOf_28 rfl ?_
        refine e_iload dX11_weightOf_30 rfl ?_
        first | ((with_reducible refine mk_nn ?_); refine n_iadd dX11_weightOf_32 ?_) | refine e_iadd dX11_weightOf_32 ?_
        first | ((with_reducible refine mk_ldw ?_); refine e_ldw dX11_weightOf_33 (by omega) ?_) | refine e_iald _ dX11_weightOf_33 ⟨by decide, by decide⟩ rfl rfl (by simp only [lenK]; omega) ?_
        first | ((with_reducible refine mk_n ?_); refine n_i2l dX11_weightOf_34 (by omega) ?_) | refine e_i2l dX11_weightOf_34 ?_
        first | ((with_reducible refine mk_LL ?_); refine n_ladd dX11_weightOf_35 ?_) | refine e_ladd dX11_weightOf_35 ?_
        refine e_lstore_n dX11_weightOf_36 rfl (Nat.le_of_ble_eq_true rfl) rfl ?_
        first | refine n_inc dX11_weightOf_37 rfl (Nat.le_of_ble_eq_true rfl) rfl ?_ | refine e_iinc dX11_weightOf_37 rfl rfl (Nat.le_of_ble_eq_true rfl) rfl ?_
        refine e_goto (tgt := 13) dX11_weightOf_40 (by decide) ?_
        exact ih
    ) (by
    refine e_iload dX11_weightOf_13 rfl ?_
    refine e_aload_n dX11_weightOf_15 rfl rfl ?_
    refine e_iload_n dX11_weightOf_16 rfl rfl ?_
    refine x_V1 (M' := mX11_endOf) dX11_weightOf_17 ml_X11_70 ok_X11_endOf (by decide) rfl im_X11_endOf se_X11_endOf (ct_X11_endOf ‹_› ‹_› (by omega)) (Nat.le_of_ble_eq_true rfl) (by decide) (Nat.le_of_ble_eq_true rfl) ?_
    first | ((with_reducible refine mk_nn ?_); refine n_icmp_ge (tgt := 43) dX11_weightOf_20 (by decide) (by omega) (by omega) (fun h20 => ?_) (fun h20 => ?_)) | refine e_icmp_ge (tgt := 43) dX11_weightOf_20 (by decide) (fun h20 => ?_) (fun h20 => ?_)
    · try first | contradiction | omega
      all_goals
        refine e_lload_n dX11_weightOf_43 rfl rfl ?_
        refine e_ret (some _) rfl (r_long dX11_weightOf_44 rfl) ?_
        exact xq rfl rfl rfl rfl rfl rfl
    · try first | contradiction | omega
      all_goals
        refine e_lload_n dX11_weightOf_23 rfl rfl ?_
        refine e_aload_n dX11_weightOf_24 rfl rfl ?_
        refine e_getR dX11_weightOf_25 fl_X11_7 rfl (by assumption) ?_
        refine e_bipush (v := nI 106) dX11_weightOf_28 rfl ?_
        refine e_iload dX11_weightOf_30 rfl ?_
        first | ((with_reducible refine mk_nn ?_); refine n_iadd dX11_weightOf_32 ?_) | refine e_iadd dX11_weightOf_32 ?_
        first | ((with_reducible refine mk_ldw ?_); refine e_ldw dX11_weightOf_33 (by omega) ?_) | refine e_iald _ dX11_weightOf_33 ⟨by decide, by decide⟩ rfl rfl (by simp only [lenK]; omega) ?_
        first | ((with_reducible refine mk_n ?_); refine n_i2l dX11_weightOf_34 (by omega) ?_) | refine e_i2l dX11_weightOf_34 ?_
        first | ((with_reducible refine mk_LL ?_); refine n_ladd dX11_weightOf_35 ?_) | refine e_ladd dX11_weightOf_35 ?_
        refine e_lstore_n dX11_weightOf_36 rfl (Nat.le_of_ble_eq_true rfl) rfl ?_
        first | refine n_inc dX11_weightOf_37 rfl (Nat.le_of_ble_eq_true rfl) rfl ?_ | refine e_iinc dX11_weightOf_37 rfl rfl (Nat.le_of_ble_eq_true rfl) rfl ?_
        refine e_goto (tgt := 13) dX11_weightOf_40 (by decide) ?_
        exact ih
    )
  refine e_lconst (v := lN 0) dX11_weightOf_0 rfl ?_
  refine e_lstore_n dX11_weightOf_1 rfl (Nat.le_of_ble_eq_true rfl) rfl ?_
  refine e_aload_n dX11_weightOf_2 rfl rfl ?_
  refine e_getR dX11_weightOf_3 fl_X11_7 rfl (by assumption) ?_
  refine e_bipush (v := nI 10) dX11_weightOf_6 rfl ?_
  refine e_iload_n dX11_weightOf_8 rfl rfl ?_
  first | ((with_reducible refine mk_nn ?_); refine n_iadd dX11_weightOf_9 ?_) | refine e_iadd dX11_weightOf_9 ?_
  first | ((with_reducible refine mk_ldw ?_); refine e_ldw dX11_weightOf_10 (by omega) ?_) | refine e_iald _ dX11_weightOf_10 ⟨by decide, by decide⟩ rfl rfl (by simp only [lenK]; omega) ?_
  refine e_istore dX11_weightOf_11 (Nat.le_of_ble_eq_true rfl) rfl ?_
  exact key 0 (Nat.zero_le _)
theorem ct_X11_named {fi : FI} {fr : FR} {ai : FI} {ar : FR} {N : Nat} {w : Nat → Nat} (sm : SM fr) (iv : Inv w) (x : Int32) : CP mX11_named 2 0 0 [.ref (rf 11 80), .int x] fi fr (mW ai w) ar N (xQ (some (.int (oI (nmO w x)))) fi fr (mW ai w) ar N) := by
  obtain ⟨sW, sr⟩ := id sm
  have h1 := iv_n iv
  change EV mX11_named 2 0 0 0 [some (.ref (rf 11 80)), some (.int x), none] [] fi fr (mW ai w) ar N _
  cases hx : inR x 1000 with
  | false =>
    refine e_iload_n dX11_named_0 rfl rfl ?_
    refine x_S1 (M' := mX11_isKey) dX11_named_1 ml_X11_54 ok_X11_isKey rfl sc_X11_isKey (ct_X11_isKey _) (Nat.le_of_ble_eq_true rfl) (by decide) (Nat.le_of_ble_eq_true rfl) ?_
    rw [hx]
    first | ((with_reducible refine mk_b ?_); refine b_if_ne (tgt := 9) dX11_named_4 (by decide) (fun h4 => ?_) (fun h4 => ?_)) | ((with_reducible refine mk_ll ?_); refine m_if_ne (tgt := 9) dX11_named_4 (by decide) (by omega) (by omega) (fun h4 => ?_) (fun h4 => ?_)) | ((with_reducible refine mk_lc ?_); refine l_if_ne (tgt := 9) dX11_named_4 (by decide) (fun h4 => ?_) (fun h4 => ?_)) | ((with_reducible refine mk_n ?_); refine n_if_ne (tgt := 9) dX11_named_4 (by decide) (by omega) (fun h4 => ?_) (fun h4 => ?_)) | refine e_if_ne (tgt := 9) dX11_named_4 (by decide) (fun h4 => ?_) (fun h4 => ?_)
    · try first | contradiction | omega | (simp only [decide_eq_true_eq, decide_eq_false_iff_not] at h4; omega)
      all_goals
        refine e_aload_n dX11_named_9 rfl rfl ?_
        refine e_iload_n dX11_named_10 rfl rfl ?_
        refine x_V1 (M' := mX11_spanWith) dX11_named_11 ml_X11_58 ok_X11_spanWith (by decide) rfl im_X11_spanWith se_X11_spanWith (ct_X11_spanWith ‹_› ‹_› (by omega)) (Nat.le_of_ble_eq_true rfl) (by decide) (Nat.le_of_ble_eq_true rfl) ?_
        refine e_istore_n dX11_named_14 rfl (Nat.le_of_ble_eq_true rfl) rfl ?_
        refine e_aload_n dX11_named_15 rfl rfl ?_
        refine e_getR dX11_named_16 fl_X11_7 rfl (by assumption) ?_
        refine e_bipush (v := nI 10) dX11_named_19 rfl ?_
        refine e_iload_n dX11_named_21 rfl rfl ?_
        first | ((with_reducible refine mk_nn ?_); refine n_iadd dX11_named_22 ?_) | refine e_iadd dX11_named_22 ?_
        first | ((with_reducible refine mk_ldw ?_); refine e_ldw dX11_named_23 (by omega) ?_) | refine e_iald _ dX11_named_23 ⟨by decide, by decide⟩ rfl rfl (by simp only [lenK]; omega) ?_
        refine e_iload_n dX11_named_24 rfl rfl ?_
        first | ((with_reducible refine mk_mo ?_); refine p_icmp_ne (tgt := 32) dX11_named_25 (by decide) (fun h25 => ?_) (fun h25 => ?_)) | ((with_reducible refine mk_ms ?_); refine s_icmp_ne (tgt := 32) dX11_named_25 (by decide) (by omega) (fun h25 => ?_) (fun h25 => ?_)) | ((with_reducible refine mk_mn ?_); refine q_icmp_ne (tgt := 32) dX11_named_25 (by decide) (by omega) (fun h25 => ?_) (fun h25 => ?_)) | ((with_reducible refine mk_nn ?_); refine n_icmp_ne (tgt := 32) dX11_named_25 (by decide) (by omega) (by omega) (fun h25 => ?_) (fun h25 => ?_)) | refine e_icmp_ne (tgt := 32) dX11_named_25 (by decide) (fun h25 => ?_) (fun h25 => ?_)
        · try first | contradiction | omega
          all_goals
            refine e_iconst (v := -1) dX11_named_32 rfl ?_
            refine e_ret (some _) rfl (r_int dX11_named_33 rfl) ?_
            refine xq ?_ rfl rfl rfl rfl rfl
            unfold nmO
            rw [hx]
            rfl
        · try first | contradiction | omega
          all_goals
            refine e_iload_n dX11_named_28 rfl rfl ?_
            refine e_goto (tgt := 33) dX11_named_29 (by decide) ?_
            refine e_ret (some _) rfl (r_int dX11_named_33 rfl) ?_
            refine xq ?_ rfl rfl rfl rfl rfl
            unfold nmO
            rw [hx]
            rfl
    · try first | contradiction | omega | (simp only [decide_eq_true_eq, decide_eq_false_iff_not] at h4; omega)
      all_goals
        refine e_iconst (v := -1) dX11_named_7 rfl ?_
        refine e_ret (some _) rfl (r_int dX11_named_8 rfl) ?_
        refine xq ?_ rfl rfl rfl rfl rfl
        unfold nmO
        rw [hx]
        rfl
  | true =>
    obtain ⟨a, ha, ha2, rfl⟩ := inR_ex hx
    have hlt := spW_lt iv a
    have hlo := iv_low iv hlt
    have hcl : (nI a).toNatClampNeg = a := nI_clamp ha2
    refine e_iload_n dX11_named_0 rfl rfl ?_
    refine x_S1 (M' := mX11_isKey) dX11_named_1 ml_X11_54 ok_X11_isKey rfl sc_X11_isKey (ct_X11_isKey _) (Nat.le_of_ble_eq_true rfl) (by decide) (Nat.le_of_ble_eq_true rfl) ?_
    rw [hx]
    first | ((with_reducible refine mk_b ?_); refine b_if_ne (tgt := 9) dX11_named_4 (by decide) (fun h4 => ?_) (fun h4 => ?_)) | ((with_reducible refine mk_ll ?_); refine m_if_ne (tgt := 9) dX11_named_4 (by decide) (by omega) (by omega) (fun h4 => ?_) (fun h4 => ?_)) | ((with_reducible refine mk_lc ?_); refine l_if_ne (tgt := 9) dX11_named_4 (by decide) (fun h4 => ?_) (fun h4 => ?_)) | ((with_reducible refine mk_n ?_); refine n_if_ne (tgt := 9) dX11_named_4 (by decide) (by omega) (fun h4 => ?_) (fun h4 => ?_)) | refine e_if_ne (tgt := 9) dX11_named_4 (by decide) (fun h4 => ?_) (fun h4 => ?_)
    · try first | contradiction | omega | (simp only [decide_eq_true_eq, decide_eq_false_iff_not] at h4; omega)
      all_goals
        refine e_aload_n dX11_named_9 rfl rfl ?_
        refine e_iload_n dX11_named_10 rfl rfl ?_
        refine x_V1 (M' := mX11_spanWith) dX11_named_11 ml_X11_58 ok_X11_spanWith (by decide) rfl im_X11_spanWith se_X11_spanWith (ct_X11_spanWith ‹_› ‹_› (by omega)) (Nat.le_of_ble_eq_true rfl) (by decide) (Nat.le_of_ble_eq_true rfl) ?_
        refine e_istore_n dX11_named_14 rfl (Nat.le_of_ble_eq_true rfl) rfl ?_
        refine e_aload_n dX11_named_15 rfl rfl ?_
        refine e_getR dX11_named_16 fl_X11_7 rfl (by assumption) ?_
        refine e_bipush (v := nI 10) dX11_named_19 rfl ?_
        refine e_iload_n dX11_named_21 rfl rfl ?_
        first | ((with_reducible refine mk_nn ?_); refine n_iadd dX11_named_22 ?_) | refine e_iadd dX11_named_22 ?_
        first | ((with_reducible refine mk_ldw ?_); refine e_ldw dX11_named_23 (by omega) ?_) | refine e_iald _ dX11_named_23 ⟨by decide, by decide⟩ rfl rfl (by simp only [lenK]; omega) ?_
        refine e_iload_n dX11_named_24 rfl rfl ?_
        first | ((with_reducible refine mk_mo ?_); refine p_icmp_ne (tgt := 32) dX11_named_25 (by decide) (fun h25 => ?_) (fun h25 => ?_)) | ((with_reducible refine mk_ms ?_); refine s_icmp_ne (tgt := 32) dX11_named_25 (by decide) (by omega) (fun h25 => ?_) (fun h25 => ?_)) | ((with_reducible refine mk_mn ?_); refine q_icmp_ne (tgt := 32) dX11_named_25 (by decide) (by omega) (fun h25 => ?_) (fun h25 => ?_)) | ((with_reducible refine mk_nn ?_); refine n_icmp_ne (tgt := 32) dX11_named_25 (by decide) (by omega) (by omega) (fun h25 => ?_) (fun h25 => ?_)) | refine e_icmp_ne (tgt := 32) dX11_named_25 (by decide) (fun h25 => ?_) (fun h25 => ?_)
        · try first | contradiction | omega
          all_goals
            refine e_iconst (v := -1) dX11_named_32 rfl ?_
            refine e_ret (some _) rfl (r_int dX11_named_33 rfl) ?_
            refine xq ?_ rfl rfl rfl rfl rfl
            unfold nmO
            rw [hx, hcl]
            first | rw [if_pos rfl, if_pos (by omega)]; rfl | rw [if_pos rfl, if_neg (by omega)]; rfl
        · try first | contradiction | omega
          all_goals
            refine e_iload_n dX11_named_28 rfl rfl ?_
            refine e_goto (tgt := 33) dX11_named_29 (by decide) ?_
            refine e_ret (some _) rfl (r_int dX11_named_33 rfl) ?_
            refine xq ?_ rfl rfl rfl rfl rfl
            unfold nmO
            rw [hx, hcl]
            first | rw [if_pos rfl, if_pos (by omega)]; rfl | rw [if_pos rfl, if_neg (by omega)]; rfl
    · try first | contradiction | omega | (simp only [decide_eq_true_eq, decide_eq_false_iff_not] at h4; omega)
      all_goals
        refine e_iconst (v := -1) dX11_named_7 rfl ?_
        refine e_ret (some _) rfl (r_int dX11_named_8 rfl) ?_
        refine xq ?_ rfl rfl rfl rfl rfl
        unfold nmO
        rw [hx, hcl]
        first | rw [if_pos rfl, if_pos (by omega)]; rfl | rw [if_pos rfl, if_neg (by omega)]; rfl
