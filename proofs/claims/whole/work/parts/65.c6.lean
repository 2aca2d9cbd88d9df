theorem rs_add (f : Nat → Nat) (a m : Nat) : ∀ n, rs f a (m + n) = rs f a m + rs f (a + m) n
  | 0 => rfl
  | n + 1 => by rw [← Nat.add_assoc, rs_s, rs_add f a m n, rs_s]; simp only [Nat.add_assoc]
theorem rs_mono (f : Nat → Nat) {a b : Nat} (h : a ≤ b) : rs f 0 a ≤ rs f 0 b := by
  obtain ⟨d, rfl⟩ : ∃ d, b = a + d := ⟨b - a, by omega⟩
  rw [rs_add]; omega
theorem rs_sub (f : Nat → Nat) {a b : Nat} (h : a ≤ b) : rs f 0 b - rs f 0 a = rs f a (b - a) := by
  obtain ⟨d, rfl⟩ : ∃ d, b = a + d := ⟨b - a, by omega⟩
  rw [rs_add, Nat.zero_add]
  rw [show a + d - a = d by omega]
  omega
theorem rs_tot {w : Nat → Nat} (iv : Inv w) {k : Nat} (hk : k ≤ 1000) : rs (fun k => w (106 + k)) 0 k ≤ 100000000 := by
  have := rs_le (f := fun k => w (106 + k)) (a := 0) (B := 100000) k (fun j hj => iv_wt iv (by omega))
  omega
theorem wt_sum {w : Nat → Nat} (iv : Inv w) : ∀ j, j ≤ w 1 → rs (wtF w) 0 j = rs (fun k => w (106 + k)) 0 (if j < w 1 then w (10 + j) else 1000)
  | 0, _ => by rw [if_pos (by have := iv_n iv; omega), iv_l0 iv]; rfl
  | j + 1, h => by
    rw [rs_s, wt_sum iv j (by omega), if_pos (by omega), Nat.zero_add]
    have he := enF_le iv (i := j) (by omega)
    have hw : wtF w j = rs (fun k => w (106 + k)) (w (10 + j)) (enF w j - w (10 + j)) := rfl
    rw [hw, ← rs_sub _ (by omega)]
    have hm := rs_mono (fun k => w (106 + k)) (a := w (10 + j)) (b := enF w j) (by omega)
    have : enF w j = if j + 1 < w 1 then w (10 + (j + 1)) else 1000 := rfl
    rw [← this]
    omega
theorem ldF_le2 {w : Nat → Nat} (iv : Inv w) (s : Nat) : ldF w s ≤ 100000000 := by
  have h1 : ∀ j, rs (fun i => if w (42 + i) = s then wtF w i else 0) 0 j ≤ rs (wtF w) 0 j := by
    intro j
    induction j with
    | zero => exact Nat.le_refl _
    | succ j ih =>
      rw [rs_s, rs_s]
      have : (if w (42 + (0 + j)) = s then wtF w (0 + j) else 0) ≤ wtF w (0 + j) := by split <;> omega
      have e : (fun i => if w (42 + i) = s then wtF w i else 0) (0 + j) = (if w (42 + (0 + j)) = s then wtF w (0 + j) else 0) := rfl
      omega
  have h2 := h1 (w 1)
  rw [wt_sum iv _ (Nat.le_refl _), if_neg (by omega)] at h2
  have h3 := rs_tot iv (k := 1000) (by omega)
  unfold ldF
  omega
def PL (fi ai : FI) (v : Nat → Nat) : Prop :=
  (∀ k, k ≤ 1000 → ai (rf 25 66) k = nI (rs (fun k => v (106 + k)) 0 k)) ∧
  (∀ i, i < v 1 → ai (rf 26 67) i = nI (v (10 + i)) ∧ ai (rf 16 68) i = nI (v (42 + i)) ∧ ai (rf 27 69) i = bI (mvL v (v (10 + i))).isSome) ∧ ai (rf 26 67) (v 1) = nI 1000 ∧
  (∀ s, s < 6 → ai (rf 23 70) s = nI (ldF v s)) ∧ fi (32 * 6 + 5) (rf 6 65) = nI (v 1) ∧ fi (32 * 6 + 6) (rf 6 65) = nI (ubF v 6)
theorem pl_sum {fi ai : FI} {v : Nat → Nat} (h : PL fi ai v) {k : Nat} (hk : k ≤ 1000) : ai (rf 25 66) k = nI (rs (fun k => v (106 + k)) 0 k) := h.1 k hk
theorem pl_lo {fi ai : FI} {v : Nat → Nat} (h : PL fi ai v) {i : Nat} (hi : i < v 1) : ai (rf 26 67) i = nI (v (10 + i)) := (h.2.1 i hi).1
theorem pl_hi {fi ai : FI} {v : Nat → Nat} (h : PL fi ai v) {i : Nat} (hi : i < v 1) : ai (rf 26 67) (i + 1) = nI (enF v i) := by
  unfold enF
  by_cases e : i + 1 < v 1
  · rw [if_pos e]; exact (h.2.1 (i + 1) e).1
  · rw [if_neg e, show i + 1 = v 1 by omega]; exact h.2.2.1
theorem pl_ow {fi ai : FI} {v : Nat → Nat} (h : PL fi ai v) {i : Nat} (hi : i < v 1) : ai (rf 16 68) i = nI (v (42 + i)) := (h.2.1 i hi).2.1
theorem pl_bu {fi ai : FI} {v : Nat → Nat} (h : PL fi ai v) {i : Nat} (hi : i < v 1) : ai (rf 27 69) i = bI (mvL v (v (10 + i))).isSome := (h.2.1 i hi).2.2
theorem pl_ld {fi ai : FI} {v : Nat → Nat} (h : PL fi ai v) {s : Nat} (hs : s < 6) : ai (rf 23 70) s = nI (ldF v s) := h.2.2.2.1 s hs
theorem pl_n {fi ai : FI} {v : Nat → Nat} (h : PL fi ai v) : fi (32 * 6 + 5) (rf 6 65) = nI (v 1) := h.2.2.2.2.1
theorem pl_up {fi ai : FI} {v : Nat → Nat} (h : PL fi ai v) : fi (32 * 6 + 6) (rf 6 65) = nI (ubF v 6) := h.2.2.2.2.2
theorem ct_wOf {fi : FI} {fr : FR} {ai : FI} {ar : FR} {N : Nat} {w : Nat → Nat} (cm : CM fr ar) {i a b : Nat} (hi : i < 32) (hS : ∀ k, k ≤ 1000 → ai (rf 25 66) k = nI (rs (fun k => w (106 + k)) 0 k)) (ha : ai (rf 26 67) i = nI a) (hb : ai (rf 26 67) (i + 1) = nI b) (hab : a ≤ b) (hb2 : b ≤ 1000) : CP mX6_weightOf 0 0 0 [.ref (rf 6 65), .int (nI i)] fi fr ai ar N (xQ (some (.int (nI (rs (fun k => w (106 + k)) a (b - a))))) fi fr ai ar N) := by
  rw [← rs_sub _ hab]
  have hm := rs_mono (fun k => w (106 + k)) hab
  change EV mX6_weightOf 0 0 0 0 [some (.ref (rf 6 65)), some (.int (nI i))] [] fi fr ai ar N _
  refine e_aload_n dX6_weightOf_0 rfl rfl ?_
  refine e_getR dX6_weightOf_1 fl_X6_9 rfl (cp_sum cm) ?_
  refine e_aload_n dX6_weightOf_4 rfl rfl ?_
  refine e_getR dX6_weightOf_5 fl_X6_15 rfl (cp_lows cm) ?_
  refine e_iload_n dX6_weightOf_8 rfl rfl ?_
  refine e_iconst (v := nI 1) dX6_weightOf_9 rfl ?_
  first | ((with_reducible refine mk_nn ?_); refine n_iadd dX6_weightOf_10 ?_) | refine e_iadd dX6_weightOf_10 ?_
  refine e_iadE _ dX6_weightOf_11 ⟨by decide, by decide⟩ rfl rfl (by simp only [lenK]; omega) (by first | exact hb | exact ha) ?_
  refine e_iadE _ dX6_weightOf_12 ⟨by decide, by decide⟩ rfl rfl (by simp only [lenK]; omega) (hS _ (by omega)) ?_
  refine e_aload_n dX6_weightOf_13 rfl rfl ?_
  refine e_getR dX6_weightOf_14 fl_X6_9 rfl (cp_sum cm) ?_
  refine e_aload_n dX6_weightOf_17 rfl rfl ?_
  refine e_getR dX6_weightOf_18 fl_X6_15 rfl (cp_lows cm) ?_
  refine e_iload_n dX6_weightOf_21 rfl rfl ?_
  refine e_iadE _ dX6_weightOf_22 ⟨by decide, by decide⟩ rfl rfl (by simp only [lenK]; omega) (by first | exact hb | exact ha) ?_
  refine e_iadE _ dX6_weightOf_23 ⟨by decide, by decide⟩ rfl rfl (by simp only [lenK]; omega) (hS _ (by omega)) ?_
  first | ((with_reducible refine mk_nn ?_); refine n_isub dX6_weightOf_24 (by omega) ?_) | refine e_isub dX6_weightOf_24 ?_
  refine e_ret (some _) rfl (r_int dX6_weightOf_25 rfl) ?_
  exact xq rfl rfl rfl rfl rfl rfl
theorem ct_X6_weightOf {fi : FI} {fr : FR} {ai : FI} {ar : FR} {N : Nat} {w : Nat → Nat} (cm : CM fr ar) (iv : Inv w) (hP : PL fi ai w) {i : Nat} (hi : i < w 1) : CP mX6_weightOf 0 0 0 [.ref (rf 6 65), .int (nI i)] fi fr ai ar N (xQ (some (.int (nI (wtF w i)))) fi fr ai ar N) := by
  have h1 := iv_n iv
  have h3 := iv_mm iv
  have bd := Bd_iv iv
  have hF : FR1 fi ai fi ai := FR1_rf
  have he := enF_le iv hi
  exact ct_wOf cm (by omega) hP.1 (pl_lo hP hi) (pl_hi hP hi) (by omega) (by omega)
theorem md_some {w : Nat → Nat} (iv : Inv w) {i k : Nat} (hi : i < w 1) (h0 : wtF w i ≠ 0) (hk : w (10 + i) + 1 ≤ k ∧ k < enF w i) (hp : wtF w i ≤ 2 * rs (fun k => w (106 + k)) (w (10 + i)) (k - w (10 + i))) (hn : ∀ q, w (10 + i) + 1 ≤ q → q < k → ¬ wtF w i ≤ 2 * rs (fun k => w (106 + k)) (w (10 + i)) (q - w (10 + i))) : mdO w i = some k := by
  have a : ∀ j, j < k - w (10 + i) - 1 → (fun j => decide (wtF w i ≤ 2 * rs (fun k => w (106 + k)) (w (10 + i)) (j + 1))) j = false := fun j hj => decide_eq_false (by
    have := hn (w (10 + i) + 1 + j) (by omega) (by omega)
    rw [show w (10 + i) + 1 + j - w (10 + i) = j + 1 by omega] at this
    exact this)
  have b : (fun j => decide (wtF w i ≤ 2 * rs (fun k => w (106 + k)) (w (10 + i)) (j + 1))) (k - w (10 + i) - 1) = true := decide_eq_true (by
    rw [show k - w (10 + i) - 1 + 1 = k - w (10 + i) by omega]; exact hp)
  unfold mdO
  rw [if_neg h0, fO_eq a b (by omega)]
  show some (w (10 + i) + 1 + (k - w (10 + i) - 1)) = some k
  rw [show w (10 + i) + 1 + (k - w (10 + i) - 1) = k by omega]
theorem md_none {w : Nat → Nat} {i : Nat} (hn : ∀ q, w (10 + i) + 1 ≤ q → q < enF w i → ¬ wtF w i ≤ 2 * rs (fun k => w (106 + k)) (w (10 + i)) (q - w (10 + i))) : mdO w i = none := by
  unfold mdO
  split
  · rfl
  · have a : ∀ j, j < enF w i - w (10 + i) - 1 → (fun j => decide (wtF w i ≤ 2 * rs (fun k => w (106 + k)) (w (10 + i)) (j + 1))) j = false := fun j hj => decide_eq_false (by
      have := hn (w (10 + i) + 1 + j) (by omega) (by omega)
      rw [show w (10 + i) + 1 + j - w (10 + i) = j + 1 by omega] at this
      exact this)
    rw [fO_no a]
    rfl
theorem rs_up (f : Nat → Nat) (a : Nat) {m n : Nat} (h : m ≤ n) : rs f a m ≤ rs f a n := by
  obtain ⟨d, rfl⟩ : ∃ d, n = m + d := ⟨n - m, by omega⟩
  rw [rs_add]; omega
theorem ct_X6_middleIn {fi : FI} {fr : FR} {ai : FI} {ar : FR} {N : Nat} {w : Nat → Nat} (cm : CM fr ar) (iv : Inv w) (hP : PL fi ai w) {i : Nat} (hi : i < w 1) : CP mX6_middleIn 1 0 0 [.ref (rf 6 65), .int (nI i)] fi fr ai ar N (xQ (some (.int (oI (mdO w i)))) fi fr ai ar N) := by
  have h1 := iv_n iv
  have h3 := iv_mm iv
  have bd := Bd_iv iv
  have hF : FR1 fi ai fi ai := FR1_rf
  have he := enF_le iv hi
  have hwt := wtF_le iv hi
  change EV mX6_middleIn 1 0 0 0 [some (.ref (rf 6 65)), some (.int (nI i)), none, none, none, none, none] [] fi fr ai ar N (xQ (some (.int (oI (mdO w i)))) fi fr ai ar N)
  by_cases h0 : wtF w i = 0
  · have e : mdO w i = none := by unfold mdO; rw [if_pos h0]
    rw [e]
    refine e_aload_n dX6_middleIn_0 rfl rfl ?_
    refine e_iload_n dX6_middleIn_1 rfl rfl ?_
    refine x_V1 (M' := mX6_weightOf) dX6_middleIn_2 ml_X6_60 ok_X6_weightOf (by decide) rfl im_X6_weightOf se_X6_weightOf (ct_X6_weightOf cm iv hP (by omega)) (Nat.le_of_ble_eq_true rfl) (by decide) (Nat.le_of_ble_eq_true rfl) ?_
    refine e_istore_n dX6_middleIn_5 rfl (Nat.le_of_ble_eq_true rfl) rfl ?_
    refine e_aload_n dX6_middleIn_6 rfl rfl ?_
    refine e_getR dX6_middleIn_7 fl_X6_15 rfl (cp_lows cm) ?_
    refine e_iload_n dX6_middleIn_10 rfl rfl ?_
    refine e_iadE _ dX6_middleIn_11 ⟨by decide, by decide⟩ rfl rfl (by simp only [lenK]; omega) (by first | exact pl_lo hP (by omega) | exact pl_hi hP (by omega)) ?_
    refine e_iconst (v := nI 1) dX6_middleIn_12 rfl ?_
    first | ((with_reducible refine mk_nn ?_); refine n_iadd dX6_middleIn_13 ?_) | refine e_iadd dX6_middleIn_13 ?_
    refine e_istore_n dX6_middleIn_14 rfl (Nat.le_of_ble_eq_true rfl) rfl ?_
    refine e_aload_n dX6_middleIn_15 rfl rfl ?_
    refine e_getR dX6_middleIn_16 fl_X6_15 rfl (cp_lows cm) ?_
    refine e_iload_n dX6_middleIn_19 rfl rfl ?_
    refine e_iconst (v := nI 1) dX6_middleIn_20 rfl ?_
    first | ((with_reducible refine mk_nn ?_); refine n_iadd dX6_middleIn_21 ?_) | refine e_iadd dX6_middleIn_21 ?_
    refine e_iadE _ dX6_middleIn_22 ⟨by decide, by decide⟩ rfl rfl (by simp only [lenK]; omega) (by first | exact pl_lo hP (by omega) | exact pl_hi hP (by omega)) ?_
    refine e_istore dX6_middleIn_23 (Nat.le_of_ble_eq_true rfl) rfl ?_
    refine e_iload_n dX6_middleIn_25 rfl rfl ?_
    first | ((with_reducible refine mk_b ?_); refine b_if_ne (tgt := 31) dX6_middleIn_26 (by decide) (fun h26 => ?_) (fun h26 => ?_)) | ((with_reducible refine mk_ll ?_); refine m_if_ne (tgt := 31) dX6_middleIn_26 (by decide) (by omega) (by omega) (fun h26 => ?_) (fun h26 => ?_)) | ((with_reducible refine mk_lc ?_); refine l_if_ne (tgt := 31) dX6_middleIn_26 (by decide) (fun h26 => ?_) (fun h26 => ?_)) | ((with_reducible refine mk_n ?_); refine n_if_ne (tgt := 31) dX6_middleIn_26 (by decide) (by omega) (fun h26 => ?_) (fun h26 => ?_)) | refine e_if_ne (tgt := 31) dX6_middleIn_26 (by decide) (fun h26 => ?_) (fun h26 => ?_)
    · try first | contradiction | omega | (simp only [decide_eq_true_eq, decide_eq_false_iff_not] at h26; omega)
      all_goals
        contradiction
    · try first | contradiction | omega | (simp only [decide_eq_true_eq, decide_eq_false_iff_not] at h26; omega)
      all_goals
        refine e_iconst (v := -1) dX6_middleIn_29 rfl ?_
        refine e_ret (some _) rfl (r_int dX6_middleIn_30 rfl) ?_
        exact xq rfl rfl rfl rfl rfl rfl
  · have key : ∀ n t la lb, lb - la = n → lb + t ≤ la + 1000 → w (10 + i) + 1 ≤ la → la ≤ lb → lb ≤ enF w i → (lb = enF w i ∨ wtF w i ≤ 2 * rs (fun k => w (106 + k)) (w (10 + i)) (lb - w (10 + i))) → (∀ q, w (10 + i) + 1 ≤ q → q < la → ¬ wtF w i ≤ 2 * rs (fun k => w (106 + k)) (w (10 + i)) (q - w (10 + i))) → ∀ x, EV mX6_middleIn 1 0 0 34 [some (.ref (rf 6 65)), some (.int (nI i)), some (.int (nI (wtF w i))), some (.int (nI la)), some (.int (nI lb)), some (.int (nI t)), x] [] fi fr ai ar N (xQ (some (.int (oI (mdO w i)))) fi fr ai ar N) := by
      intro n
      induction n using Nat.strongRecOn with
      | ind n ih =>
        intro t la lb hn ht hl hlh hh hp hnq x
        have hm1 := rs_mono (fun k => w (106 + k)) (a := w (10 + i)) (b := (la + lb) / 2) (by omega)
        have hm2 := rs_tot iv (k := (la + lb) / 2) (by omega)
        have hs := rs_sub (fun k => w (106 + k)) (a := w (10 + i)) (b := (la + lb) / 2) (by omega)
        refine e_iload dX6_middleIn_34 rfl ?_
        refine e_sipush (v := nI 1000) dX6_middleIn_36 rfl ?_
        first | ((with_reducible refine mk_nn ?_); refine n_icmp_ge (tgt := 99) dX6_middleIn_39 (by decide) (by omega) (by omega) (fun h39 => ?_) (fun h39 => ?_)) | refine e_icmp_ge (tgt := 99) dX6_middleIn_39 (by decide) (fun h39 => ?_) (fun h39 => ?_)
        · try first | contradiction | omega
          all_goals
            refine e_iload_n dX6_middleIn_99 rfl rfl ?_
            refine e_aload_n dX6_middleIn_100 rfl rfl ?_
            refine e_getR dX6_middleIn_101 fl_X6_15 rfl (cp_lows cm) ?_
            refine e_iload_n dX6_middleIn_104 rfl rfl ?_
            refine e_iconst (v := nI 1) dX6_middleIn_105 rfl ?_
            first | ((with_reducible refine mk_nn ?_); refine n_iadd dX6_middleIn_106 ?_) | refine e_iadd dX6_middleIn_106 ?_
            refine e_iadE _ dX6_middleIn_107 ⟨by decide, by decide⟩ rfl rfl (by simp only [lenK]; omega) (by first | exact pl_lo hP (by omega) | exact pl_hi hP (by omega)) ?_
            first | ((with_reducible refine mk_nn ?_); refine n_icmp_ge (tgt := 115) dX6_middleIn_108 (by decide) (by omega) (by omega) (fun h108 => ?_) (fun h108 => ?_)) | refine e_icmp_ge (tgt := 115) dX6_middleIn_108 (by decide) (fun h108 => ?_) (fun h108 => ?_)
            · try first | contradiction | omega
              all_goals
                refine e_iconst (v := -1) dX6_middleIn_115 rfl ?_
                refine e_ret (some _) rfl (r_int dX6_middleIn_116 rfl) ?_
                have e1 : la = lb := by omega
                rcases Nat.lt_or_ge la (enF w i) with hlt | hge
                · have hp2 : wtF w i ≤ 2 * rs (fun k => w (106 + k)) (w (10 + i)) (la - w (10 + i)) := by (rcases hp with hp | hp); (exact absurd hp (by omega)); (rw [e1]; exact hp)
                  rw [md_some iv hi h0 ⟨hl, hlt⟩ hp2 hnq]
                  first | exact xq rfl rfl rfl rfl rfl rfl | omega
                · rw [md_none (fun q a b => hnq q a (by omega))]
                  first | exact xq rfl rfl rfl rfl rfl rfl | omega
            · try first | contradiction | omega
              all_goals
                refine e_iload_n dX6_middleIn_111 rfl rfl ?_
                refine e_goto (tgt := 116) dX6_middleIn_112 (by decide) ?_
                refine e_ret (some _) rfl (r_int dX6_middleIn_116 rfl) ?_
                have e1 : la = lb := by omega
                rcases Nat.lt_or_ge la (enF w i) with hlt | hge
                · have hp2 : wtF w i ≤ 2 * rs (fun k => w (106 + k)) (w (10 + i)) (la - w (10 + i)) := by (rcases hp with hp | hp); (exact absurd hp (by omega)); (rw [e1]; exact hp)
                  rw [md_some iv hi h0 ⟨hl, hlt⟩ hp2 hnq]
                  first | exact xq rfl rfl rfl rfl rfl rfl | omega
                · rw [md_none (fun q a b => hnq q a (by omega))]
                  first | exact xq rfl rfl rfl rfl rfl rfl | omega
        · try first | contradiction | omega
          all_goals
            refine e_iload_n dX6_middleIn_42 rfl rfl ?_
            refine e_iload dX6_middleIn_43 rfl ?_
            first | ((with_reducible refine mk_nn ?_); refine n_icmp_ge (tgt := 99) dX6_middleIn_45 (by decide) (by omega) (by omega) (fun h45 => ?_) (fun h45 => ?_)) | refine e_icmp_ge (tgt := 99) dX6_middleIn_45 (by decide) (fun h45 => ?_) (fun h45 => ?_)
            · try first | contradiction | omega
              all_goals
                refine e_iload_n dX6_middleIn_99 rfl rfl ?_
                refine e_aload_n dX6_middleIn_100 rfl rfl ?_
                refine e_getR dX6_middleIn_101 fl_X6_15 rfl (cp_lows cm) ?_
                refine e_iload_n dX6_middleIn_104 rfl rfl ?_
                refine e_iconst (v := nI 1) dX6_middleIn_105 rfl ?_
                first | ((with_reducible refine mk_nn ?_); refine n_iadd dX6_middleIn_106 ?_) | refine e_iadd dX6_middleIn_106 ?_
                refine e_iadE _ dX6_middleIn_107 ⟨by decide, by decide⟩ rfl rfl (by simp only [lenK]; omega) (by first | exact pl_lo hP (by omega) | exact pl_hi hP (by omega)) ?_
                first | ((with_reducible refine mk_nn ?_); refine n_icmp_ge (tgt := 115) dX6_middleIn_108 (by decide) (by omega) (by omega) (fun h108 => ?_) (fun h108 => ?_)) | refine e_icmp_ge (tgt := 115) dX6_middleIn_108 (by decide) (fun h108 => ?_) (fun h108 => ?_)
                · try first | contradiction | omega
                  all_goals
                    refine e_iconst (v := -1) dX6_middleIn_115 rfl ?_
                    refine e_ret (some _) rfl (r_int dX6_middleIn_116 rfl) ?_
                    have e1 : la = lb := by omega
                    rcases Nat.lt_or_ge la (enF w i) with hlt | hge
                    · have hp2 : wtF w i ≤ 2 * rs (fun k => w (106 + k)) (w (10 + i)) (la - w (10 + i)) := by (rcases hp with hp | hp); (exact absurd hp (by omega)); (rw [e1]; exact hp)
                      rw [md_some iv hi h0 ⟨hl, hlt⟩ hp2 hnq]
                      first | exact xq rfl rfl rfl rfl rfl rfl | omega
                    · rw [md_none (fun q a b => hnq q a (by omega))]
                      first | exact xq rfl rfl rfl rfl rfl rfl | omega
                · try first | contradiction | omega
                  all_goals
                    refine e_iload_n dX6_middleIn_111 rfl rfl ?_
                    refine e_goto (tgt := 116) dX6_middleIn_112 (by decide) ?_
                    refine e_ret (some _) rfl (r_int dX6_middleIn_116 rfl) ?_
                    have e1 : la = lb := by omega
                    rcases Nat.lt_or_ge la (enF w i) with hlt | hge
                    · have hp2 : wtF w i ≤ 2 * rs (fun k => w (106 + k)) (w (10 + i)) (la - w (10 + i)) := by (rcases hp with hp | hp); (exact absurd hp (by omega)); (rw [e1]; exact hp)
                      rw [md_some iv hi h0 ⟨hl, hlt⟩ hp2 hnq]
                      first | exact xq rfl rfl rfl rfl rfl rfl | omega
                    · rw [md_none (fun q a b => hnq q a (by omega))]
                      first | exact xq rfl rfl rfl rfl rfl rfl | omega
            · try first | contradiction | omega
              all_goals
                refine e_iload_n dX6_middleIn_48 rfl rfl ?_
                refine e_iload dX6_middleIn_49 rfl ?_
                first | ((with_reducible refine mk_nn ?_); refine n_iadd dX6_middleIn_51 ?_) | refine e_iadd dX6_middleIn_51 ?_
                refine e_iconst (v := nI 2) dX6_middleIn_52 rfl ?_
                first | ((with_reducible refine mk_nn ?_); refine n_idiv dX6_middleIn_53 (by omega) (by omega) (by omega) ?_) | refine e_idiv dX6_middleIn_53 (by decide) ?_
                refine e_istore dX6_middleIn_54 (Nat.le_of_ble_eq_true rfl) rfl ?_
                refine e_iconst (v := nI 2) dX6_middleIn_56 rfl ?_
                refine e_aload_n dX6_middleIn_57 rfl rfl ?_
                refine e_getR dX6_middleIn_58 fl_X6_9 rfl (cp_sum cm) ?_
                refine e_iload dX6_middleIn_61 rfl ?_
                refine e_iadE _ dX6_middleIn_63 ⟨by decide, by decide⟩ rfl rfl (by simp only [lenK]; omega) (pl_sum hP (by omega)) ?_
                refine e_aload_n dX6_middleIn_64 rfl rfl ?_
                refine e_getR dX6_middleIn_65 fl_X6_9 rfl (cp_sum cm) ?_
                refine e_aload_n dX6_middleIn_68 rfl rfl ?_
                refine e_getR dX6_middleIn_69 fl_X6_15 rfl (cp_lows cm) ?_
                refine e_iload_n dX6_middleIn_72 rfl rfl ?_
                refine e_iadE _ dX6_middleIn_73 ⟨by decide, by decide⟩ rfl rfl (by simp only [lenK]; omega) (by first | exact pl_lo hP (by omega) | exact pl_hi hP (by omega)) ?_
                refine e_iadE _ dX6_middleIn_74 ⟨by decide, by decide⟩ rfl rfl (by simp only [lenK]; omega) (pl_sum hP (by omega)) ?_
                first | ((with_reducible refine mk_nn ?_); refine n_isub dX6_middleIn_75 (by omega) ?_) | refine e_isub dX6_middleIn_75 ?_
                first | ((with_reducible refine mk_nn ?_); refine n_imul dX6_middleIn_76 ?_) | refine e_imul dX6_middleIn_76 ?_
                refine e_iload_n dX6_middleIn_77 rfl rfl ?_
                first | ((with_reducible refine mk_nn ?_); refine n_icmp_lt (tgt := 88) dX6_middleIn_78 (by decide) (by omega) (by omega) (fun h78 => ?_) (fun h78 => ?_)) | refine e_icmp_lt (tgt := 88) dX6_middleIn_78 (by decide) (fun h78 => ?_) (fun h78 => ?_)
                · try first | contradiction | omega
                  all_goals
                    refine e_iload dX6_middleIn_88 rfl ?_
                    refine e_iconst (v := nI 1) dX6_middleIn_90 rfl ?_
                    first | ((with_reducible refine mk_nn ?_); refine n_iadd dX6_middleIn_91 ?_) | refine e_iadd dX6_middleIn_91 ?_
                    refine e_istore_n dX6_middleIn_92 rfl (Nat.le_of_ble_eq_true rfl) rfl ?_
                    first | refine n_inc dX6_middleIn_93 rfl (Nat.le_of_ble_eq_true rfl) rfl ?_ | refine e_iinc dX6_middleIn_93 rfl rfl (Nat.le_of_ble_eq_true rfl) rfl ?_
                    refine e_goto (tgt := 34) dX6_middleIn_96 (by decide) ?_
                    first | exact ih _ (by omega) _ _ _ rfl (by omega) hl (by omega) (by omega) (Or.inr (by omega)) hnq _ | exact ih _ (by omega) _ _ _ rfl (by omega) (by omega) (by omega) hh hp (fun q a b => (fun hq => by (have hu := rs_up (fun k => w (106 + k)) (w (10 + i)) (m := q - w (10 + i)) (n := (la + lb) / 2 - w (10 + i)) (by omega)); omega)) _
                · try first | contradiction | omega
                  all_goals
                    refine e_iload dX6_middleIn_81 rfl ?_
                    refine e_istore dX6_middleIn_83 (Nat.le_of_ble_eq_true rfl) rfl ?_
                    refine e_goto (tgt := 93) dX6_middleIn_85 (by decide) ?_
                    first | refine n_inc dX6_middleIn_93 rfl (Nat.le_of_ble_eq_true rfl) rfl ?_ | refine e_iinc dX6_middleIn_93 rfl rfl (Nat.le_of_ble_eq_true rfl) rfl ?_
                    refine e_goto (tgt := 34) dX6_middleIn_96 (by decide) ?_
                    first | exact ih _ (by omega) _ _ _ rfl (by omega) hl (by omega) (by omega) (Or.inr (by omega)) hnq _ | exact ih _ (by omega) _ _ _ rfl (by omega) (by omega) (by omega) hh hp (fun q a b => (fun hq => by (have hu := rs_up (fun k => w (106 + k)) (w (10 + i)) (m := q - w (10 + i)) (n := (la + lb) / 2 - w (10 + i)) (by omega)); omega)) _
    refine e_aload_n dX6_middleIn_0 rfl rfl ?_
    refine e_iload_n dX6_middleIn_1 rfl rfl ?_
    refine x_V1 (M' := mX6_weightOf) dX6_middleIn_2 ml_X6_60 ok_X6_weightOf (by decide) rfl im_X6_weightOf se_X6_weightOf (ct_X6_weightOf cm iv hP (by omega)) (Nat.le_of_ble_eq_true rfl) (by decide) (Nat.le_of_ble_eq_true rfl) ?_
    refine e_istore_n dX6_middleIn_5 rfl (Nat.le_of_ble_eq_true rfl) rfl ?_
    refine e_aload_n dX6_middleIn_6 rfl rfl ?_
    refine e_getR dX6_middleIn_7 fl_X6_15 rfl (cp_lows cm) ?_
    refine e_iload_n dX6_middleIn_10 rfl rfl ?_
    refine e_iadE _ dX6_middleIn_11 ⟨by decide, by decide⟩ rfl rfl (by simp only [lenK]; omega) (by first | exact pl_lo hP (by omega) | exact pl_hi hP (by omega)) ?_
    refine e_iconst (v := nI 1) dX6_middleIn_12 rfl ?_
    first | ((with_reducible refine mk_nn ?_); refine n_iadd dX6_middleIn_13 ?_) | refine e_iadd dX6_middleIn_13 ?_
    refine e_istore_n dX6_middleIn_14 rfl (Nat.le_of_ble_eq_true rfl) rfl ?_
    refine e_aload_n dX6_middleIn_15 rfl rfl ?_
    refine e_getR dX6_middleIn_16 fl_X6_15 rfl (cp_lows cm) ?_
    refine e_iload_n dX6_middleIn_19 rfl rfl ?_
    refine e_iconst (v := nI 1) dX6_middleIn_20 rfl ?_
    first | ((with_reducible refine mk_nn ?_); refine n_iadd dX6_middleIn_21 ?_) | refine e_iadd dX6_middleIn_21 ?_
    refine e_iadE _ dX6_middleIn_22 ⟨by decide, by decide⟩ rfl rfl (by simp only [lenK]; omega) (by first | exact pl_lo hP (by omega) | exact pl_hi hP (by omega)) ?_
    refine e_istore dX6_middleIn_23 (Nat.le_of_ble_eq_true rfl) rfl ?_
    refine e_iload_n dX6_middleIn_25 rfl rfl ?_
    first | ((with_reducible refine mk_b ?_); refine b_if_ne (tgt := 31) dX6_middleIn_26 (by decide) (fun h26 => ?_) (fun h26 => ?_)) | ((with_reducible refine mk_ll ?_); refine m_if_ne (tgt := 31) dX6_middleIn_26 (by decide) (by omega) (by omega) (fun h26 => ?_) (fun h26 => ?_)) | ((with_reducible refine mk_lc ?_); refine l_if_ne (tgt := 31) dX6_middleIn_26 (by decide) (fun h26 => ?_) (fun h26 => ?_)) | ((with_reducible refine mk_n ?_); refine n_if_ne (tgt := 31) dX6_middleIn_26 (by decide) (by omega) (fun h26 => ?_) (fun h26 => ?_)) | refine e_if_ne (tgt := 31) dX6_middleIn_26 (by decide) (fun h26 => ?_) (fun h26 => ?_)
    · try first | contradiction | omega | (simp only [decide_eq_true_eq, decide_eq_false_iff_not] at h26; omega)
      all_goals
        refine e_iconst (v := nI 0) dX6_middleIn_31 rfl ?_
        refine e_istore dX6_middleIn_32 (Nat.le_of_ble_eq_true rfl) rfl ?_
        exact key _ 0 _ _ rfl (by omega) (Nat.le_refl _) (by omega) (Nat.le_refl _) (Or.inl rfl) (fun q a b => absurd b (by omega)) _
    · try first | contradiction | omega | (simp only [decide_eq_true_eq, decide_eq_false_iff_not] at h26; omega)
      all_goals
        contradiction
theorem ct_X6_isUp {fi : FI} {fr : FR} {ai : FI} {ar : FR} {N : Nat} {w : Nat → Nat} (cm : CM fr ar) (iv : Inv w) (hP : PL fi ai w) {s : Nat} (hs : s < 6) : CP mX6_isUp 0 0 0 [.ref (rf 6 65), .int (nI s)] fi fr ai ar N (xQ (some (.int (bI (decide (w (4 + s) = 1))))) fi fr ai ar N) := by
  have h1 := iv_n iv
  have h3 := iv_mm iv
  have bd := Bd_iv iv
  have hF : FR1 fi ai fi ai := FR1_rf
  have hb := ubF_bit iv hs
  have hu := iv_up iv hs
  change EV mX6_isUp 0 0 0 0 [some (.ref (rf 6 65)), some (.int (nI s))] [] fi fr ai ar N (xQ (some (.int (bI (decide (w (4 + s) = 1))))) fi fr ai ar N)
  refine e_aload_n dX6_isUp_0 rfl rfl ?_
  refine e_getE dX6_isUp_1 fl_X6_47 rfl (pl_up hP) ?_
  refine e_iload_n dX6_isUp_4 rfl rfl ?_
  refine e_ishr dX6_isUp_5 ?_
  refine e_iconst (v := nI 1) dX6_isUp_6 rfl ?_
  refine e_iand dX6_isUp_7 ?_
  rw [up_bit _ hb.1 _ hs, hb.2]
  refine e_iconst (v := nI 1) dX6_isUp_8 rfl ?_
  first | ((with_reducible refine mk_mo ?_); refine p_icmp_ne (tgt := 16) dX6_isUp_9 (by decide) (fun h9 => ?_) (fun h9 => ?_)) | ((with_reducible refine mk_ms ?_); refine s_icmp_ne (tgt := 16) dX6_isUp_9 (by decide) (by omega) (fun h9 => ?_) (fun h9 => ?_)) | ((with_reducible refine mk_mn ?_); refine q_icmp_ne (tgt := 16) dX6_isUp_9 (by decide) (by omega) (fun h9 => ?_) (fun h9 => ?_)) | ((with_reducible refine mk_nn ?_); refine n_icmp_ne (tgt := 16) dX6_isUp_9 (by decide) (by omega) (by omega) (fun h9 => ?_) (fun h9 => ?_)) | refine e_icmp_ne (tgt := 16) dX6_isUp_9 (by decide) (fun h9 => ?_) (fun h9 => ?_)
  · try first | contradiction | omega
    all_goals
      refine e_iconst (v := nI 0) dX6_isUp_16 rfl ?_
      first | ((with_reducible refine mk_b ?_); refine e_ret (some _) rfl (r_bool dX6_isUp_17 rfl) ?_) | ((with_reducible refine mk_n1 ?_); refine e_ret (some _) rfl (r_b1 dX6_isUp_17 rfl) ?_) | ((with_reducible refine mk_n0 ?_); refine e_ret (some _) rfl (r_b0 dX6_isUp_17 rfl) ?_)
      refine xq ?_ rfl rfl rfl rfl rfl
      first | (rw [decide_eq_true (by omega)]; rfl) | (rw [decide_eq_false (by omega)]; rfl)
  · try first | contradiction | omega
    all_goals
      refine e_iconst (v := nI 1) dX6_isUp_12 rfl ?_
      refine e_goto (tgt := 17) dX6_isUp_13 (by decide) ?_
      first | ((with_reducible refine mk_b ?_); refine e_ret (some _) rfl (r_bool dX6_isUp_17 rfl) ?_) | ((with_reducible refine mk_n1 ?_); refine e_ret (some _) rfl (r_b1 dX6_isUp_17 rfl) ?_) | ((with_reducible refine mk_n0 ?_); refine e_ret (some _) rfl (r_b0 dX6_isUp_17 rfl) ?_)
      refine xq ?_ rfl rfl rfl rfl rfl
      first | (rw [decide_eq_true (by omega)]; rfl) | (rw [decide_eq_false (by omega)]; rfl)
theorem ct_heaviestN {fi : FI} {fr : FR} {ai : FI} {ar : FR} {N : Nat} {w : Nat → Nat} (cm : CM fr ar) (iv : Inv w) (hP : PL fi ai w)  : CP mX6_heaviest 1 0 0 [.ref (rf 6 65), .int (-1)] fi fr ai ar N (xQ (some (.int (oI (otH w)))) fi fr ai ar N) := by
  have h1 := iv_n iv
  have h3 := iv_mm iv
  have bd := Bd_iv iv
  have hF : FR1 fi ai fi ai := FR1_rf
  change EV mX6_heaviest 1 0 0 0 [some (.ref (rf 6 65)), some (.int (-1)), none, none] [] fi fr ai ar N (xQ (some (.int (oI (otH w)))) fi fr ai ar N)
  have key := ev_up (P := (fun j => EV mX6_heaviest 1 0 0 4 [some (.ref (rf 6 65)), some (.int (-1)), some (.int (oI (bst (fun s => decide (w (4 + s) ≠ 0)) (fun s q => decide (ldF w q < ldF w s)) j))), some (.int (nI j))] [] fi fr ai ar N (xQ (some (.int (oI (otH w)))) fi fr ai ar N))) (6) (fun j hj ih => by
    have hu := iv_up iv hj
    have hld := ldF_le2 iv j
    cases hb : bst (fun s => decide (w (4 + s) ≠ 0)) (fun s q => decide (ldF w q < ldF w s)) j with
    | none =>
      refine e_iload_n dX6_heaviest_4 rfl rfl ?_
      refine e_bipush (v := nI 6) dX6_heaviest_5 rfl ?_
      first | ((with_reducible refine mk_nn ?_); refine n_icmp_ge (tgt := 51) dX6_heaviest_7 (by decide) (by omega) (by omega) (fun h7 => ?_) (fun h7 => ?_)) | refine e_icmp_ge (tgt := 51) dX6_heaviest_7 (by decide) (fun h7 => ?_) (fun h7 => ?_)
      · try first | contradiction | omega
        all_goals
          refine e_iload_n dX6_heaviest_51 rfl rfl ?_
          refine e_ret (some _) rfl (r_int dX6_heaviest_52 rfl) ?_
          exact xq (by first | rfl | simp_all [bI_t, bI_f]) rfl rfl rfl rfl rfl
      · try first | contradiction | omega
        all_goals
          refine e_iload_n dX6_heaviest_10 rfl rfl ?_
          refine e_iload_n dX6_heaviest_11 rfl rfl ?_
          first | ((with_reducible refine mk_mo ?_); refine p_icmp_eq (tgt := 45) dX6_heaviest_12 (by decide) (fun h12 => ?_) (fun h12 => ?_)) | ((with_reducible refine mk_ms ?_); refine s_icmp_eq (tgt := 45) dX6_heaviest_12 (by decide) (by omega) (fun h12 => ?_) (fun h12 => ?_)) | ((with_reducible refine mk_mn ?_); refine q_icmp_eq (tgt := 45) dX6_heaviest_12 (by decide) (by omega) (fun h12 => ?_) (fun h12 => ?_)) | ((with_reducible refine mk_nn ?_); refine n_icmp_eq (tgt := 45) dX6_heaviest_12 (by decide) (by omega) (by omega) (fun h12 => ?_) (fun h12 => ?_)) | refine e_icmp_eq (tgt := 45) dX6_heaviest_12 (by decide) (fun h12 => ?_) (fun h12 => ?_)
          · try first | contradiction | omega
            all_goals
              first | refine n_inc dX6_heaviest_45 rfl (Nat.le_of_ble_eq_true rfl) rfl ?_ | refine e_iinc dX6_heaviest_45 rfl rfl (Nat.le_of_ble_eq_true rfl) rfl ?_
              refine e_goto (tgt := 4) dX6_heaviest_48 (by decide) ?_
              first | (rw [bst_f (c := fun s => decide (w (4 + s) ≠ 0)) (b := fun s q => decide (ldF w q < ldF w s)) (n := j) (by grind), hb] at ih; exact ih) | (rw [bst_0 (c := fun s => decide (w (4 + s) ≠ 0)) (b := fun s q => decide (ldF w q < ldF w s)) (n := j) (by grind) hb] at ih; exact ih)
          · try first | contradiction | omega
            all_goals
              refine e_aload_n dX6_heaviest_15 rfl rfl ?_
              refine e_iload_n dX6_heaviest_16 rfl rfl ?_
              refine x_V1 (M' := mX6_isUp) dX6_heaviest_17 ml_X6_63 ok_X6_isUp (by decide) rfl im_X6_isUp se_X6_isUp (ct_X6_isUp cm iv hP (by omega)) (Nat.le_of_ble_eq_true rfl) (by decide) (Nat.le_of_ble_eq_true rfl) ?_
              first | ((with_reducible refine mk_b ?_); refine b_if_eq (tgt := 45) dX6_heaviest_20 (by decide) (fun h20 => ?_) (fun h20 => ?_)) | ((with_reducible refine mk_ll ?_); refine m_if_eq (tgt := 45) dX6_heaviest_20 (by decide) (by omega) (by omega) (fun h20 => ?_) (fun h20 => ?_)) | ((with_reducible refine mk_lc ?_); refine l_if_eq (tgt := 45) dX6_heaviest_20 (by decide) (fun h20 => ?_) (fun h20 => ?_)) | ((with_reducible refine mk_n ?_); refine n_if_eq (tgt := 45) dX6_heaviest_20 (by decide) (by omega) (fun h20 => ?_) (fun h20 => ?_)) | refine e_if_eq (tgt := 45) dX6_heaviest_20 (by decide) (fun h20 => ?_) (fun h20 => ?_)
              · try first | contradiction | omega | (simp only [decide_eq_true_eq, decide_eq_false_iff_not] at h20; omega)
                all_goals
                  first | refine n_inc dX6_heaviest_45 rfl (Nat.le_of_ble_eq_true rfl) rfl ?_ | refine e_iinc dX6_heaviest_45 rfl rfl (Nat.le_of_ble_eq_true rfl) rfl ?_
                  refine e_goto (tgt := 4) dX6_heaviest_48 (by decide) ?_
                  first | (rw [bst_f (c := fun s => decide (w (4 + s) ≠ 0)) (b := fun s q => decide (ldF w q < ldF w s)) (n := j) (by grind), hb] at ih; exact ih) | (rw [bst_0 (c := fun s => decide (w (4 + s) ≠ 0)) (b := fun s q => decide (ldF w q < ldF w s)) (n := j) (by grind) hb] at ih; exact ih)
              · try first | contradiction | omega | (simp only [decide_eq_true_eq, decide_eq_false_iff_not] at h20; omega)
                all_goals
                  refine e_iload_n dX6_heaviest_23 rfl rfl ?_
                  refine e_iconst (v := -1) dX6_heaviest_24 rfl ?_
                  first | ((with_reducible refine mk_mo ?_); refine p_icmp_eq (tgt := 43) dX6_heaviest_25 (by decide) (fun h25 => ?_) (fun h25 => ?_)) | ((with_reducible refine mk_ms ?_); refine s_icmp_eq (tgt := 43) dX6_heaviest_25 (by decide) (by omega) (fun h25 => ?_) (fun h25 => ?_)) | ((with_reducible refine mk_mn ?_); refine q_icmp_eq (tgt := 43) dX6_heaviest_25 (by decide) (by omega) (fun h25 => ?_) (fun h25 => ?_)) | ((with_reducible refine mk_nn ?_); refine n_icmp_eq (tgt := 43) dX6_heaviest_25 (by decide) (by omega) (by omega) (fun h25 => ?_) (fun h25 => ?_)) | refine e_icmp_eq (tgt := 43) dX6_heaviest_25 (by decide) (fun h25 => ?_) (fun h25 => ?_)
                  · try first | contradiction | omega
                    all_goals
                      refine e_iload_n dX6_heaviest_43 rfl rfl ?_
                      refine e_istore_n dX6_heaviest_44 rfl (Nat.le_of_ble_eq_true rfl) rfl ?_
                      first | refine n_inc dX6_heaviest_45 rfl (Nat.le_of_ble_eq_true rfl) rfl ?_ | refine e_iinc dX6_heaviest_45 rfl rfl (Nat.le_of_ble_eq_true rfl) rfl ?_
                      refine e_goto (tgt := 4) dX6_heaviest_48 (by decide) ?_
                      first | (rw [bst_f (c := fun s => decide (w (4 + s) ≠ 0)) (b := fun s q => decide (ldF w q < ldF w s)) (n := j) (by grind), hb] at ih; exact ih) | (rw [bst_0 (c := fun s => decide (w (4 + s) ≠ 0)) (b := fun s q => decide (ldF w q < ldF w s)) (n := j) (by grind) hb] at ih; exact ih)
                  · try first | contradiction | omega
                    all_goals
                      refine e_aload_n dX6_heaviest_28 rfl rfl ?_
                      refine e_getR dX6_heaviest_29 fl_X6_25 rfl (cp_load cm) ?_
                      refine e_iload_n dX6_heaviest_32 rfl rfl ?_
                      refine e_iadE _ dX6_heaviest_33 ⟨by decide, by decide⟩ rfl rfl (by simp only [lenK]; omega) (pl_ld hP (by omega)) ?_
                      refine e_aload_n dX6_heaviest_34 rfl rfl ?_
                      refine e_getR dX6_heaviest_35 fl_X6_25 rfl (cp_load cm) ?_
                      refine e_iload_n dX6_heaviest_38 rfl rfl ?_
                      refine e_iadE _ dX6_heaviest_39 ⟨by decide, by decide⟩ rfl rfl (by simp only [lenK]; omega) (pl_ld hP (by omega)) ?_
                      first | ((with_reducible refine mk_nn ?_); refine n_icmp_le (tgt := 45) dX6_heaviest_40 (by decide) (by omega) (by omega) (fun h40 => ?_) (fun h40 => ?_)) | refine e_icmp_le (tgt := 45) dX6_heaviest_40 (by decide) (fun h40 => ?_) (fun h40 => ?_)
                      · try first | contradiction | omega
                        all_goals
                          first | refine n_inc dX6_heaviest_45 rfl (Nat.le_of_ble_eq_true rfl) rfl ?_ | refine e_iinc dX6_heaviest_45 rfl rfl (Nat.le_of_ble_eq_true rfl) rfl ?_
                          refine e_goto (tgt := 4) dX6_heaviest_48 (by decide) ?_
                          first | (rw [bst_f (c := fun s => decide (w (4 + s) ≠ 0)) (b := fun s q => decide (ldF w q < ldF w s)) (n := j) (by grind), hb] at ih; exact ih) | (rw [bst_0 (c := fun s => decide (w (4 + s) ≠ 0)) (b := fun s q => decide (ldF w q < ldF w s)) (n := j) (by grind) hb] at ih; exact ih)
                      · try first | contradiction | omega
                        all_goals
                          refine e_iload_n dX6_heaviest_43 rfl rfl ?_
                          refine e_istore_n dX6_heaviest_44 rfl (Nat.le_of_ble_eq_true rfl) rfl ?_
                          first | refine n_inc dX6_heaviest_45 rfl (Nat.le_of_ble_eq_true rfl) rfl ?_ | refine e_iinc dX6_heaviest_45 rfl rfl (Nat.le_of_ble_eq_true rfl) rfl ?_
                          refine e_goto (tgt := 4) dX6_heaviest_48 (by decide) ?_
                          first | (rw [bst_f (c := fun s => decide (w (4 + s) ≠ 0)) (b := fun s q => decide (ldF w q < ldF w s)) (n := j) (by grind), hb] at ih; exact ih) | (rw [bst_0 (c := fun s => decide (w (4 + s) ≠ 0)) (b := fun s q => decide (ldF w q < ldF w s)) (n := j) (by grind) hb] at ih; exact ih)
    | some q =>
      have hq := (bst_in hb).1
      have hqc := (bst_in hb).2
      rw [oI_s]
      have hld2 := ldF_le2 iv q
      refine e_iload_n dX6_heaviest_4 rfl rfl ?_
      refine e_bipush (v := nI 6) dX6_heaviest_5 rfl ?_
      first | ((with_reducible refine mk_nn ?_); refine n_icmp_ge (tgt := 51) dX6_heaviest_7 (by decide) (by omega) (by omega) (fun h7 => ?_) (fun h7 => ?_)) | refine e_icmp_ge (tgt := 51) dX6_heaviest_7 (by decide) (fun h7 => ?_) (fun h7 => ?_)
      · try first | contradiction | omega
        all_goals
          refine e_iload_n dX6_heaviest_51 rfl rfl ?_
          refine e_ret (some _) rfl (r_int dX6_heaviest_52 rfl) ?_
          exact xq (by first | rfl | simp_all [bI_t, bI_f]) rfl rfl rfl rfl rfl
      · try first | contradiction | omega
        all_goals
          refine e_iload_n dX6_heaviest_10 rfl rfl ?_
          refine e_iload_n dX6_heaviest_11 rfl rfl ?_
          first | ((with_reducible refine mk_mo ?_); refine p_icmp_eq (tgt := 45) dX6_heaviest_12 (by decide) (fun h12 => ?_) (fun h12 => ?_)) | ((with_reducible refine mk_ms ?_); refine s_icmp_eq (tgt := 45) dX6_heaviest_12 (by decide) (by omega) (fun h12 => ?_) (fun h12 => ?_)) | ((with_reducible refine mk_mn ?_); refine q_icmp_eq (tgt := 45) dX6_heaviest_12 (by decide) (by omega) (fun h12 => ?_) (fun h12 => ?_)) | ((with_reducible refine mk_nn ?_); refine n_icmp_eq (tgt := 45) dX6_heaviest_12 (by decide) (by omega) (by omega) (fun h12 => ?_) (fun h12 => ?_)) | refine e_icmp_eq (tgt := 45) dX6_heaviest_12 (by decide) (fun h12 => ?_) (fun h12 => ?_)
          · try first | contradiction | omega
            all_goals
              first | refine n_inc dX6_heaviest_45 rfl (Nat.le_of_ble_eq_true rfl) rfl ?_ | refine e_iinc dX6_heaviest_45 rfl rfl (Nat.le_of_ble_eq_true rfl) rfl ?_
              refine e_goto (tgt := 4) dX6_heaviest_48 (by decide) ?_
              first | (rw [bst_f (c := fun s => decide (w (4 + s) ≠ 0)) (b := fun s q => decide (ldF w q < ldF w s)) (n := j) (by grind), hb] at ih; exact ih) | (rw [bst_0 (c := fun s => decide (w (4 + s) ≠ 0)) (b := fun s q => decide (ldF w q < ldF w s)) (n := j) (by grind) hb] at ih; exact ih) | (rw [bst_1 (c := fun s => decide (w (4 + s) ≠ 0)) (b := fun s q => decide (ldF w q < ldF w s)) (n := j) (by grind) hb (by grind)] at ih; exact ih) | (rw [bst_2 (c := fun s => decide (w (4 + s) ≠ 0)) (b := fun s q => decide (ldF w q < ldF w s)) (n := j) (by grind) hb (by grind)] at ih; exact ih)
          · try first | contradiction | omega
            all_goals
              refine e_aload_n dX6_heaviest_15 rfl rfl ?_
              refine e_iload_n dX6_heaviest_16 rfl rfl ?_
              refine x_V1 (M' := mX6_isUp) dX6_heaviest_17 ml_X6_63 ok_X6_isUp (by decide) rfl im_X6_isUp se_X6_isUp (ct_X6_isUp cm iv hP (by omega)) (Nat.le_of_ble_eq_true rfl) (by decide) (Nat.le_of_ble_eq_true rfl) ?_
              first | ((with_reducible refine mk_b ?_); refine b_if_eq (tgt := 45) dX6_heaviest_20 (by decide) (fun h20 => ?_) (fun h20 => ?_)) | ((with_reducible refine mk_ll ?_); refine m_if_eq (tgt := 45) dX6_heaviest_20 (by decide) (by omega) (by omega) (fun h20 => ?_) (fun h20 => ?_)) | ((with_reducible refine mk_lc ?_); refine l_if_eq (tgt := 45) dX6_heaviest_20 (by decide) (fun h20 => ?_) (fun h20 => ?_)) | ((with_reducible refine mk_n ?_); refine n_if_eq (tgt := 45) dX6_heaviest_20 (by decide) (by omega) (fun h20 => ?_) (fun h20 => ?_)) | refine e_if_eq (tgt := 45) dX6_heaviest_20 (by decide) (fun h20 => ?_) (fun h20 => ?_)
              · try first | contradiction | omega | (simp only [decide_eq_true_eq, decide_eq_false_iff_not] at h20; omega)
                all_goals
                  first | refine n_inc dX6_heaviest_45 rfl (Nat.le_of_ble_eq_true rfl) rfl ?_ | refine e_iinc dX6_heaviest_45 rfl rfl (Nat.le_of_ble_eq_true rfl) rfl ?_
                  refine e_goto (tgt := 4) dX6_heaviest_48 (by decide) ?_
                  first | (rw [bst_f (c := fun s => decide (w (4 + s) ≠ 0)) (b := fun s q => decide (ldF w q < ldF w s)) (n := j) (by grind), hb] at ih; exact ih) | (rw [bst_0 (c := fun s => decide (w (4 + s) ≠ 0)) (b := fun s q => decide (ldF w q < ldF w s)) (n := j) (by grind) hb] at ih; exact ih) | (rw [bst_1 (c := fun s => decide (w (4 + s) ≠ 0)) (b := fun s q => decide (ldF w q < ldF w s)) (n := j) (by grind) hb (by grind)] at ih; exact ih) | (rw [bst_2 (c := fun s => decide (w (4 + s) ≠ 0)) (b := fun s q => decide (ldF w q < ldF w s)) (n := j) (by grind) hb (by grind)] at ih; exact ih)
              · try first | contradiction | omega | (simp only [decide_eq_true_eq, decide_eq_false_iff_not] at h20; omega)
                all_goals
                  refine e_iload_n dX6_heaviest_23 rfl rfl ?_
                  refine e_iconst (v := -1) dX6_heaviest_24 rfl ?_
                  first | ((with_reducible refine mk_mo ?_); refine p_icmp_eq (tgt := 43) dX6_heaviest_25 (by decide) (fun h25 => ?_) (fun h25 => ?_)) | ((with_reducible refine mk_ms ?_); refine s_icmp_eq (tgt := 43) dX6_heaviest_25 (by decide) (by omega) (fun h25 => ?_) (fun h25 => ?_)) | ((with_reducible refine mk_mn ?_); refine q_icmp_eq (tgt := 43) dX6_heaviest_25 (by decide) (by omega) (fun h25 => ?_) (fun h25 => ?_)) | ((with_reducible refine mk_nn ?_); refine n_icmp_eq (tgt := 43) dX6_heaviest_25 (by decide) (by omega) (by omega) (fun h25 => ?_) (fun h25 => ?_)) | refine e_icmp_eq (tgt := 43) dX6_heaviest_25 (by decide) (fun h25 => ?_) (fun h25 => ?_)
                  · try first | contradiction | omega
                    all_goals
                      refine e_iload_n dX6_heaviest_43 rfl rfl ?_
                      refine e_istore_n dX6_heaviest_44 rfl (Nat.le_of_ble_eq_true rfl) rfl ?_
                      first | refine n_inc dX6_heaviest_45 rfl (Nat.le_of_ble_eq_true rfl) rfl ?_ | refine e_iinc dX6_heaviest_45 rfl rfl (Nat.le_of_ble_eq_true rfl) rfl ?_
                      refine e_goto (tgt := 4) dX6_heaviest_48 (by decide) ?_
                      first | (rw [bst_f (c := fun s => decide (w (4 + s) ≠ 0)) (b := fun s q => decide (ldF w q < ldF w s)) (n := j) (by grind), hb] at ih; exact ih) | (rw [bst_0 (c := fun s => decide (w (4 + s) ≠ 0)) (b := fun s q => decide (ldF w q < ldF w s)) (n := j) (by grind) hb] at ih; exact ih) | (rw [bst_1 (c := fun s => decide (w (4 + s) ≠ 0)) (b := fun s q => decide (ldF w q < ldF w s)) (n := j) (by grind) hb (by grind)] at ih; exact ih) | (rw [bst_2 (c := fun s => decide (w (4 + s) ≠ 0)) (b := fun s q => decide (ldF w q < ldF w s)) (n := j) (by grind) hb (by grind)] at ih; exact ih)
                  · try first | contradiction | omega
                    all_goals
                      refine e_aload_n dX6_heaviest_28 rfl rfl ?_
                      refine e_getR dX6_heaviest_29 fl_X6_25 rfl (cp_load cm) ?_
                      refine e_iload_n dX6_heaviest_32 rfl rfl ?_
                      refine e_iadE _ dX6_heaviest_33 ⟨by decide, by decide⟩ rfl rfl (by simp only [lenK]; omega) (pl_ld hP (by omega)) ?_
                      refine e_aload_n dX6_heaviest_34 rfl rfl ?_
                      refine e_getR dX6_heaviest_35 fl_X6_25 rfl (cp_load cm) ?_
                      refine e_iload_n dX6_heaviest_38 rfl rfl ?_
                      refine e_iadE _ dX6_heaviest_39 ⟨by decide, by decide⟩ rfl rfl (by simp only [lenK]; omega) (pl_ld hP (by omega)) ?_
                      first | ((with_reducible refine mk_nn ?_); refine n_icmp_le (tgt := 45) dX6_heaviest_40 (by decide) (by omega) (by omega) (fun h40 => ?_) (fun h40 => ?_)) | refine e_icmp_le (tgt := 45) dX6_heaviest_40 (by decide) (fun h40 => ?_) (fun h40 => ?_)
                      · try first | contradiction | omega
                        all_goals
                          first | refine n_inc dX6_heaviest_45 rfl (Nat.le_of_ble_eq_true rfl) rfl ?_ | refine e_iinc dX6_heaviest_45 rfl rfl (Nat.le_of_ble_eq_true rfl) rfl ?_
                          refine e_goto (tgt := 4) dX6_heaviest_48 (by decide) ?_
                          first | (rw [bst_f (c := fun s => decide (w (4 + s) ≠ 0)) (b := fun s q => decide (ldF w q < ldF w s)) (n := j) (by grind), hb] at ih; exact ih) | (rw [bst_0 (c := fun s => decide (w (4 + s) ≠ 0)) (b := fun s q => decide (ldF w q < ldF w s)) (n := j) (by grind) hb] at ih; exact ih) | (rw [bst_1 (c := fun s => decide (w (4 + s) ≠ 0)) (b := fun s q => decide (ldF w q < ldF w s)) (n := j) (by grind) hb (by grind)] at ih; exact ih) | (rw [bst_2 (c := fun s => decide (w (4 + s) ≠ 0)) (b := fun s q => decide (ldF w q < ldF w s)) (n := j) (by grind) hb (by grind)] at ih; exact ih)
                      · try first | contradiction | omega
                        all_goals
                          refine e_iload_n dX6_heaviest_43 rfl rfl ?_
                          refine e_istore_n dX6_heaviest_44 rfl (Nat.le_of_ble_eq_true rfl) rfl ?_
                          first | refine n_inc dX6_heaviest_45 rfl (Nat.le_of_ble_eq_true rfl) rfl ?_ | refine e_iinc dX6_heaviest_45 rfl rfl (Nat.le_of_ble_eq_true rfl) rfl ?_
                          refine e_goto (tgt := 4) dX6_heaviest_48 (by decide) ?_
                          first | (rw [bst_f (c := fun s => decide (w (4 + s) ≠ 0)) (b := fun s q => decide (ldF w q < ldF w s)) (n := j) (by grind), hb] at ih; exact ih) | (rw [bst_0 (c := fun s => decide (w (4 + s) ≠ 0)) (b := fun s q => decide (ldF w q < ldF w s)) (n := j) (by grind) hb] at ih; exact ih) | (rw [bst_1 (c := fun s => decide (w (4 + s) ≠ 0)) (b := fun s q => decide (ldF w q < ldF w s)) (n := j) (by grind) hb (by grind)] at ih; exact ih) | (rw [bst_2 (c := fun s => decide (w (4 + s) ≠ 0)) (b := fun s q => decide (ldF w q < ldF w s)) (n := j) (by grind) hb (by grind)] at ih; exact ih)
    ) (by
    refine e_iload_n dX6_heaviest_4 rfl rfl ?_
    refine e_bipush (v := nI 6) dX6_heaviest_5 rfl ?_
    first | ((with_reducible refine mk_nn ?_); refine n_icmp_ge (tgt := 51) dX6_heaviest_7 (by decide) (by omega) (by omega) (fun h7 => ?_) (fun h7 => ?_)) | refine e_icmp_ge (tgt := 51) dX6_heaviest_7 (by decide) (fun h7 => ?_) (fun h7 => ?_)
    · try first | contradiction | omega
      all_goals
        refine e_iload_n dX6_heaviest_51 rfl rfl ?_
        refine e_ret (some _) rfl (r_int dX6_heaviest_52 rfl) ?_
        exact xq rfl rfl rfl rfl rfl rfl
    · try first | contradiction | omega
      all_goals
        refine e_iload_n dX6_heaviest_10 rfl rfl ?_
        refine e_iload_n dX6_heaviest_11 rfl rfl ?_
        first | ((with_reducible refine mk_mo ?_); refine p_icmp_eq (tgt := 45) dX6_heaviest_12 (by decide) (fun h12 => ?_) (fun h12 => ?_)) | ((with_reducible refine mk_ms ?_); refine s_icmp_eq (tgt := 45) dX6_heaviest_12 (by decide) (by omega) (fun h12 => ?_) (fun h12 => ?_)) | ((with_reducible refine mk_mn ?_); refine q_icmp_eq (tgt := 45) dX6_heaviest_12 (by decide) (by omega) (fun h12 => ?_) (fun h12 => ?_)) | ((with_reducible refine mk_nn ?_); refine n_icmp_eq (tgt := 45) dX6_heaviest_12 (by decide) (by omega) (by omega) (fun h12 => ?_) (fun h12 => ?_)) | refine e_icmp_eq (tgt := 45) dX6_heaviest_12 (by decide) (fun h12 => ?_) (fun h12 => ?_)
        · try first | contradiction | omega
          all_goals
            first | refine n_inc dX6_heaviest_45 rfl (Nat.le_of_ble_eq_true rfl) rfl ?_ | refine e_iinc dX6_heaviest_45 rfl rfl (Nat.le_of_ble_eq_true rfl) rfl ?_
            refine e_goto (tgt := 4) dX6_heaviest_48 (by decide) ?_
            first | (rw [bst_f (c := fun s => decide (w (4 + s) ≠ 0)) (b := fun s q => decide (ldF w q < ldF w s)) (n := j) (by grind), hb] at ih; exact ih) | (rw [bst_0 (c := fun s => decide (w (4 + s) ≠ 0)) (b := fun s q => decide (ldF w q < ldF w s)) (n := j) (by grind) hb] at ih; exact ih) | (rw [bst_1 (c := fun s => decide (w (4 + s) ≠ 0)) (b := fun s q => decide (ldF w q < ldF w s)) (n := j) (by grind) hb (by grind)] at ih; exact ih) | (rw [bst_2 (c := fun s => decide (w (4 + s) ≠ 0)) (b := fun s q => decide (ldF w q < ldF w s)) (n := j) (by grind) hb (by grind)] at ih; exact ih)
        · try first | contradiction | omega
          all_goals
            refine e_aload_n dX6_heaviest_15 rfl rfl ?_
            refine e_iload_n dX6_heaviest_16 rfl rfl ?_
            refine x_V1 (M' := mX6_isUp) dX6_heaviest_17 ml_X6_63 ok_X6_isUp (by decide) rfl im_X6_isUp se_X6_isUp (ct_X6_isUp cm iv hP (by omega)) (Nat.le_of_ble_eq_true rfl) (by decide) (Nat.le_of_ble_eq_true rfl) ?_
            first | ((with_reducible refine mk_b ?_); refine b_if_eq (tgt := 45) dX6_heaviest_20 (by decide) (fun h20 => ?_) (fun h20 => ?_)) | ((with_reducible refine mk_ll ?_); refine m_if_eq (tgt := 45) dX6_heaviest_20 (by decide) (by omega) (by omega) (fun h20 => ?_) (fun h20 => ?_)) | ((with_reducible refine mk_lc ?_); refine l_if_eq (tgt := 45) dX6_heaviest_20 (by decide) (fun h20 => ?_) (fun h20 => ?_)) | ((with_reducible refine mk_n ?_); refine n_if_eq (tgt := 45) dX6_heaviest_20 (by decide) (by omega) (fun h20 => ?_) (fun h20 => ?_)) | refine e_if_eq (tgt := 45) dX6_heaviest_20 (by decide) (fun h20 => ?_) (fun h20 => ?_)
            · try first | contradiction | omega | (simp only [decide_eq_true_eq, decide_eq_false_iff_not] at h20; omega)
              all_goals
                first | refine n_inc dX6_heaviest_45 rfl (Nat.le_of_ble_eq_true rfl) rfl ?_ | refine e_iinc dX6_heaviest_45 rfl rfl (Nat.le_of_ble_eq_true rfl) rfl ?_
                refine e_goto (tgt := 4) dX6_heaviest_48 (by decide) ?_
                first | (rw [bst_f (c := fun s => decide (w (4 + s) ≠ 0)) (b := fun s q => decide (ldF w q < ldF w s)) (n := j) (by grind), hb] at ih; exact ih) | (rw [bst_0 (c := fun s => decide (w (4 + s) ≠ 0)) (b := fun s q => decide (ldF w q < ldF w s)) (n := j) (by grind) hb] at ih; exact ih) | (rw [bst_1 (c := fun s => decide (w (4 + s) ≠ 0)) (b := fun s q => decide (ldF w q < ldF w s)) (n := j) (by grind) hb (by grind)] at ih; exact ih) | (rw [bst_2 (c := fun s => decide (w (4 + s) ≠ 0)) (b := fun s q => decide (ldF w q < ldF w s)) (n := j) (by grind) hb (by grind)] at ih; exact ih)
            · try first | contradiction | omega | (simp only [decide_eq_true_eq, decide_eq_false_iff_not] at h20; omega)
              all_goals
                refine e_iload_n dX6_heaviest_23 rfl rfl ?_
                refine e_iconst (v := -1) dX6_heaviest_24 rfl ?_
                first | ((with_reducible refine mk_mo ?_); refine p_icmp_eq (tgt := 43) dX6_heaviest_25 (by decide) (fun h25 => ?_) (fun h25 => ?_)) | ((with_reducible refine mk_ms ?_); refine s_icmp_eq (tgt := 43) dX6_heaviest_25 (by decide) (by omega) (fun h25 => ?_) (fun h25 => ?_)) | ((with_reducible refine mk_mn ?_); refine q_icmp_eq (tgt := 43) dX6_heaviest_25 (by decide) (by omega) (fun h25 => ?_) (fun h25 => ?_)) | ((with_reducible refine mk_nn ?_); refine n_icmp_eq (tgt := 43) dX6_heaviest_25 (by decide) (by omega) (by omega) (fun h25 => ?_) (fun h25 => ?_)) | refine e_icmp_eq (tgt := 43) dX6_heaviest_25 (by decide) (fun h25 => ?_) (fun h25 => ?_)
                · try first | contradiction | omega
                  all_goals
                    refine e_iload_n dX6_heaviest_43 rfl rfl ?_
                    refine e_istore_n dX6_heaviest_44 rfl (Nat.le_of_ble_eq_true rfl) rfl ?_
                    first | refine n_inc dX6_heaviest_45 rfl (Nat.le_of_ble_eq_true rfl) rfl ?_ | refine e_iinc dX6_heaviest_45 rfl rfl (Nat.le_of_ble_eq_true rfl) rfl ?_
                    refine e_goto (tgt := 4) dX6_heaviest_48 (by decide) ?_
                    first | (rw [bst_f (c := fun s => decide (w (4 + s) ≠ 0)) (b := fun s q => decide (ldF w q < ldF w s)) (n := j) (by grind), hb] at ih; exact ih) | (rw [bst_0 (c := fun s => decide (w (4 + s) ≠ 0)) (b := fun s q => decide (ldF w q < ldF w s)) (n := j) (by grind) hb] at ih; exact ih) | (rw [bst_1 (c := fun s => decide (w (4 + s) ≠ 0)) (b := fun s q => decide (ldF w q < ldF w s)) (n := j) (by grind) hb (by grind)] at ih; exact ih) | (rw [bst_2 (c := fun s => decide (w (4 + s) ≠ 0)) (b := fun s q => decide (ldF w q < ldF w s)) (n := j) (by grind) hb (by grind)] at ih; exact ih)
                · try first | contradiction | omega
                  all_goals
                    refine e_aload_n dX6_heaviest_28 rfl rfl ?_
                    refine e_getR dX6_heaviest_29 fl_X6_25 rfl (cp_load cm) ?_
                    refine e_iload_n dX6_heaviest_32 rfl rfl ?_
                    refine e_iadE _ dX6_heaviest_33 ⟨by decide, by decide⟩ rfl rfl (by simp only [lenK]; omega) (pl_ld hP (by omega)) ?_
                    refine e_aload_n dX6_heaviest_34 rfl rfl ?_
                    refine e_getR dX6_heaviest_35 fl_X6_25 rfl (cp_load cm) ?_
                    refine e_iload_n dX6_heaviest_38 rfl rfl ?_
                    refine e_iadE _ dX6_heaviest_39 ⟨by decide, by decide⟩ rfl rfl (by simp only [lenK]; omega) (pl_ld hP (by omega)) ?_
                    first | ((with_reducible refine mk_nn ?_); refine n_icmp_le (tgt := 45) dX6_heaviest_40 (by decide) (by omega) (by omega) (fun h40 => ?_) (fun h40 => ?_)) | refine e_icmp_le (tgt := 45) dX6_heaviest_40 (by decide) (fun h40 => ?_) (fun h40 => ?_)
                    · try first | contradiction | omega
                      all_goals
                        first | refine n_inc dX6_heaviest_45 rfl (Nat.le_of_ble_eq_true rfl) rfl ?_ | refine e_iinc dX6_heaviest_45 rfl rfl (Nat.le_of_ble_eq_true rfl) rfl ?_
                        refine e_goto (tgt := 4) dX6_heaviest_48 (by decide) ?_
                        first | (rw [bst_f (c := fun s => decide (w (4 + s) ≠ 0)) (b := fun s q => decide (ldF w q < ldF w s)) (n := j) (by grind), hb] at ih; exact ih) | (rw [bst_0 (c := fun s => decide (w (4 + s) ≠ 0)) (b := fun s q => decide (ldF w q < ldF w s)) (n := j) (by grind) hb] at ih; exact ih) | (rw [bst_1 (c := fun s => decide (w (4 + s) ≠ 0)) (b := fun s q => decide (ldF w q < ldF w s)) (n := j) (by grind) hb (by grind)] at ih; exact ih) | (rw [bst_2 (c := fun s => decide (w (4 + s) ≠ 0)) (b := fun s q => decide (ldF w q < ldF w s)) (n := j) (by grind) hb (by grind)] at ih; exact ih)
                    · try first | contradiction | omega
                      all_goals
                        refine e_iload_n dX6_heaviest_43 rfl rfl ?_
                        refine e_istore_n dX6_heaviest_44 rfl (Nat.le_of_ble_eq_true rfl) rfl ?_
                        first | refine n_inc dX6_heaviest_45 rfl (Nat.le_of_ble_eq_true rfl) rfl ?_ | refine e_iinc dX6_heaviest_45 rfl rfl (Nat.le_of_ble_eq_true rfl) rfl ?_
                        refine e_goto (tgt := 4) dX6_heaviest_48 (by decide) ?_
                        first | (rw [bst_f (c := fun s => decide (w (4 + s) ≠ 0)) (b := fun s q => decide (ldF w q < ldF w s)) (n := j) (by grind), hb] at ih; exact ih) | (rw [bst_0 (c := fun s => decide (w (4 + s) ≠ 0)) (b := fun s q => decide (ldF w q < ldF w s)) (n := j) (by grind) hb] at ih; exact ih) | (rw [bst_1 (c := fun s => decide (w (4 + s) ≠ 0)) (b := fun s q => decide (ldF w q < ldF w s)) (n := j) (by grind) hb (by grind)] at ih; exact ih) | (rw [bst_2 (c := fun s => decide (w (4 + s) ≠ 0)) (b := fun s q => decide (ldF w q < ldF w s)) (n := j) (by grind) hb (by grind)] at ih; exact ih)
    )
  refine e_iconst (v := -1) dX6_heaviest_0 rfl ?_
  refine e_istore_n dX6_heaviest_1 rfl (Nat.le_of_ble_eq_true rfl) rfl ?_
  refine e_iconst (v := nI 0) dX6_heaviest_2 rfl ?_
  refine e_istore_n dX6_heaviest_3 rfl (Nat.le_of_ble_eq_true rfl) rfl ?_
  exact key 0 (by omega)
theorem ct_heaviestB {fi : FI} {fr : FR} {ai : FI} {ar : FR} {N : Nat} {w : Nat → Nat} (cm : CM fr ar) (iv : Inv w) (hP : PL fi ai w) {u : Nat} (hu6 : u < 6) : CP mX6_heaviest 1 0 0 [.ref (rf 6 65), .int (nI u)] fi fr ai ar N (xQ (some (.int (oI (obH w u)))) fi fr ai ar N) := by
  have h1 := iv_n iv
  have h3 := iv_mm iv
  have bd := Bd_iv iv
  have hF : FR1 fi ai fi ai := FR1_rf
  change EV mX6_heaviest 1 0 0 0 [some (.ref (rf 6 65)), some (.int (nI u)), none, none] [] fi fr ai ar N (xQ (some (.int (oI (obH w u)))) fi fr ai ar N)
  have key := ev_up (P := (fun j => EV mX6_heaviest 1 0 0 4 [some (.ref (rf 6 65)), some (.int (nI u)), some (.int (oI (bst (fun s => decide (w (4 + s) ≠ 0) && decide (s ≠ u)) (fun s q => decide (ldF w q < ldF w s)) j))), some (.int (nI j))] [] fi fr ai ar N (xQ (some (.int (oI (obH w u)))) fi fr ai ar N))) (6) (fun j hj ih => by
    have hu := iv_up iv hj
    have hld := ldF_le2 iv j
    cases hb : bst (fun s => decide (w (4 + s) ≠ 0) && decide (s ≠ u)) (fun s q => decide (ldF w q < ldF w s)) j with
    | none =>
      refine e_iload_n dX6_heaviest_4 rfl rfl ?_
      refine e_bipush (v := nI 6) dX6_heaviest_5 rfl ?_
      first | ((with_reducible refine mk_nn ?_); refine n_icmp_ge (tgt := 51) dX6_heaviest_7 (by decide) (by omega) (by omega) (fun h7 => ?_) (fun h7 => ?_)) | refine e_icmp_ge (tgt := 51) dX6_heaviest_7 (by decide) (fun h7 => ?_) (fun h7 => ?_)
      · try first | contradiction | omega
        all_goals
          refine e_iload_n dX6_heaviest_51 rfl rfl ?_
          refine e_ret (some _) rfl (r_int dX6_heaviest_52 rfl) ?_
          exact xq (by first | rfl | simp_all [bI_t, bI_f]) rfl rfl rfl rfl rfl
      · try first | contradiction | omega
        all_goals
          refine e_iload_n dX6_heaviest_10 rfl rfl ?_
          refine e_iload_n dX6_heaviest_11 rfl rfl ?_
          first | ((with_reducible refine mk_mo ?_); refine p_icmp_eq (tgt := 45) dX6_heaviest_12 (by decide) (fun h12 => ?_) (fun h12 => ?_)) | ((with_reducible refine mk_ms ?_); refine s_icmp_eq (tgt := 45) dX6_heaviest_12 (by decide) (by omega) (fun h12 => ?_) (fun h12 => ?_)) | ((with_reducible refine mk_mn ?_); refine q_icmp_eq (tgt := 45) dX6_heaviest_12 (by decide) (by omega) (fun h12 => ?_) (fun h12 => ?_)) | ((with_reducible refine mk_nn ?_); refine n_icmp_eq (tgt := 45) dX6_heaviest_12 (by decide) (by omega) (by omega) (fun h12 => ?_) (fun h12 => ?_)) | refine e_icmp_eq (tgt := 45) dX6_heaviest_12 (by decide) (fun h12 => ?_) (fun h12 => ?_)
          · try first | contradiction | omega
            all_goals
              first | refine n_inc dX6_heaviest_45 rfl (Nat.le_of_ble_eq_true rfl) rfl ?_ | refine e_iinc dX6_heaviest_45 rfl rfl (Nat.le_of_ble_eq_true rfl) rfl ?_
              refine e_goto (tgt := 4) dX6_heaviest_48 (by decide) ?_
              first | (rw [bst_f (c := fun s => decide (w (4 + s) ≠ 0) && decide (s ≠ u)) (b := fun s q => decide (ldF w q < ldF w s)) (n := j) (by grind), hb] at ih; exact ih) | (rw [bst_0 (c := fun s => decide (w (4 + s) ≠ 0) && decide (s ≠ u)) (b := fun s q => decide (ldF w q < ldF w s)) (n := j) (by grind) hb] at ih; exact ih)
          · try first | contradiction | omega
            all_goals
              refine e_aload_n dX6_heaviest_15 rfl rfl ?_
              refine e_iload_n dX6_heaviest_16 rfl rfl ?_
              refine x_V1 (M' := mX6_isUp) dX6_heaviest_17 ml_X6_63 ok_X6_isUp (by decide) rfl im_X6_isUp se_X6_isUp (ct_X6_isUp cm iv hP (by omega)) (Nat.le_of_ble_eq_true rfl) (by decide) (Nat.le_of_ble_eq_true rfl) ?_
              first | ((with_reducible refine mk_b ?_); refine b_if_eq (tgt := 45) dX6_heaviest_20 (by decide) (fun h20 => ?_) (fun h20 => ?_)) | ((with_reducible refine mk_ll ?_); refine m_if_eq (tgt := 45) dX6_heaviest_20 (by decide) (by omega) (by omega) (fun h20 => ?_) (fun h20 => ?_)) | ((with_reducible refine mk_lc ?_); refine l_if_eq (tgt := 45) dX6_heaviest_20 (by decide) (fun h20 => ?_) (fun h20 => ?_)) | ((with_reducible refine mk_n ?_); refine n_if_eq (tgt := 45) dX6_heaviest_20 (by decide) (by omega) (fun h20 => ?_) (fun h20 => ?_)) | refine e_if_eq (tgt := 45) dX6_heaviest_20 (by decide) (fun h20 => ?_) (fun h20 => ?_)
              · try first | contradiction | omega | (simp only [decide_eq_true_eq, decide_eq_false_iff_not] at h20; omega)
                all_goals
                  first | refine n_inc dX6_heaviest_45 rfl (Nat.le_of_ble_eq_true rfl) rfl ?_ | refine e_iinc dX6_heaviest_45 rfl rfl (Nat.le_of_ble_eq_true rfl) rfl ?_
                  refine e_goto (tgt := 4) dX6_heaviest_48 (by decide) ?_
                  first | (rw [bst_f (c := fun s => decide (w (4 + s) ≠ 0) && decide (s ≠ u)) (b := fun s q => decide (ldF w q < ldF w s)) (n := j) (by grind), hb] at ih; exact ih) | (rw [bst_0 (c := fun s => decide (w (4 + s) ≠ 0) && decide (s ≠ u)) (b := fun s q => decide (ldF w q < ldF w s)) (n := j) (by grind) hb] at ih; exact ih)
              · try first | contradiction | omega | (simp only [decide_eq_true_eq, decide_eq_false_iff_not] at h20; omega)
                all_goals
                  refine e_iload_n dX6_heaviest_23 rfl rfl ?_
                  refine e_iconst (v := -1) dX6_heaviest_24 rfl ?_
                  first | ((with_reducible refine mk_mo ?_); refine p_icmp_eq (tgt := 43) dX6_heaviest_25 (by decide) (fun h25 => ?_) (fun h25 => ?_)) | ((with_reducible refine mk_ms ?_); refine s_icmp_eq (tgt := 43) dX6_heaviest_25 (by decide) (by omega) (fun h25 => ?_) (fun h25 => ?_)) | ((with_reducible refine mk_mn ?_); refine q_icmp_eq (tgt := 43) dX6_heaviest_25 (by decide) (by omega) (fun h25 => ?_) (fun h25 => ?_)) | ((with_reducible refine mk_nn ?_); refine n_icmp_eq (tgt := 43) dX6_heaviest_25 (by decide) (by omega) (by omega) (fun h25 => ?_) (fun h25 => ?_)) | refine e_icmp_eq (tgt := 43) dX6_heaviest_25 (by decide) (fun h25 => ?_) (fun h25 => ?_)
                  · try first | contradiction | omega
                    all_goals
                      refine e_iload_n dX6_heaviest_43 rfl rfl ?_
                      refine e_istore_n dX6_heaviest_44 rfl (Nat.le_of_ble_eq_true rfl) rfl ?_
                      first | refine n_inc dX6_heaviest_45 rfl (Nat.le_of_ble_eq_true rfl) rfl ?_ | refine e_iinc dX6_heaviest_45 rfl rfl (Nat.le_of_ble_eq_true rfl) rfl ?_
                      refine e_goto (tgt := 4) dX6_heaviest_48 (by decide) ?_
                      first | (rw [bst_f (c := fun s => decide (w (4 + s) ≠ 0) && decide (s ≠ u)) (b := fun s q => decide (ldF w q < ldF w s)) (n := j) (by grind), hb] at ih; exact ih) | (rw [bst_0 (c := fun s => decide (w (4 + s) ≠ 0) && decide (s ≠ u)) (b := fun s q => decide (ldF w q < ldF w s)) (n := j) (by grind) hb] at ih; exact ih)
                  · try first | contradiction | omega
                    all_goals
                      refine e_aload_n dX6_heaviest_28 rfl rfl ?_
                      refine e_getR dX6_heaviest_29 fl_X6_25 rfl (cp_load cm) ?_
                      refine e_iload_n dX6_heaviest_32 rfl rfl ?_
                      refine e_iadE _ dX6_heaviest_33 ⟨by decide, by decide⟩ rfl rfl (by simp only [lenK]; omega) (pl_ld hP (by omega)) ?_
                      refine e_aload_n dX6_heaviest_34 rfl rfl ?_
                      refine e_getR dX6_heaviest_35 fl_X6_25 rfl (cp_load cm) ?_
                      refine e_iload_n dX6_heaviest_38 rfl rfl ?_
                      refine e_iadE _ dX6_heaviest_39 ⟨by decide, by decide⟩ rfl rfl (by simp only [lenK]; omega) (pl_ld hP (by omega)) ?_
                      first | ((with_reducible refine mk_nn ?_); refine n_icmp_le (tgt := 45) dX6_heaviest_40 (by decide) (by omega) (by omega) (fun h40 => ?_) (fun h40 => ?_)) | refine e_icmp_le (tgt := 45) dX6_heaviest_40 (by decide) (fun h40 => ?_) (fun h40 => ?_)
                      · try first | contradiction | omega
                        all_goals
                          first | refine n_inc dX6_heaviest_45 rfl (Nat.le_of_ble_eq_true rfl) rfl ?_ | refine e_iinc dX6_heaviest_45 rfl rfl (Nat.le_of_ble_eq_true rfl) rfl ?_
                          refine e_goto (tgt := 4) dX6_heaviest_48 (by decide) ?_
                          first | (rw [bst_f (c := fun s => decide (w (4 + s) ≠ 0) && decide (s ≠ u)) (b := fun s q => decide (ldF w q < ldF w s)) (n := j) (by grind), hb] at ih; exact ih) | (rw [bst_0 (c := fun s => decide (w (4 + s) ≠ 0) && decide (s ≠ u)) (b := fun s q => decide (ldF w q < ldF w s)) (n := j) (by grind) hb] at ih; exact ih)
                      · try first | contradiction | omega
                        all_goals
                          refine e_iload_n dX6_heaviest_43 rfl rfl ?_
                          refine e_istore_n dX6_heaviest_44 rfl (Nat.le_of_ble_eq_true rfl) rfl ?_
                          first | refine n_inc dX6_heaviest_45 rfl (Nat.le_of_ble_eq_true rfl) rfl ?_ | refine e_iinc dX6_heaviest_45 rfl rfl (Nat.le_of_ble_eq_true rfl) rfl ?_
                          refine e_goto (tgt := 4) dX6_heaviest_48 (by decide) ?_
                          first | (rw [bst_f (c := fun s => decide (w (4 + s) ≠ 0) && decide (s ≠ u)) (b := fun s q => decide (ldF w q < ldF w s)) (n := j) (by grind), hb] at ih; exact ih) | (rw [bst_0 (c := fun s => decide (w (4 + s) ≠ 0) && decide (s ≠ u)) (b := fun s q => decide (ldF w q < ldF w s)) (n := j) (by grind) hb] at ih; exact ih)
    | some q =>
      have hq := (bst_in hb).1
      have hqc := (bst_in hb).2
      rw [oI_s]
      have hld2 := ldF_le2 iv q
      refine e_iload_n dX6_heaviest_4 rfl rfl ?_
      refine e_bipush (v := nI 6) dX6_heaviest_5 rfl ?_
      first | ((with_reducible refine mk_nn ?_); refine n_icmp_ge (tgt := 51) dX6_heaviest_7 (by decide) (by omega) (by omega) (fun h7 => ?_) (fun h7 => ?_)) | refine e_icmp_ge (tgt := 51) dX6_heaviest_7 (by decide) (fun h7 => ?_) (fun h7 => ?_)
      · try first | contradiction | omega
        all_goals
          refine e_iload_n dX6_heaviest_51 rfl rfl ?_
          refine e_ret (some _) rfl (r_int dX6_heaviest_52 rfl) ?_
          exact xq (by first | rfl | simp_all [bI_t, bI_f]) rfl rfl rfl rfl rfl
      · try first | contradiction | omega
        all_goals
          refine e_iload_n dX6_heaviest_10 rfl rfl ?_
          refine e_iload_n dX6_heaviest_11 rfl rfl ?_
          first | ((with_reducible refine mk_mo ?_); refine p_icmp_eq (tgt := 45) dX6_heaviest_12 (by decide) (fun h12 => ?_) (fun h12 => ?_)) | ((with_reducible refine mk_ms ?_); refine s_icmp_eq (tgt := 45) dX6_heaviest_12 (by decide) (by omega) (fun h12 => ?_) (fun h12 => ?_)) | ((with_reducible refine mk_mn ?_); refine q_icmp_eq (tgt := 45) dX6_heaviest_12 (by decide) (by omega) (fun h12 => ?_) (fun h12 => ?_)) | ((with_reducible refine mk_nn ?_); refine n_icmp_eq (tgt := 45) dX6_heaviest_12 (by decide) (by omega) (by omega) (fun h12 => ?_) (fun h12 => ?_)) | refine e_icmp_eq (tgt := 45) dX6_heaviest_12 (by decide) (fun h12 => ?_) (fun h12 => ?_)
          · try first | contradiction | omega
            all_goals
              first | refine n_inc dX6_heaviest_45 rfl (Nat.le_of_ble_eq_true rfl) rfl ?_ | refine e_iinc dX6_heaviest_45 rfl rfl (Nat.le_of_ble_eq_true rfl) rfl ?_
              refine e_goto (tgt := 4) dX6_heaviest_48 (by decide) ?_
              first | (rw [bst_f (c := fun s => decide (w (4 + s) ≠ 0) && decide (s ≠ u)) (b := fun s q => decide (ldF w q < ldF w s)) (n := j) (by grind), hb] at ih; exact ih) | (rw [bst_0 (c := fun s => decide (w (4 + s) ≠ 0) && decide (s ≠ u)) (b := fun s q => decide (ldF w q < ldF w s)) (n := j) (by grind) hb] at ih; exact ih) | (rw [bst_1 (c := fun s => decide (w (4 + s) ≠ 0) && decide (s ≠ u)) (b := fun s q => decide (ldF w q < ldF w s)) (n := j) (by grind) hb (by grind)] at ih; exact ih) | (rw [bst_2 (c := fun s => decide (w (4 + s) ≠ 0) && decide (s ≠ u)) (b := fun s q => decide (ldF w q < ldF w s)) (n := j) (by grind) hb (by grind)] at ih; exact ih)
          · try first | contradiction | omega
            all_goals
              refine e_aload_n dX6_heaviest_15 rfl rfl ?_
              refine e_iload_n dX6_heaviest_16 rfl rfl ?_
              refine x_V1 (M' := mX6_isUp) dX6_heaviest_17 ml_X6_63 ok_X6_isUp (by decide) rfl im_X6_isUp se_X6_isUp (ct_X6_isUp cm iv hP (by omega)) (Nat.le_of_ble_eq_true rfl) (by decide) (Nat.le_of_ble_eq_true rfl) ?_
              first | ((with_reducible refine mk_b ?_); refine b_if_eq (tgt := 45) dX6_heaviest_20 (by decide) (fun h20 => ?_) (fun h20 => ?_)) | ((with_reducible refine mk_ll ?_); refine m_if_eq (tgt := 45) dX6_heaviest_20 (by decide) (by omega) (by omega) (fun h20 => ?_) (fun h20 => ?_)) | ((with_reducible refine mk_lc ?_); refine l_if_eq (tgt := 45) dX6_heaviest_20 (by decide) (fun h20 => ?_) (fun h20 => ?_)) | ((with_reducible refine mk_n ?_); refine n_if_eq (tgt := 45) dX6_heaviest_20 (by decide) (by omega) (fun h20 => ?_) (fun h20 => ?_)) | refine e_if_eq (tgt := 45) dX6_heaviest_20 (by decide) (fun h20 => ?_) (fun h20 => ?_)
              · try first | contradiction | omega | (simp only [decide_eq_true_eq, decide_eq_false_iff_not] at h20; omega)
                all_goals
                  first | refine n_inc dX6_heaviest_45 rfl (Nat.le_of_ble_eq_true rfl) rfl ?_ | refine e_iinc dX6_heaviest_45 rfl rfl (Nat.le_of_ble_eq_true rfl) rfl ?_
                  refine e_goto (tgt := 4) dX6_heaviest_48 (by decide) ?_
                  first | (rw [bst_f (c := fun s => decide (w (4 + s) ≠ 0) && decide (s ≠ u)) (b := fun s q => decide (ldF w q < ldF w s)) (n := j) (by grind), hb] at ih; exact ih) | (rw [bst_0 (c := fun s => decide (w (4 + s) ≠ 0) && decide (s ≠ u)) (b := fun s q => decide (ldF w q < ldF w s)) (n := j) (by grind) hb] at ih; exact ih) | (rw [bst_1 (c := fun s => decide (w (4 + s) ≠ 0) && decide (s ≠ u)) (b := fun s q => decide (ldF w q < ldF w s)) (n := j) (by grind) hb (by grind)] at ih; exact ih) | (rw [bst_2 (c := fun s => decide (w (4 + s) ≠ 0) && decide (s ≠ u)) (b := fun s q => decide (ldF w q < ldF w s)) (n := j) (by grind) hb (by grind)] at ih; exact ih)
              · try first | contradiction | omega | (simp only [decide_eq_true_eq, decide_eq_false_iff_not] at h20; omega)
                all_goals
                  refine e_iload_n dX6_heaviest_23 rfl rfl ?_
                  refine e_iconst (v := -1) dX6_heaviest_24 rfl ?_
                  first | ((with_reducible refine mk_mo ?_); refine p_icmp_eq (tgt := 43) dX6_heaviest_25 (by decide) (fun h25 => ?_) (fun h25 => ?_)) | ((with_reducible refine mk_ms ?_); refine s_icmp_eq (tgt := 43) dX6_heaviest_25 (by decide) (by omega) (fun h25 => ?_) (fun h25 => ?_)) | ((with_reducible refine mk_mn ?_); refine q_icmp_eq (tgt := 43) dX6_heaviest_25 (by decide) (by omega) (fun h25 => ?_) (fun h25 => ?_)) | ((with_reducible refine mk_nn ?_); refine n_icmp_eq (tgt := 43) dX6_heaviest_25 (by decide) (by omega) (by omega) (fun h25 => ?_) (fun h25 => ?_)) | refine e_icmp_eq (tgt := 43) dX6_heaviest_25 (by decide) (fun h25 => ?_) (fun h25 => ?_)
                  · try first | contradiction | omega
                    all_goals
                      refine e_iload_n dX6_heaviest_43 rfl rfl ?_
                      refine e_istore_n dX6_heaviest_44 rfl (Nat.le_of_ble_eq_true rfl) rfl ?_
                      first | refine n_inc dX6_heaviest_45 rfl (Nat.le_of_ble_eq_true rfl) rfl ?_ | refine e_iinc dX6_heaviest_45 rfl rfl (Nat.le_of_ble_eq_true rfl) rfl ?_
                      refine e_goto (tgt := 4) dX6_heaviest_48 (by decide) ?_
                      first | (rw [bst_f (c := fun s => decide (w (4 + s) ≠ 0) && decide (s ≠ u)) (b := fun s q => decide (ldF w q < ldF w s)) (n := j) (by grind), hb] at ih; exact ih) | (rw [bst_0 (c := fun s => decide (w (4 + s) ≠ 0) && decide (s ≠ u)) (b := fun s q => decide (ldF w q < ldF w s)) (n := j) (by grind) hb] at ih; exact ih) | (rw [bst_1 (c := fun s => decide (w (4 + s) ≠ 0) && decide (s ≠ u)) (b := fun s q => decide (ldF w q < ldF w s)) (n := j) (by grind) hb (by grind)] at ih; exact ih) | (rw [bst_2 (c := fun s => decide (w (4 + s) ≠ 0) && decide (s ≠ u)) (b := fun s q => decide (ldF w q < ldF w s)) (n := j) (by grind) hb (by grind)] at ih; exact ih)
                  · try first | contradiction | omega
                    all_goals
                      refine e_aload_n dX6_heaviest_28 rfl rfl ?_
                      refine e_getR dX6_heaviest_29 fl_X6_25 rfl (cp_load cm) ?_
                      refine e_iload_n dX6_heaviest_32 rfl rfl ?_
                      refine e_iadE _ dX6_heaviest_33 ⟨by decide, by decide⟩ rfl rfl (by simp only [lenK]; omega) (pl_ld hP (by omega)) ?_
                      refine e_aload_n dX6_heaviest_34 rfl rfl ?_
                      refine e_getR dX6_heaviest_35 fl_X6_25 rfl (cp_load cm) ?_
                      refine e_iload_n dX6_heaviest_38 rfl rfl ?_
                      refine e_iadE _ dX6_heaviest_39 ⟨by decide, by decide⟩ rfl rfl (by simp only [lenK]; omega) (pl_ld hP (by omega)) ?_
                      first | ((with_reducible refine mk_nn ?_); refine n_icmp_le (tgt := 45) dX6_heaviest_40 (by decide) (by omega) (by omega) (fun h40 => ?_) (fun h40 => ?_)) | refine e_icmp_le (tgt := 45) dX6_heaviest_40 (by decide) (fun h40 => ?_) (fun h40 => ?_)
                      · try first | contradiction | omega
                        all_goals
                          first | refine n_inc dX6_heaviest_45 rfl (Nat.le_of_ble_eq_true rfl) rfl ?_ | refine e_iinc dX6_heaviest_45 rfl rfl (Nat.le_of_ble_eq_true rfl) rfl ?_
                          refine e_goto (tgt := 4) dX6_heaviest_48 (by decide) ?_
                          first | (rw [bst_f (c := fun s => decide (w (4 + s) ≠ 0) && decide (s ≠ u)) (b := fun s q => decide (ldF w q < ldF w s)) (n := j) (by grind), hb] at ih; exact ih) | (rw [bst_0 (c := fun s => decide (w (4 + s) ≠ 0) && decide (s ≠ u)) (b := fun s q => decide (ldF w q < ldF w s)) (n := j) (by grind) hb] at ih; exact ih) | (rw [bst_1 (c := fun s => decide (w (4 + s) ≠ 0) && decide (s ≠ u)) (b := fun s q => decide (ldF w q < ldF w s)) (n := j) (by grind) hb (by grind)] at ih; exact ih) | (rw [bst_2 (c := fun s => decide (w (4 + s) ≠ 0) && decide (s ≠ u)) (b := fun s q => decide (ldF w q < ldF w s)) (n := j) (by grind) hb (by grind)] at ih; exact ih)
                      · try first | contradiction | omega
                        all_goals
                          refine e_iload_n dX6_heaviest_43 rfl rfl ?_
                          refine e_istore_n dX6_heaviest_44 rfl (Nat.le_of_ble_eq_true rfl) rfl ?_
                          first | refine n_inc dX6_heaviest_45 rfl (Nat.le_of_ble_eq_true rfl) rfl ?_ | refine e_iinc dX6_heaviest_45 rfl rfl (Nat.le_of_ble_eq_true rfl) rfl ?_
                          refine e_goto (tgt := 4) dX6_heaviest_48 (by decide) ?_
                          first | (rw [bst_f (c := fun s => decide (w (4 + s) ≠ 0) && decide (s ≠ u)) (b := fun s q => decide (ldF w q < ldF w s)) (n := j) (by grind), hb] at ih; exact ih) | (rw [bst_0 (c := fun s => decide (w (4 + s) ≠ 0) && decide (s ≠ u)) (b := fun s q => decide (ldF w q < ldF w s)) (n := j) (by grind) hb] at ih; exact ih) | (rw [bst_1 (c := fun s => decide (w (4 + s) ≠ 0) && decide (s ≠ u)) (b := fun s q => decide (ldF w q < ldF w s)) (n := j) (by grind) hb (by grind)] at ih; exact ih) | (rw [bst_2 (c := fun s => decide (w (4 + s) ≠ 0) && decide (s ≠ u)) (b := fun s q => decide (ldF w q < ldF w s)) (n := j) (by grind) hb (by grind)] at ih; exact ih)
    ) (by
    refine e_iload_n dX6_heaviest_4 rfl rfl ?_
    refine e_bipush (v := nI 6) dX6_heaviest_5 rfl ?_
    first | ((with_reducible refine mk_nn ?_); refine n_icmp_ge (tgt := 51) dX6_heaviest_7 (by decide) (by omega) (by omega) (fun h7 => ?_) (fun h7 => ?_)) | refine e_icmp_ge (tgt := 51) dX6_heaviest_7 (by decide) (fun h7 => ?_) (fun h7 => ?_)
    · try first | contradiction | omega
      all_goals
        refine e_iload_n dX6_heaviest_51 rfl rfl ?_
        refine e_ret (some _) rfl (r_int dX6_heaviest_52 rfl) ?_
        exact xq rfl rfl rfl rfl rfl rfl
    · try first | contradiction | omega
      all_goals
        refine e_iload_n dX6_heaviest_10 rfl rfl ?_
        refine e_iload_n dX6_heaviest_11 rfl rfl ?_
        first | ((with_reducible refine mk_mo ?_); refine p_icmp_eq (tgt := 45) dX6_heaviest_12 (by decide) (fun h12 => ?_) (fun h12 => ?_)) | ((with_reducible refine mk_ms ?_); refine s_icmp_eq (tgt := 45) dX6_heaviest_12 (by decide) (by omega) (fun h12 => ?_) (fun h12 => ?_)) | ((with_reducible refine mk_mn ?_); refine q_icmp_eq (tgt := 45) dX6_heaviest_12 (by decide) (by omega) (fun h12 => ?_) (fun h12 => ?_)) | ((with_reducible refine mk_nn ?_); refine n_icmp_eq (tgt := 45) dX6_heaviest_12 (by decide) (by omega) (by omega) (fun h12 => ?_) (fun h12 => ?_)) | refine e_icmp_eq (tgt := 45) dX6_heaviest_12 (by decide) (fun h12 => ?_) (fun h12 => ?_)
        · try first | contradiction | omega
          all_goals
            first | refine n_inc dX6_heaviest_45 rfl (Nat.le_of_ble_eq_true rfl) rfl ?_ | refine e_iinc dX6_heaviest_45 rfl rfl (Nat.le_of_ble_eq_true rfl) rfl ?_
            refine e_goto (tgt := 4) dX6_heaviest_48 (by decide) ?_
            first | (rw [bst_f (c := fun s => decide (w (4 + s) ≠ 0) && decide (s ≠ u)) (b := fun s q => decide (ldF w q < ldF w s)) (n := j) (by grind), hb] at ih; exact ih) | (rw [bst_0 (c := fun s => decide (w (4 + s) ≠ 0) && decide (s ≠ u)) (b := fun s q => decide (ldF w q < ldF w s)) (n := j) (by grind) hb] at ih; exact ih) | (rw [bst_1 (c := fun s => decide (w (4 + s) ≠ 0) && decide (s ≠ u)) (b := fun s q => decide (ldF w q < ldF w s)) (n := j) (by grind) hb (by grind)] at ih; exact ih) | (rw [bst_2 (c := fun s => decide (w (4 + s) ≠ 0) && decide (s ≠ u)) (b := fun s q => decide (ldF w q < ldF w s)) (n := j) (by grind) hb (by grind)] at ih; exact ih)
        · try first | contradiction | omega
          all_goals
            refine e_aload_n dX6_heaviest_15 rfl rfl ?_
            refine e_iload_n dX6_heaviest_16 rfl rfl ?_
            refine x_V1 (M' := mX6_isUp) dX6_heaviest_17 ml_X6_63 ok_X6_isUp (by decide) rfl im_X6_isUp se_X6_isUp (ct_X6_isUp cm iv hP (by omega)) (Nat.le_of_ble_eq_true rfl) (by decide) (Nat.le_of_ble_eq_true rfl) ?_
            first | ((with_reducible refine mk_b ?_); refine b_if_eq (tgt := 45) dX6_heaviest_20 (by decide) (fun h20 => ?_) (fun h20 => ?_)) | ((with_reducible refine mk_ll ?_); refine m_if_eq (tgt := 45) dX6_heaviest_20 (by decide) (by omega) (by omega) (fun h20 => ?_) (fun h20 => ?_)) | ((with_reducible refine mk_lc ?_); refine l_if_eq (tgt := 45) dX6_heaviest_20 (by decide) (fun h20 => ?_) (fun h20 => ?_)) | ((with_reducible refine mk_n ?_); refine n_if_eq (tgt := 45) dX6_heaviest_20 (by decide) (by omega) (fun h20 => ?_) (fun h20 => ?_)) | refine e_if_eq (tgt := 45) dX6_heaviest_20 (by decide) (fun h20 => ?_) (fun h20 => ?_)
            · try first | contradiction | omega | (simp only [decide_eq_true_eq, decide_eq_false_iff_not] at h20; omega)
              all_goals
                first | refine n_inc dX6_heaviest_45 rfl (Nat.le_of_ble_eq_true rfl) rfl ?_ | refine e_iinc dX6_heaviest_45 rfl rfl (Nat.le_of_ble_eq_true rfl) rfl ?_
                refine e_goto (tgt := 4) dX6_heaviest_48 (by decide) ?_
                first | (rw [bst_f (c := fun s => decide (w (4 + s) ≠ 0) && decide (s ≠ u)) (b := fun s q => decide (ldF w q < ldF w s)) (n := j) (by grind), hb] at ih; exact ih) | (rw [bst_0 (c := fun s => decide (w (4 + s) ≠ 0) && decide (s ≠ u)) (b := fun s q => decide (ldF w q < ldF w s)) (n := j) (by grind) hb] at ih; exact ih) | (rw [bst_1 (c := fun s => decide (w (4 + s) ≠ 0) && decide (s ≠ u)) (b := fun s q => decide (ldF w q < ldF w s)) (n := j) (by grind) hb (by grind)] at ih; exact ih) | (rw [bst_2 (c := fun s => decide (w (4 + s) ≠ 0) && decide (s ≠ u)) (b := fun s q => decide (ldF w q < ldF w s)) (n := j) (by grind) hb (by grind)] at ih; exact ih)
            · try first | contradiction | omega | (simp only [decide_eq_true_eq, decide_eq_false_iff_not] at h20; omega)
              all_goals
                refine e_iload_n dX6_heaviest_23 rfl rfl ?_
                refine e_iconst (v := -1) dX6_heaviest_24 rfl ?_
                first | ((with_reducible refine mk_mo ?_); refine p_icmp_eq (tgt := 43) dX6_heaviest_25 (by decide) (fun h25 => ?_) (fun h25 => ?_)) | ((with_reducible refine mk_ms ?_); refine s_icmp_eq (tgt := 43) dX6_heaviest_25 (by decide) (by omega) (fun h25 => ?_) (fun h25 => ?_)) | ((with_reducible refine mk_mn ?_); refine q_icmp_eq (tgt := 43) dX6_heaviest_25 (by decide) (by omega) (fun h25 => ?_) (fun h25 => ?_)) | ((with_reducible refine mk_nn ?_); refine n_icmp_eq (tgt := 43) dX6_heaviest_25 (by decide) (by omega) (by omega) (fun h25 => ?_) (fun h25 => ?_)) | refine e_icmp_eq (tgt := 43) dX6_heaviest_25 (by decide) (fun h25 => ?_) (fun h25 => ?_)
                · try first | contradiction | omega
                  all_goals
                    refine e_iload_n dX6_heaviest_43 rfl rfl ?_
                    refine e_istore_n dX6_heaviest_44 rfl (Nat.le_of_ble_eq_true rfl) rfl ?_
                    first | refine n_inc dX6_heaviest_45 rfl (Nat.le_of_ble_eq_true rfl) rfl ?_ | refine e_iinc dX6_heaviest_45 rfl rfl (Nat.le_of_ble_eq_true rfl) rfl ?_
                    refine e_goto (tgt := 4) dX6_heaviest_48 (by decide) ?_
                    first | (rw [bst_f (c := fun s => decide (w (4 + s) ≠ 0) && decide (s ≠ u)) (b := fun s q => decide (ldF w q < ldF w s)) (n := j) (by grind), hb] at ih; exact ih) | (rw [bst_0 (c := fun s => decide (w (4 + s) ≠ 0) && decide (s ≠ u)) (b := fun s q => decide (ldF w q < ldF w s)) (n := j) (by grind) hb] at ih; exact ih) | (rw [bst_1 (c := fun s => decide (w (4 + s) ≠ 0) && decide (s ≠ u)) (b := fun s q => decide (ldF w q < ldF w s)) (n := j) (by grind) hb (by grind)] at ih; exact ih) | (rw [bst_2 (c := fun s => decide (w (4 + s) ≠ 0) && decide (s ≠ u)) (b := fun s q => decide (ldF w q < ldF w s)) (n := j) (by grind) hb (by grind)] at ih; exact ih)
                · try first | contradiction | omega
                  all_goals
                    refine e_aload_n dX6_heaviest_28 rfl rfl ?_
                    refine e_getR dX6_heaviest_29 fl_X6_25 rfl (cp_load cm) ?_
                    refine e_iload_n dX6_heaviest_32 rfl rfl ?_
                    refine e_iadE _ dX6_heaviest_33 ⟨by decide, by decide⟩ rfl rfl (by simp only [lenK]; omega) (pl_ld hP (by omega)) ?_
                    refine e_aload_n dX6_heaviest_34 rfl rfl ?_
                    refine e_getR dX6_heaviest_35 fl_X6_25 rfl (cp_load cm) ?_
                    refine e_iload_n dX6_heaviest_38 rfl rfl ?_
                    refine e_iadE _ dX6_heaviest_39 ⟨by decide, by decide⟩ rfl rfl (by simp only [lenK]; omega) (pl_ld hP (by omega)) ?_
                    first | ((with_reducible refine mk_nn ?_); refine n_icmp_le (tgt := 45) dX6_heaviest_40 (by decide) (by omega) (by omega) (fun h40 => ?_) (fun h40 => ?_)) | refine e_icmp_le (tgt := 45) dX6_heaviest_40 (by decide) (fun h40 => ?_) (fun h40 => ?_)
                    · try first | contradiction | omega
                      all_goals
                        first | refine n_inc dX6_heaviest_45 rfl (Nat.le_of_ble_eq_true rfl) rfl ?_ | refine e_iinc dX6_heaviest_45 rfl rfl (Nat.le_of_ble_eq_true rfl) rfl ?_
                        refine e_goto (tgt := 4) dX6_heaviest_48 (by decide) ?_
                        first | (rw [bst_f (c := fun s => decide (w (4 + s) ≠ 0) && decide (s ≠ u)) (b := fun s q => decide (ldF w q < ldF w s)) (n := j) (by grind), hb] at ih; exact ih) | (rw [bst_0 (c := fun s => decide (w (4 + s) ≠ 0) && decide (s ≠ u)) (b := fun s q => decide (ldF w q < ldF w s)) (n := j) (by grind) hb] at ih; exact ih) | (rw [bst_1 (c := fun s => decide (w (4 + s) ≠ 0) && decide (s ≠ u)) (b := fun s q => decide (ldF w q < ldF w s)) (n := j) (by grind) hb (by grind)] at ih; exact ih) | (rw [bst_2 (c := fun s => decide (w (4 + s) ≠ 0) && decide (s ≠ u)) (b := fun s q => decide (ldF w q < ldF w s)) (n := j) (by grind) hb (by grind)] at ih; exact ih)
                    · try first | contradiction | omega
                      all_goals
                        refine e_iload_n dX6_heaviest_43 rfl rfl ?_
                        refine e_istore_n dX6_heaviest_44 rfl (Nat.le_of_ble_eq_true rfl) rfl ?_
                        first | refine n_inc dX6_heaviest_45 rfl (Nat.le_of_ble_eq_true rfl) rfl ?_ | refine e_iinc dX6_heaviest_45 rfl rfl (Nat.le_of_ble_eq_true rfl) rfl ?_
                        refine e_goto (tgt := 4) dX6_heaviest_48 (by decide) ?_
                        first | (rw [bst_f (c := fun s => decide (w (4 + s) ≠ 0) && decide (s ≠ u)) (b := fun s q => decide (ldF w q < ldF w s)) (n := j) (by grind), hb] at ih; exact ih) | (rw [bst_0 (c := fun s => decide (w (4 + s) ≠ 0) && decide (s ≠ u)) (b := fun s q => decide (ldF w q < ldF w s)) (n := j) (by grind) hb] at ih; exact ih) | (rw [bst_1 (c := fun s => decide (w (4 + s) ≠ 0) && decide (s ≠ u)) (b := fun s q => decide (ldF w q < ldF w s)) (n := j) (by grind) hb (by grind)] at ih; exact ih) | (rw [bst_2 (c := fun s => decide (w (4 + s) ≠ 0) && decide (s ≠ u)) (b := fun s q => decide (ldF w q < ldF w s)) (n := j) (by grind) hb (by grind)] at ih; exact ih)
    )
  refine e_iconst (v := -1) dX6_heaviest_0 rfl ?_
  refine e_istore_n dX6_heaviest_1 rfl (Nat.le_of_ble_eq_true rfl) rfl ?_
  refine e_iconst (v := nI 0) dX6_heaviest_2 rfl ?_
  refine e_istore_n dX6_heaviest_3 rfl (Nat.le_of_ble_eq_true rfl) rfl ?_
  exact key 0 (by omega)
theorem ct_lightestN {fi : FI} {fr : FR} {ai : FI} {ar : FR} {N : Nat} {w : Nat → Nat} (cm : CM fr ar) (iv : Inv w) (hP : PL fi ai w)  : CP mX6_lightest 1 0 0 [.ref (rf 6 65), .int (-1)] fi fr ai ar N (xQ (some (.int (oI (otL w)))) fi fr ai ar N) := by
  have h1 := iv_n iv
  have h3 := iv_mm iv
  have bd := Bd_iv iv
  have hF : FR1 fi ai fi ai := FR1_rf
  change EV mX6_lightest 1 0 0 0 [some (.ref (rf 6 65)), some (.int (-1)), none, none] [] fi fr ai ar N (xQ (some (.int (oI (otL w)))) fi fr ai ar N)
  have key := ev_up (P := (fun j => EV mX6_lightest 1 0 0 4 [some (.ref (rf 6 65)), some (.int (-1)), some (.int (oI (bst (fun s => decide (w (4 + s) ≠ 0)) (fun s q => decide (ldF w s < ldF w q)) j))), some (.int (nI j))] [] fi fr ai ar N (xQ (some (.int (oI (otL w)))) fi fr ai ar N))) (6) (fun j hj ih => by
    have hu := iv_up iv hj
    have hld := ldF_le2 iv j
    cases hb : bst (fun s => decide (w (4 + s) ≠ 0)) (fun s q => decide (ldF w s < ldF w q)) j with
    | none =>
      refine e_iload_n dX6_lightest_4 rfl rfl ?_
      refine e_bipush (v := nI 6) dX6_lightest_5 rfl ?_
      first | ((with_reducible refine mk_nn ?_); refine n_icmp_ge (tgt := 51) dX6_lightest_7 (by decide) (by omega) (by omega) (fun h7 => ?_) (fun h7 => ?_)) | refine e_icmp_ge (tgt := 51) dX6_lightest_7 (by decide) (fun h7 => ?_) (fun h7 => ?_)
      · try first | contradiction | omega
        all_goals
          refine e_iload_n dX6_lightest_51 rfl rfl ?_
          refine e_ret (some _) rfl (r_int dX6_lightest_52 rfl) ?_
          exact xq (by first | rfl | simp_all [bI_t, bI_f]) rfl rfl rfl rfl rfl
      · try first | contradiction | omega
        all_goals
          refine e_iload_n dX6_lightest_10 rfl rfl ?_
          refine e_iload_n dX6_lightest_11 rfl rfl ?_
          first | ((with_reducible refine mk_mo ?_); refine p_icmp_eq (tgt := 45) dX6_lightest_12 (by decide) (fun h12 => ?_) (fun h12 => ?_)) | ((with_reducible refine mk_ms ?_); refine s_icmp_eq (tgt := 45) dX6_lightest_12 (by decide) (by omega) (fun h12 => ?_) (fun h12 => ?_)) | ((with_reducible refine mk_mn ?_); refine q_icmp_eq (tgt := 45) dX6_lightest_12 (by decide) (by omega) (fun h12 => ?_) (fun h12 => ?_)) | ((with_reducible refine mk_nn ?_); refine n_icmp_eq (tgt := 45) dX6_lightest_12 (by decide) (by omega) (by omega) (fun h12 => ?_) (fun h12 => ?_)) | refine e_icmp_eq (tgt := 45) dX6_lightest_12 (by decide) (fun h12 => ?_) (fun h12 => ?_)
          · try first | contradiction | omega
            all_goals
              first | refine n_inc dX6_lightest_45 rfl (Nat.le_of_ble_eq_true rfl) rfl ?_ | refine e_iinc dX6_lightest_45 rfl rfl (Nat.le_of_ble_eq_true rfl) rfl ?_
              refine e_goto (tgt := 4) dX6_lightest_48 (by decide) ?_
              first | (rw [bst_f (c := fun s => decide (w (4 + s) ≠ 0)) (b := fun s q => decide (ldF w s < ldF w q)) (n := j) (by grind), hb] at ih; exact ih) | (rw [bst_0 (c := fun s => decide (w (4 + s) ≠ 0)) (b := fun s q => decide (ldF w s < ldF w q)) (n := j) (by grind) hb] at ih; exact ih)
          · try first | contradiction | omega
            all_goals
              refine e_aload_n dX6_lightest_15 rfl rfl ?_
              refine e_iload_n dX6_lightest_16 rfl rfl ?_
              refine x_V1 (M' := mX6_isUp) dX6_lightest_17 ml_X6_63 ok_X6_isUp (by decide) rfl im_X6_isUp se_X6_isUp (ct_X6_isUp cm iv hP (by omega)) (Nat.le_of_ble_eq_true rfl) (by decide) (Nat.le_of_ble_eq_true rfl) ?_
              first | ((with_reducible refine mk_b ?_); refine b_if_eq (tgt := 45) dX6_lightest_20 (by decide) (fun h20 => ?_) (fun h20 => ?_)) | ((with_reducible refine mk_ll ?_); refine m_if_eq (tgt := 45) dX6_lightest_20 (by decide) (by omega) (by omega) (fun h20 => ?_) (fun h20 => ?_)) | ((with_reducible refine mk_lc ?_); refine l_if_eq (tgt := 45) dX6_lightest_20 (by decide) (fun h20 => ?_) (fun h20 => ?_)) | ((with_reducible refine mk_n ?_); refine n_if_eq (tgt := 45) dX6_lightest_20 (by decide) (by omega) (fun h20 => ?_) (fun h20 => ?_)) | refine e_if_eq (tgt := 45) dX6_lightest_20 (by decide) (fun h20 => ?_) (fun h20 => ?_)
              · try first | contradiction | omega | (simp only [decide_eq_true_eq, decide_eq_false_iff_not] at h20; omega)
                all_goals
                  first | refine n_inc dX6_lightest_45 rfl (Nat.le_of_ble_eq_true rfl) rfl ?_ | refine e_iinc dX6_lightest_45 rfl rfl (Nat.le_of_ble_eq_true rfl) rfl ?_
                  refine e_goto (tgt := 4) dX6_lightest_48 (by decide) ?_
                  first | (rw [bst_f (c := fun s => decide (w (4 + s) ≠ 0)) (b := fun s q => decide (ldF w s < ldF w q)) (n := j) (by grind), hb] at ih; exact ih) | (rw [bst_0 (c := fun s => decide (w (4 + s) ≠ 0)) (b := fun s q => decide (ldF w s < ldF w q)) (n := j) (by grind) hb] at ih; exact ih)
              · try first | contradiction | omega | (simp only [decide_eq_true_eq, decide_eq_false_iff_not] at h20; omega)
                all_goals
                  refine e_iload_n dX6_lightest_23 rfl rfl ?_
                  refine e_iconst (v := -1) dX6_lightest_24 rfl ?_
                  first | ((with_reducible refine mk_mo ?_); refine p_icmp_eq (tgt := 43) dX6_lightest_25 (by decide) (fun h25 => ?_) (fun h25 => ?_)) | ((with_reducible refine mk_ms ?_); refine s_icmp_eq (tgt := 43) dX6_lightest_25 (by decide) (by omega) (fun h25 => ?_) (fun h25 => ?_)) | ((with_reducible refine mk_mn ?_); refine q_icmp_eq (tgt := 43) dX6_lightest_25 (by decide) (by omega) (fun h25 => ?_) (fun h25 => ?_)) | ((with_reducible refine mk_nn ?_); refine n_icmp_eq (tgt := 43) dX6_lightest_25 (by decide) (by omega) (by omega) (fun h25 => ?_) (fun h25 => ?_)) | refine e_icmp_eq (tgt := 43) dX6_lightest_25 (by decide) (fun h25 => ?_) (fun h25 => ?_)
                  · try first | contradiction | omega
                    all_goals
                      refine e_iload_n dX6_lightest_43 rfl rfl ?_
                      refine e_istore_n dX6_lightest_44 rfl (Nat.le_of_ble_eq_true rfl) rfl ?_
                      first | refine n_inc dX6_lightest_45 rfl (Nat.le_of_ble_eq_true rfl) rfl ?_ | refine e_iinc dX6_lightest_45 rfl rfl (Nat.le_of_ble_eq_true rfl) rfl ?_
                      refine e_goto (tgt := 4) dX6_lightest_48 (by decide) ?_
                      first | (rw [bst_f (c := fun s => decide (w (4 + s) ≠ 0)) (b := fun s q => decide (ldF w s < ldF w q)) (n := j) (by grind), hb] at ih; exact ih) | (rw [bst_0 (c := fun s => decide (w (4 + s) ≠ 0)) (b := fun s q => decide (ldF w s < ldF w q)) (n := j) (by grind) hb] at ih; exact ih)
                  · try first | contradiction | omega
                    all_goals
                      refine e_aload_n dX6_lightest_28 rfl rfl ?_
                      refine e_getR dX6_lightest_29 fl_X6_25 rfl (cp_load cm) ?_
                      refine e_iload_n dX6_lightest_32 rfl rfl ?_
                      refine e_iadE _ dX6_lightest_33 ⟨by decide, by decide⟩ rfl rfl (by simp only [lenK]; omega) (pl_ld hP (by omega)) ?_
                      refine e_aload_n dX6_lightest_34 rfl rfl ?_
                      refine e_getR dX6_lightest_35 fl_X6_25 rfl (cp_load cm) ?_
                      refine e_iload_n dX6_lightest_38 rfl rfl ?_
                      refine e_iadE _ dX6_lightest_39 ⟨by decide, by decide⟩ rfl rfl (by simp only [lenK]; omega) (pl_ld hP (by omega)) ?_
                      first | ((with_reducible refine mk_nn ?_); refine n_icmp_ge (tgt := 45) dX6_lightest_40 (by decide) (by omega) (by omega) (fun h40 => ?_) (fun h40 => ?_)) | refine e_icmp_ge (tgt := 45) dX6_lightest_40 (by decide) (fun h40 => ?_) (fun h40 => ?_)
                      · try first | contradiction | omega
                        all_goals
                          first | refine n_inc dX6_lightest_45 rfl (Nat.le_of_ble_eq_true rfl) rfl ?_ | refine e_iinc dX6_lightest_45 rfl rfl (Nat.le_of_ble_eq_true rfl) rfl ?_
                          refine e_goto (tgt := 4) dX6_lightest_48 (by decide) ?_
                          first | (rw [bst_f (c := fun s => decide (w (4 + s) ≠ 0)) (b := fun s q => decide (ldF w s < ldF w q)) (n := j) (by grind), hb] at ih; exact ih) | (rw [bst_0 (c := fun s => decide (w (4 + s) ≠ 0)) (b := fun s q => decide (ldF w s < ldF w q)) (n := j) (by grind) hb] at ih; exact ih)
                      · try first | contradiction | omega
                        all_goals
                          refine e_iload_n dX6_lightest_43 rfl rfl ?_
                          refine e_istore_n dX6_lightest_44 rfl (Nat.le_of_ble_eq_true rfl) rfl ?_
                          first | refine n_inc dX6_lightest_45 rfl (Nat.le_of_ble_eq_true rfl) rfl ?_ | refine e_iinc dX6_lightest_45 rfl rfl (Nat.le_of_ble_eq_true rfl) rfl ?_
                          refine e_goto (tgt := 4) dX6_lightest_48 (by decide) ?_
                          first | (rw [bst_f (c := fun s => decide (w (4 + s) ≠ 0)) (b := fun s q => decide (ldF w s < ldF w q)) (n := j) (by grind), hb] at ih; exact ih) | (rw [bst_0 (c := fun s => decide (w (4 + s) ≠ 0)) (b := fun s q => decide (ldF w s < ldF w q)) (n := j) (by grind) hb] at ih; exact ih)
    | some q =>
      have hq := (bst_in hb).1
      have hqc := (bst_in hb).2
      rw [oI_s]
      have hld2 := ldF_le2 iv q
      refine e_iload_n dX6_lightest_4 rfl rfl ?_
      refine e_bipush (v := nI 6) dX6_lightest_5 rfl ?_
      first | ((with_reducible refine mk_nn ?_); refine n_icmp_ge (tgt := 51) dX6_lightest_7 (by decide) (by omega) (by omega) (fun h7 => ?_) (fun h7 => ?_)) | refine e_icmp_ge (tgt := 51) dX6_lightest_7 (by decide) (fun h7 => ?_) (fun h7 => ?_)
      · try first | contradiction | omega
        all_goals
          refine e_iload_n dX6_lightest_51 rfl rfl ?_
          refine e_ret (some _) rfl (r_int dX6_lightest_52 rfl) ?_
          exact xq (by first | rfl | simp_all [bI_t, bI_f]) rfl rfl rfl rfl rfl
      · try first | contradiction | omega
        all_goals
          refine e_iload_n dX6_lightest_10 rfl rfl ?_
          refine e_iload_n dX6_lightest_11 rfl rfl ?_
          first | ((with_reducible refine mk_mo ?_); refine p_icmp_eq (tgt := 45) dX6_lightest_12 (by decide) (fun h12 => ?_) (fun h12 => ?_)) | ((with_reducible refine mk_ms ?_); refine s_icmp_eq (tgt := 45) dX6_lightest_12 (by decide) (by omega) (fun h12 => ?_) (fun h12 => ?_)) | ((with_reducible refine mk_mn ?_); refine q_icmp_eq (tgt := 45) dX6_lightest_12 (by decide) (by omega) (fun h12 => ?_) (fun h12 => ?_)) | ((with_reducible refine mk_nn ?_); refine n_icmp_eq (tgt := 45) dX6_lightest_12 (by decide) (by omega) (by omega) (fun h12 => ?_) (fun h12 => ?_)) | refine e_icmp_eq (tgt := 45) dX6_lightest_12 (by decide) (fun h12 => ?_) (fun h12 => ?_)
          · try first | contradiction | omega
            all_goals
              first | refine n_inc dX6_lightest_45 rfl (Nat.le_of_ble_eq_true rfl) rfl ?_ | refine e_iinc dX6_lightest_45 rfl rfl (Nat.le_of_ble_eq_true rfl) rfl ?_
              refine e_goto (tgt := 4) dX6_lightest_48 (by decide) ?_
              first | (rw [bst_f (c := fun s => decide (w (4 + s) ≠ 0)) (b := fun s q => decide (ldF w s < ldF w q)) (n := j) (by grind), hb] at ih; exact ih) | (rw [bst_0 (c := fun s => decide (w (4 + s) ≠ 0)) (b := fun s q => decide (ldF w s < ldF w q)) (n := j) (by grind) hb] at ih; exact ih) | (rw [bst_1 (c := fun s => decide (w (4 + s) ≠ 0)) (b := fun s q => decide (ldF w s < ldF w q)) (n := j) (by grind) hb (by grind)] at ih; exact ih) | (rw [bst_2 (c := fun s => decide (w (4 + s) ≠ 0)) (b := fun s q => decide (ldF w s < ldF w q)) (n := j) (by grind) hb (by grind)] at ih; exact ih)
          · try first | contradiction | omega
            all_goals
              refine e_aload_n dX6_lightest_15 rfl rfl ?_
              refine e_iload_n dX6_lightest_16 rfl rfl ?_
              refine x_V1 (M' := mX6_isUp) dX6_lightest_17 ml_X6_63 ok_X6_isUp (by decide) rfl im_X6_isUp se_X6_isUp (ct_X6_isUp cm iv hP (by omega)) (Nat.le_of_ble_eq_true rfl) (by decide) (Nat.le_of_ble_eq_true rfl) ?_
              first | ((with_reducible refine mk_b ?_); refine b_if_eq (tgt := 45) dX6_lightest_20 (by decide) (fun h20 => ?_) (fun h20 => ?_)) | ((with_reducible refine mk_ll ?_); refine m_if_eq (tgt := 45) dX6_lightest_20 (by decide) (by omega) (by omega) (fun h20 => ?_) (fun h20 => ?_)) | ((with_reducible refine mk_lc ?_); refine l_if_eq (tgt := 45) dX6_lightest_20 (by decide) (fun h20 => ?_) (fun h20 => ?_)) | ((with_reducible refine mk_n ?_); refine n_if_eq (tgt := 45) dX6_lightest_20 (by decide) (by omega) (fun h20 => ?_) (fun h20 => ?_)) | refine e_if_eq (tgt := 45) dX6_lightest_20 (by decide) (fun h20 => ?_) (fun h20 => ?_)
              · try first | contradiction | omega | (simp only [decide_eq_true_eq, decide_eq_false_iff_not] at h20; omega)
                all_goals
                  first | refine n_inc dX6_lightest_45 rfl (Nat.le_of_ble_eq_true rfl) rfl ?_ | refine e_iinc dX6_lightest_45 rfl rfl (Nat.le_of_ble_eq_true rfl) rfl ?_
                  refine e_goto (tgt := 4) dX6_lightest_48 (by decide) ?_
                  first | (rw [bst_f (c := fun s => decide (w (4 + s) ≠ 0)) (b := fun s q => decide (ldF w s < ldF w q)) (n := j) (by grind), hb] at ih; exact ih) | (rw [bst_0 (c := fun s => decide (w (4 + s) ≠ 0)) (b := fun s q => decide (ldF w s < ldF w q)) (n := j) (by grind) hb] at ih; exact ih) | (rw [bst_1 (c := fun s => decide (w (4 + s) ≠ 0)) (b := fun s q => decide (ldF w s < ldF w q)) (n := j) (by grind) hb (by grind)] at ih; exact ih) | (rw [bst_2 (c := fun s => decide (w (4 + s) ≠ 0)) (b := fun s q => decide (ldF w s < ldF w q)) (n := j) (by grind) hb (by grind)] at ih; exact ih)
              · try first | contradiction | omega | (simp only [decide_eq_true_eq, decide_eq_false_iff_not] at h20; omega)
                all_goals
                  refine e_iload_n dX6_lightest_23 rfl rfl ?_
                  refine e_iconst (v := -1) dX6_lightest_24 rfl ?_
                  first | ((with_reducible refine mk_mo ?_); refine p_icmp_eq (tgt := 43) dX6_lightest_25 (by decide) (fun h25 => ?_) (fun h25 => ?_)) | ((with_reducible refine mk_ms ?_); refine s_icmp_eq (tgt := 43) dX6_lightest_25 (by decide) (by omega) (fun h25 => ?_) (fun h25 => ?_)) | ((with_reducible refine mk_mn ?_); refine q_icmp_eq (tgt := 43) dX6_lightest_25 (by decide) (by omega) (fun h25 => ?_) (fun h25 => ?_)) | ((with_reducible refine mk_nn ?_); refine n_icmp_eq (tgt := 43) dX6_lightest_25 (by decide) (by omega) (by omega) (fun h25 => ?_) (fun h25 => ?_)) | refine e_icmp_eq (tgt := 43) dX6_lightest_25 (by decide) (fun h25 => ?_) (fun h25 => ?_)
                  · try first | contradiction | omega
                    all_goals
                      refine e_iload_n dX6_lightest_43 rfl rfl ?_
                      refine e_istore_n dX6_lightest_44 rfl (Nat.le_of_ble_eq_true rfl) rfl ?_
                      first | refine n_inc dX6_lightest_45 rfl (Nat.le_of_ble_eq_true rfl) rfl ?_ | refine e_iinc dX6_lightest_45 rfl rfl (Nat.le_of_ble_eq_true rfl) rfl ?_
                      refine e_goto (tgt := 4) dX6_lightest_48 (by decide) ?_
                      first | (rw [bst_f (c := fun s => decide (w (4 + s) ≠ 0)) (b := fun s q => decide (ldF w s < ldF w q)) (n := j) (by grind), hb] at ih; exact ih) | (rw [bst_0 (c := fun s => decide (w (4 + s) ≠ 0)) (b := fun s q => decide (ldF w s < ldF w q)) (n := j) (by grind) hb] at ih; exact ih) | (rw [bst_1 (c := fun s => decide (w (4 + s) ≠ 0)) (b := fun s q => decide (ldF w s < ldF w q)) (n := j) (by grind) hb (by grind)] at ih; exact ih) | (rw [bst_2 (c := fun s => decide (w (4 + s) ≠ 0)) (b := fun s q => decide (ldF w s < ldF w q)) (n := j) (by grind) hb (by grind)] at ih; exact ih)
                  · try first | contradiction | omega
                    all_goals
                      refine e_aload_n dX6_lightest_28 rfl rfl ?_
                      refine e_getR dX6_lightest_29 fl_X6_25 rfl (cp_load cm) ?_
                      refine e_iload_n dX6_lightest_32 rfl rfl ?_
                      refine e_iadE _ dX6_lightest_33 ⟨by decide, by decide⟩ rfl rfl (by simp only [lenK]; omega) (pl_ld hP (by omega)) ?_
                      refine e_aload_n dX6_lightest_34 rfl rfl ?_
                      refine e_getR dX6_lightest_35 fl_X6_25 rfl (cp_load cm) ?_
                      refine e_iload_n dX6_lightest_38 rfl rfl ?_
                      refine e_iadE _ dX6_lightest_39 ⟨by decide, by decide⟩ rfl rfl (by simp only [lenK]; omega) (pl_ld hP (by omega)) ?_
                      first | ((with_reducible refine mk_nn ?_); refine n_icmp_ge (tgt := 45) dX6_lightest_40 (by decide) (by omega) (by omega) (fun h40 => ?_) (fun h40 => ?_)) | refine e_icmp_ge (tgt := 45) dX6_lightest_40 (by decide) (fun h40 => ?_) (fun h40 => ?_)
                      · try first | contradiction | omega
                        all_goals
                          first | refine n_inc dX6_lightest_45 rfl (Nat.le_of_ble_eq_true rfl) rfl ?_ | refine e_iinc dX6_lightest_45 rfl rfl (Nat.le_of_ble_eq_true rfl) rfl ?_
                          refine e_goto (tgt := 4) dX6_lightest_48 (by decide) ?_
                          first | (rw [bst_f (c := fun s => decide (w (4 + s) ≠ 0)) (b := fun s q => decide (ldF w s < ldF w q)) (n := j) (by grind), hb] at ih; exact ih) | (rw [bst_0 (c := fun s => decide (w (4 + s) ≠ 0)) (b := fun s q => decide (ldF w s < ldF w q)) (n := j) (by grind) hb] at ih; exact ih) | (rw [bst_1 (c := fun s => decide (w (4 + s) ≠ 0)) (b := fun s q => decide (ldF w s < ldF w q)) (n := j) (by grind) hb (by grind)] at ih; exact ih) | (rw [bst_2 (c := fun s => decide (w (4 + s) ≠ 0)) (b := fun s q => decide (ldF w s < ldF w q)) (n := j) (by grind) hb (by grind)] at ih; exact ih)
                      · try first | contradiction | omega
                        all_goals
                          refine e_iload_n dX6_lightest_43 rfl rfl ?_
                          refine e_istore_n dX6_lightest_44 rfl (Nat.le_of_ble_eq_true rfl) rfl ?_
                          first | refine n_inc dX6_lightest_45 rfl (Nat.le_of_ble_eq_true rfl) rfl ?_ | refine e_iinc dX6_lightest_45 rfl rfl (Nat.le_of_ble_eq_true rfl) rfl ?_
                          refine e_goto (tgt := 4) dX6_lightest_48 (by decide) ?_
                          first | (rw [bst_f (c := fun s => decide (w (4 + s) ≠ 0)) (b := fun s q => decide (ldF w s < ldF w q)) (n := j) (by grind), hb] at ih; exact ih) | (rw [bst_0 (c := fun s => decide (w (4 + s) ≠ 0)) (b := fun s q => decide (ldF w s < ldF w q)) (n := j) (by grind) hb] at ih; exact ih) | (rw [bst_1 (c := fun s => decide (w (4 + s) ≠ 0)) (b := fun s q => decide (ldF w s < ldF w q)) (n := j) (by grind) hb (by grind)] at ih; exact ih) | (rw [bst_2 (c := fun s => decide (w (4 + s) ≠ 0)) (b := fun s q => decide (ldF w s < ldF w q)) (n := j) (by grind) hb (by grind)] at ih; exact ih)
    ) (by
    refine e_iload_n dX6_lightest_4 rfl rfl ?_
    refine e_bipush (v := nI 6) dX6_lightest_5 rfl ?_
    first | ((with_reducible refine mk_nn ?_); refine n_icmp_ge (tgt := 51) dX6_lightest_7 (by decide) (by omega) (by omega) (fun h7 => ?_) (fun h7 => ?_)) | refine e_icmp_ge (tgt := 51) dX6_lightest_7 (by decide) (fun h7 => ?_) (fun h7 => ?_)
    · try first | contradiction | omega
      all_goals
        refine e_iload_n dX6_lightest_51 rfl rfl ?_
        refine e_ret (some _) rfl (r_int dX6_lightest_52 rfl) ?_
        exact xq rfl rfl rfl rfl rfl rfl
    · try first | contradiction | omega
      all_goals
        refine e_iload_n dX6_lightest_10 rfl rfl ?_
        refine e_iload_n dX6_lightest_11 rfl rfl ?_
        first | ((with_reducible refine mk_mo ?_); refine p_icmp_eq (tgt := 45) dX6_lightest_12 (by decide) (fun h12 => ?_) (fun h12 => ?_)) | ((with_reducible refine mk_ms ?_); refine s_icmp_eq (tgt := 45) dX6_lightest_12 (by decide) (by omega) (fun h12 => ?_) (fun h12 => ?_)) | ((with_reducible refine mk_mn ?_); refine q_icmp_eq (tgt := 45) dX6_lightest_12 (by decide) (by omega) (fun h12 => ?_) (fun h12 => ?_)) | ((with_reducible refine mk_nn ?_); refine n_icmp_eq (tgt := 45) dX6_lightest_12 (by decide) (by omega) (by omega) (fun h12 => ?_) (fun h12 => ?_)) | refine e_icmp_eq (tgt := 45) dX6_lightest_12 (by decide) (fun h12 => ?_) (fun h12 => ?_)
        · try first | contradiction | omega
          all_goals
            first | refine n_inc dX6_lightest_45 rfl (Nat.le_of_ble_eq_true rfl) rfl ?_ | refine e_iinc dX6_lightest_45 rfl rfl (Nat.le_of_ble_eq_true rfl) rfl ?_
            refine e_goto (tgt := 4) dX6_lightest_48 (by decide) ?_
            first | (rw [bst_f (c := fun s => decide (w (4 + s) ≠ 0)) (b := fun s q => decide (ldF w s < ldF w q)) (n := j) (by grind), hb] at ih; exact ih) | (rw [bst_0 (c := fun s => decide (w (4 + s) ≠ 0)) (b := fun s q => decide (ldF w s < ldF w q)) (n := j) (by grind) hb] at ih; exact ih) | (rw [bst_1 (c := fun s => decide (w (4 + s) ≠ 0)) (b := fun s q => decide (ldF w s < ldF w q)) (n := j) (by grind) hb (by grind)] at ih; exact ih) | (rw [bst_2 (c := fun s => decide (w (4 + s) ≠ 0)) (b := fun s q => decide (ldF w s < ldF w q)) (n := j) (by grind) hb (by grind)] at ih; exact ih)
        · try first | contradiction | omega
          all_goals
            refine e_aload_n dX6_lightest_15 rfl rfl ?_
            refine e_iload_n dX6_lightest_16 rfl rfl ?_
            refine x_V1 (M' := mX6_isUp) dX6_lightest_17 ml_X6_63 ok_X6_isUp (by decide) rfl im_X6_isUp se_X6_isUp (ct_X6_isUp cm iv hP (by omega)) (Nat.le_of_ble_eq_true rfl) (by decide) (Nat.le_of_ble_eq_true rfl) ?_
            first | ((with_reducible refine mk_b ?_); refine b_if_eq (tgt := 45) dX6_lightest_20 (by decide) (fun h20 => ?_) (fun h20 => ?_)) | ((with_reducible refine mk_ll ?_); refine m_if_eq (tgt := 45) dX6_lightest_20 (by decide) (by omega) (by omega) (fun h20 => ?_) (fun h20 => ?_)) | ((with_reducible refine mk_lc ?_); refine l_if_eq (tgt := 45) dX6_lightest_20 (by decide) (fun h20 => ?_) (fun h20 => ?_)) | ((with_reducible refine mk_n ?_); refine n_if_eq (tgt := 45) dX6_lightest_20 (by decide) (by omega) (fun h20 => ?_) (fun h20 => ?_)) | refine e_if_eq (tgt := 45) dX6_lightest_20 (by decide) (fun h20 => ?_) (fun h20 => ?_)
            · try first | contradiction | omega | (simp only [decide_eq_true_eq, decide_eq_false_iff_not] at h20; omega)
              all_goals
                first | refine n_inc dX6_lightest_45 rfl (Nat.le_of_ble_eq_true rfl) rfl ?_ | refine e_iinc dX6_lightest_45 rfl rfl (Nat.le_of_ble_eq_true rfl) rfl ?_
                refine e_goto (tgt := 4) dX6_lightest_48 (by decide) ?_
                first | (rw [bst_f (c := fun s => decide (w (4 + s) ≠ 0)) (b := fun s q => decide (ldF w s < ldF w q)) (n := j) (by grind), hb] at ih; exact ih) | (rw [bst_0 (c := fun s => decide (w (4 + s) ≠ 0)) (b := fun s q => decide (ldF w s < ldF w q)) (n := j) (by grind) hb] at ih; exact ih) | (rw [bst_1 (c := fun s => decide (w (4 + s) ≠ 0)) (b := fun s q => decide (ldF w s < ldF w q)) (n := j) (by grind) hb (by grind)] at ih; exact ih) | (rw [bst_2 (c := fun s => decide (w (4 + s) ≠ 0)) (b := fun s q => decide (ldF w s < ldF w q)) (n := j) (by grind) hb (by grind)] at ih; exact ih)
            · try first | contradiction | omega | (simp only [decide_eq_true_eq, decide_eq_false_iff_not] at h20; omega)
              all_goals
                refine e_iload_n dX6_lightest_23 rfl rfl ?_
                refine e_iconst (v := -1) dX6_lightest_24 rfl ?_
                first | ((with_reducible refine mk_mo ?_); refine p_icmp_eq (tgt := 43) dX6_lightest_25 (by decide) (fun h25 => ?_) (fun h25 => ?_)) | ((with_reducible refine mk_ms ?_); refine s_icmp_eq (tgt := 43) dX6_lightest_25 (by decide) (by omega) (fun h25 => ?_) (fun h25 => ?_)) | ((with_reducible refine mk_mn ?_); refine q_icmp_eq (tgt := 43) dX6_lightest_25 (by decide) (by omega) (fun h25 => ?_) (fun h25 => ?_)) | ((with_reducible refine mk_nn ?_); refine n_icmp_eq (tgt := 43) dX6_lightest_25 (by decide) (by omega) (by omega) (fun h25 => ?_) (fun h25 => ?_)) | refine e_icmp_eq (tgt := 43) dX6_lightest_25 (by decide) (fun h25 => ?_) (fun h25 => ?_)
                · try first | contradiction | omega
                  all_goals
                    refine e_iload_n dX6_lightest_43 rfl rfl ?_
                    refine e_istore_n dX6_lightest_44 rfl (Nat.le_of_ble_eq_true rfl) rfl ?_
                    first | refine n_inc dX6_lightest_45 rfl (Nat.le_of_ble_eq_true rfl) rfl ?_ | refine e_iinc dX6_lightest_45 rfl rfl (Nat.le_of_ble_eq_true rfl) rfl ?_
                    refine e_goto (tgt := 4) dX6_lightest_48 (by decide) ?_
                    first | (rw [bst_f (c := fun s => decide (w (4 + s) ≠ 0)) (b := fun s q => decide (ldF w s < ldF w q)) (n := j) (by grind), hb] at ih; exact ih) | (rw [bst_0 (c := fun s => decide (w (4 + s) ≠ 0)) (b := fun s q => decide (ldF w s < ldF w q)) (n := j) (by grind) hb] at ih; exact ih) | (rw [bst_1 (c := fun s => decide (w (4 + s) ≠ 0)) (b := fun s q => decide (ldF w s < ldF w q)) (n := j) (by grind) hb (by grind)] at ih; exact ih) | (rw [bst_2 (c := fun s => decide (w (4 + s) ≠ 0)) (b := fun s q => decide (ldF w s < ldF w q)) (n := j) (by grind) hb (by grind)] at ih; exact ih)
                · try first | contradiction | omega
                  all_goals
                    refine e_aload_n dX6_lightest_28 rfl rfl ?_
                    refine e_getR dX6_lightest_29 fl_X6_25 rfl (cp_load cm) ?_
                    refine e_iload_n dX6_lightest_32 rfl rfl ?_
                    refine e_iadE _ dX6_lightest_33 ⟨by decide, by decide⟩ rfl rfl (by simp only [lenK]; omega) (pl_ld hP (by omega)) ?_
                    refine e_aload_n dX6_lightest_34 rfl rfl ?_
                    refine e_getR dX6_lightest_35 fl_X6_25 rfl (cp_load cm) ?_
                    refine e_iload_n dX6_lightest_38 rfl rfl ?_
                    refine e_iadE _ dX6_lightest_39 ⟨by decide, by decide⟩ rfl rfl (by simp only [lenK]; omega) (pl_ld hP (by omega)) ?_
                    first | ((with_reducible refine mk_nn ?_); refine n_icmp_ge (tgt := 45) dX6_lightest_40 (by decide) (by omega) (by omega) (fun h40 => ?_) (fun h40 => ?_)) | refine e_icmp_ge (tgt := 45) dX6_lightest_40 (by decide) (fun h40 => ?_) (fun h40 => ?_)
                    · try first | contradiction | omega
                      all_goals
                        first | refine n_inc dX6_lightest_45 rfl (Nat.le_of_ble_eq_true rfl) rfl ?_ | refine e_iinc dX6_lightest_45 rfl rfl (Nat.le_of_ble_eq_true rfl) rfl ?_
                        refine e_goto (tgt := 4) dX6_lightest_48 (by decide) ?_
                        first | (rw [bst_f (c := fun s => decide (w (4 + s) ≠ 0)) (b := fun s q => decide (ldF w s < ldF w q)) (n := j) (by grind), hb] at ih; exact ih) | (rw [bst_0 (c := fun s => decide (w (4 + s) ≠ 0)) (b := fun s q => decide (ldF w s < ldF w q)) (n := j) (by grind) hb] at ih; exact ih) | (rw [bst_1 (c := fun s => decide (w (4 + s) ≠ 0)) (b := fun s q => decide (ldF w s < ldF w q)) (n := j) (by grind) hb (by grind)] at ih; exact ih) | (rw [bst_2 (c := fun s => decide (w (4 + s) ≠ 0)) (b := fun s q => decide (ldF w s < ldF w q)) (n := j) (by grind) hb (by grind)] at ih; exact ih)
                    · try first | contradiction | omega
                      all_goals
                        refine e_iload_n dX6_lightest_43 rfl rfl ?_
                        refine e_istore_n dX6_lightest_44 rfl (Nat.le_of_ble_eq_true rfl) rfl ?_
                        first | refine n_inc dX6_lightest_45 rfl (Nat.le_of_ble_eq_true rfl) rfl ?_ | refine e_iinc dX6_lightest_45 rfl rfl (Nat.le_of_ble_eq_true rfl) rfl ?_
                        refine e_goto (tgt := 4) dX6_lightest_48 (by decide) ?_
                        first | (rw [bst_f (c := fun s => decide (w (4 + s) ≠ 0)) (b := fun s q => decide (ldF w s < ldF w q)) (n := j) (by grind), hb] at ih; exact ih) | (rw [bst_0 (c := fun s => decide (w (4 + s) ≠ 0)) (b := fun s q => decide (ldF w s < ldF w q)) (n := j) (by grind) hb] at ih; exact ih) | (rw [bst_1 (c := fun s => decide (w (4 + s) ≠ 0)) (b := fun s q => decide (ldF w s < ldF w q)) (n := j) (by grind) hb (by grind)] at ih; exact ih) | (rw [bst_2 (c := fun s => decide (w (4 + s) ≠ 0)) (b := fun s q => decide (ldF w s < ldF w q)) (n := j) (by grind) hb (by grind)] at ih; exact ih)
    )
  refine e_iconst (v := -1) dX6_lightest_0 rfl ?_
  refine e_istore_n dX6_lightest_1 rfl (Nat.le_of_ble_eq_true rfl) rfl ?_
  refine e_iconst (v := nI 0) dX6_lightest_2 rfl ?_
  refine e_istore_n dX6_lightest_3 rfl (Nat.le_of_ble_eq_true rfl) rfl ?_
  exact key 0 (by omega)
theorem ct_lightestB {fi : FI} {fr : FR} {ai : FI} {ar : FR} {N : Nat} {w : Nat → Nat} (cm : CM fr ar) (iv : Inv w) (hP : PL fi ai w) {u : Nat} (hu6 : u < 6) : CP mX6_lightest 1 0 0 [.ref (rf 6 65), .int (nI u)] fi fr ai ar N (xQ (some (.int (oI (obL w u)))) fi fr ai ar N) := by
  have h1 := iv_n iv
  have h3 := iv_mm iv
  have bd := Bd_iv iv
  have hF : FR1 fi ai fi ai := FR1_rf
  change EV mX6_lightest 1 0 0 0 [some (.ref (rf 6 65)), some (.int (nI u)), none, none] [] fi fr ai ar N (xQ (some (.int (oI (obL w u)))) fi fr ai ar N)
  have key := ev_up (P := (fun j => EV mX6_lightest 1 0 0 4 [some (.ref (rf 6 65)), some (.int (nI u)), some (.int (oI (bst (fun s => decide (w (4 + s) ≠ 0) && decide (s ≠ u)) (fun s q => decide (ldF w s < ldF w q)) j))), some (.int (nI j))] [] fi fr ai ar N (xQ (some (.int (oI (obL w u)))) fi fr ai ar N))) (6) (fun j hj ih => by
    have hu := iv_up iv hj
    have hld := ldF_le2 iv j
    cases hb : bst (fun s => decide (w (4 + s) ≠ 0) && decide (s ≠ u)) (fun s q => decide (ldF w s < ldF w q)) j with
    | none =>
      refine e_iload_n dX6_lightest_4 rfl rfl ?_
      refine e_bipush (v := nI 6) dX6_lightest_5 rfl ?_
      first | ((with_reducible refine mk_nn ?_); refine n_icmp_ge (tgt := 51) dX6_lightest_7 (by decide) (by omega) (by omega) (fun h7 => ?_) (fun h7 => ?_)) | refine e_icmp_ge (tgt := 51) dX6_lightest_7 (by decide) (fun h7 => ?_) (fun h7 => ?_)
      · try first | contradiction | omega
        all_goals
          refine e_iload_n dX6_lightest_51 rfl rfl ?_
          refine e_ret (some _) rfl (r_int dX6_lightest_52 rfl) ?_
          exact xq (by first | rfl | simp_all [bI_t, bI_f]) rfl rfl rfl rfl rfl
      · try first | contradiction | omega
        all_goals
          refine e_iload_n dX6_lightest_10 rfl rfl ?_
          refine e_iload_n dX6_lightest_11 rfl rfl ?_
          first | ((with_reducible refine mk_mo ?_); refine p_icmp_eq (tgt := 45) dX6_lightest_12 (by decide) (fun h12 => ?_) (fun h12 => ?_)) | ((with_reducible refine mk_ms ?_); refine s_icmp_eq (tgt := 45) dX6_lightest_12 (by decide) (by omega) (fun h12 => ?_) (fun h12 => ?_)) | ((with_reducible refine mk_mn ?_); refine q_icmp_eq (tgt := 45) dX6_lightest_12 (by decide) (by omega) (fun h12 => ?_) (fun h12 => ?_)) | ((with_reducible refine mk_nn ?_); refine n_icmp_eq (tgt := 45) dX6_lightest_12 (by decide) (by omega) (by omega) (fun h12 => ?_) (fun h12 => ?_)) | refine e_icmp_eq (tgt := 45) dX6_lightest_12 (by decide) (fun h12 => ?_) (fun h12 => ?_)
          · try first | contradiction | omega
            all_goals
              first | refine n_inc dX6_lightest_45 rfl (Nat.le_of_ble_eq_true rfl) rfl ?_ | refine e_iinc dX6_lightest_45 rfl rfl (Nat.le_of_ble_eq_true rfl) rfl ?_
              refine e_goto (tgt := 4) dX6_lightest_48 (by decide) ?_
              first | (rw [bst_f (c := fun s => decide (w (4 + s) ≠ 0) && decide (s ≠ u)) (b := fun s q => decide (ldF w s < ldF w q)) (n := j) (by grind), hb] at ih; exact ih) | (rw [bst_0 (c := fun s => decide (w (4 + s) ≠ 0) && decide (s ≠ u)) (b := fun s q => decide (ldF w s < ldF w q)) (n := j) (by grind) hb] at ih; exact ih)
          · try first | contradiction | omega
            all_goals
              refine e_aload_n dX6_lightest_15 rfl rfl ?_
              refine e_iload_n dX6_lightest_16 rfl rfl ?_
              refine x_V1 (M' := mX6_isUp) dX6_lightest_17 ml_X6_63 ok_X6_isUp (by decide) rfl im_X6_isUp se_X6_isUp (ct_X6_isUp cm iv hP (by omega)) (Nat.le_of_ble_eq_true rfl) (by decide) (Nat.le_of_ble_eq_true rfl) ?_
              first | ((with_reducible refine mk_b ?_); refine b_if_eq (tgt := 45) dX6_lightest_20 (by decide) (fun h20 => ?_) (fun h20 => ?_)) | ((with_reducible refine mk_ll ?_); refine m_if_eq (tgt := 45) dX6_lightest_20 (by decide) (by omega) (by omega) (fun h20 => ?_) (fun h20 => ?_)) | ((with_reducible refine mk_lc ?_); refine l_if_eq (tgt := 45) dX6_lightest_20 (by decide) (fun h20 => ?_) (fun h20 => ?_)) | ((with_reducible refine mk_n ?_); refine n_if_eq (tgt := 45) dX6_lightest_20 (by decide) (by omega) (fun h20 => ?_) (fun h20 => ?_)) | refine e_if_eq (tgt := 45) dX6_lightest_20 (by decide) (fun h20 => ?_) (fun h20 => ?_)
              · try first | contradiction | omega | (simp only [decide_eq_true_eq, decide_eq_false_iff_not] at h20; omega)
                all_goals
                  first | refine n_inc dX6_lightest_45 rfl (Nat.le_of_ble_eq_true rfl) rfl ?_ | refine e_iinc dX6_lightest_45 rfl rfl (Nat.le_of_ble_eq_true rfl) rfl ?_
                  refine e_goto (tgt := 4) dX6_lightest_48 (by decide) ?_
                  first | (rw [bst_f (c := fun s => decide (w (4 + s) ≠ 0) && decide (s ≠ u)) (b := fun s q => decide (ldF w s < ldF w q)) (n := j) (by grind), hb] at ih; exact ih) | (rw [bst_0 (c := fun s => decide (w (4 + s) ≠ 0) && decide (s ≠ u)) (b := fun s q => decide (ldF w s < ldF w q)) (n := j) (by grind) hb] at ih; exact ih)
              · try first | contradiction | omega | (simp only [decide_eq_true_eq, decide_eq_false_iff_not] at h20; omega)
                all_goals
                  refine e_iload_n dX6_lightest_23 rfl rfl ?_
                  refine e_iconst (v := -1) dX6_lightest_24 rfl ?_
                  first | ((with_reducible refine mk_mo ?_); refine p_icmp_eq (tgt := 43) dX6_lightest_25 (by decide) (fun h25 => ?_) (fun h25 => ?_)) | ((with_reducible refine mk_ms ?_); refine s_icmp_eq (tgt := 43) dX6_lightest_25 (by decide) (by omega) (fun h25 => ?_) (fun h25 => ?_)) | ((with_reducible refine mk_mn ?_); refine q_icmp_eq (tgt := 43) dX6_lightest_25 (by decide) (by omega) (fun h25 => ?_) (fun h25 => ?_)) | ((with_reducible refine mk_nn ?_); refine n_icmp_eq (tgt := 43) dX6_lightest_25 (by decide) (by omega) (by omega) (fun h25 => ?_) (fun h25 => ?_)) | refine e_icmp_eq (tgt := 43) dX6_lightest_25 (by decide) (fun h25 => ?_) (fun h25 => ?_)
                  · try first | contradiction | omega
                    all_goals
                      refine e_iload_n dX6_lightest_43 rfl rfl ?_
                      refine e_istore_n dX6_lightest_44 rfl (Nat.le_of_ble_eq_true rfl) rfl ?_
                      first | refine n_inc dX6_lightest_45 rfl (Nat.le_of_ble_eq_true rfl) rfl ?_ | refine e_iinc dX6_lightest_45 rfl rfl (Nat.le_of_ble_eq_true rfl) rfl ?_
                      refine e_goto (tgt := 4) dX6_lightest_48 (by decide) ?_
                      first | (rw [bst_f (c := fun s => decide (w (4 + s) ≠ 0) && decide (s ≠ u)) (b := fun s q => decide (ldF w s < ldF w q)) (n := j) (by grind), hb] at ih; exact ih) | (rw [bst_0 (c := fun s => decide (w (4 + s) ≠ 0) && decide (s ≠ u)) (b := fun s q => decide (ldF w s < ldF w q)) (n := j) (by grind) hb] at ih; exact ih)
                  · try first | contradiction | omega
                    all_goals
                      refine e_aload_n dX6_lightest_28 rfl rfl ?_
                      refine e_getR dX6_lightest_29 fl_X6_25 rfl (cp_load cm) ?_
                      refine e_iload_n dX6_lightest_32 rfl rfl ?_
                      refine e_iadE _ dX6_lightest_33 ⟨by decide, by decide⟩ rfl rfl (by simp only [lenK]; omega) (pl_ld hP (by omega)) ?_
                      refine e_aload_n dX6_lightest_34 rfl rfl ?_
                      refine e_getR dX6_lightest_35 fl_X6_25 rfl (cp_load cm) ?_
                      refine e_iload_n dX6_lightest_38 rfl rfl ?_
                      refine e_iadE _ dX6_lightest_39 ⟨by decide, by decide⟩ rfl rfl (by simp only [lenK]; omega) (pl_ld hP (by omega)) ?_
                      first | ((with_reducible refine mk_nn ?_); refine n_icmp_ge (tgt := 45) dX6_lightest_40 (by decide) (by omega) (by omega) (fun h40 => ?_) (fun h40 => ?_)) | refine e_icmp_ge (tgt := 45) dX6_lightest_40 (by decide) (fun h40 => ?_) (fun h40 => ?_)
                      · try first | contradiction | omega
                        all_goals
                          first | refine n_inc dX6_lightest_45 rfl (Nat.le_of_ble_eq_true rfl) rfl ?_ | refine e_iinc dX6_lightest_45 rfl rfl (Nat.le_of_ble_eq_true rfl) rfl ?_
                          refine e_goto (tgt := 4) dX6_lightest_48 (by decide) ?_
                          first | (rw [bst_f (c := fun s => decide (w (4 + s) ≠ 0) && decide (s ≠ u)) (b := fun s q => decide (ldF w s < ldF w q)) (n := j) (by grind), hb] at ih; exact ih) | (rw [bst_0 (c := fun s => decide (w (4 + s) ≠ 0) && decide (s ≠ u)) (b := fun s q => decide (ldF w s < ldF w q)) (n := j) (by grind) hb] at ih; exact ih)
                      · try first | contradiction | omega
                        all_goals
                          refine e_iload_n dX6_lightest_43 rfl rfl ?_
                          refine e_istore_n dX6_lightest_44 rfl (Nat.le_of_ble_eq_true rfl) rfl ?_
                          first | refine n_inc dX6_lightest_45 rfl (Nat.le_of_ble_eq_true rfl) rfl ?_ | refine e_iinc dX6_lightest_45 rfl rfl (Nat.le_of_ble_eq_true rfl) rfl ?_
                          refine e_goto (tgt := 4) dX6_lightest_48 (by decide) ?_
                          first | (rw [bst_f (c := fun s => decide (w (4 + s) ≠ 0) && decide (s ≠ u)) (b := fun s q => decide (ldF w s < ldF w q)) (n := j) (by grind), hb] at ih; exact ih) | (rw [bst_0 (c := fun s => decide (w (4 + s) ≠ 0) && decide (s ≠ u)) (b := fun s q => decide (ldF w s < ldF w q)) (n := j) (by grind) hb] at ih; exact ih)
    | some q =>
      have hq := (bst_in hb).1
      have hqc := (bst_in hb).2
      rw [oI_s]
      have hld2 := ldF_le2 iv q
      refine e_iload_n dX6_lightest_4 rfl rfl ?_
      refine e_bipush (v := nI 6) dX6_lightest_5 rfl ?_
      first | ((with_reducible refine mk_nn ?_); refine n_icmp_ge (tgt := 51) dX6_lightest_7 (by decide) (by omega) (by omega) (fun h7 => ?_) (fun h7 => ?_)) | refine e_icmp_ge (tgt := 51) dX6_lightest_7 (by decide) (fun h7 => ?_) (fun h7 => ?_)
      · try first | contradiction | omega
        all_goals
          refine e_iload_n dX6_lightest_51 rfl rfl ?_
          refine e_ret (some _) rfl (r_int dX6_lightest_52 rfl) ?_
          exact xq (by first | rfl | simp_all [bI_t, bI_f]) rfl rfl rfl rfl rfl
      · try first | contradiction | omega
        all_goals
          refine e_iload_n dX6_lightest_10 rfl rfl ?_
          refine e_iload_n dX6_lightest_11 rfl rfl ?_
          first | ((with_reducible refine mk_mo ?_); refine p_icmp_eq (tgt := 45) dX6_lightest_12 (by decide) (fun h12 => ?_) (fun h12 => ?_)) | ((with_reducible refine mk_ms ?_); refine s_icmp_eq (tgt := 45) dX6_lightest_12 (by decide) (by omega) (fun h12 => ?_) (fun h12 => ?_)) | ((with_reducible refine mk_mn ?_); refine q_icmp_eq (tgt := 45) dX6_lightest_12 (by decide) (by omega) (fun h12 => ?_) (fun h12 => ?_)) | ((with_reducible refine mk_nn ?_); refine n_icmp_eq (tgt := 45) dX6_lightest_12 (by decide) (by omega) (by omega) (fun h12 => ?_) (fun h12 => ?_)) | refine e_icmp_eq (tgt := 45) dX6_lightest_12 (by decide) (fun h12 => ?_) (fun h12 => ?_)
          · try first | contradiction | omega
            all_goals
              first | refine n_inc dX6_lightest_45 rfl (Nat.le_of_ble_eq_true rfl) rfl ?_ | refine e_iinc dX6_lightest_45 rfl rfl (Nat.le_of_ble_eq_true rfl) rfl ?_
              refine e_goto (tgt := 4) dX6_lightest_48 (by decide) ?_
              first | (rw [bst_f (c := fun s => decide (w (4 + s) ≠ 0) && decide (s ≠ u)) (b := fun s q => decide (ldF w s < ldF w q)) (n := j) (by grind), hb] at ih; exact ih) | (rw [bst_0 (c := fun s => decide (w (4 + s) ≠ 0) && decide (s ≠ u)) (b := fun s q => decide (ldF w s < ldF w q)) (n := j) (by grind) hb] at ih; exact ih) | (rw [bst_1 (c := fun s => decide (w (4 + s) ≠ 0) && decide (s ≠ u)) (b := fun s q => decide (ldF w s < ldF w q)) (n := j) (by grind) hb (by grind)] at ih; exact ih) | (rw [bst_2 (c := fun s => decide (w (4 + s) ≠ 0) && decide (s ≠ u)) (b := fun s q => decide (ldF w s < ldF w q)) (n := j) (by grind) hb (by grind)] at ih; exact ih)
          · try first | contradiction | omega
            all_goals
              refine e_aload_n dX6_lightest_15 rfl rfl ?_
              refine e_iload_n dX6_lightest_16 rfl rfl ?_
              refine x_V1 (M' := mX6_isUp) dX6_lightest_17 ml_X6_63 ok_X6_isUp (by decide) rfl im_X6_isUp se_X6_isUp (ct_X6_isUp cm iv hP (by omega)) (Nat.le_of_ble_eq_true rfl) (by decide) (Nat.le_of_ble_eq_true rfl) ?_
              first | ((with_reducible refine mk_b ?_); refine b_if_eq (tgt := 45) dX6_lightest_20 (by decide) (fun h20 => ?_) (fun h20 => ?_)) | ((with_reducible refine mk_ll ?_); refine m_if_eq (tgt := 45) dX6_lightest_20 (by decide) (by omega) (by omega) (fun h20 => ?_) (fun h20 => ?_)) | ((with_reducible refine mk_lc ?_); refine l_if_eq (tgt := 45) dX6_lightest_20 (by decide) (fun h20 => ?_) (fun h20 => ?_)) | ((with_reducible refine mk_n ?_); refine n_if_eq (tgt := 45) dX6_lightest_20 (by decide) (by omega) (fun h20 => ?_) (fun h20 => ?_)) | refine e_if_eq (tgt := 45) dX6_lightest_20 (by decide) (fun h20 => ?_) (fun h20 => ?_)
              · try first | contradiction | omega | (simp only [decide_eq_true_eq, decide_eq_false_iff_not] at h20; omega)
                all_goals
                  first | refine n_inc dX6_lightest_45 rfl (Nat.le_of_ble_eq_true rfl) rfl ?_ | refine e_iinc dX6_lightest_45 rfl rfl (Nat.le_of_ble_eq_true rfl) rfl ?_
                  refine e_goto (tgt := 4) dX6_lightest_48 (by decide) ?_
                  first | (rw [bst_f (c := fun s => decide (w (4 + s) ≠ 0) && decide (s ≠ u)) (b := fun s q => decide (ldF w s < ldF w q)) (n := j) (by grind), hb] at ih; exact ih) | (rw [bst_0 (c := fun s => decide (w (4 + s) ≠ 0) && decide (s ≠ u)) (b := fun s q => decide (ldF w s < ldF w q)) (n := j) (by grind) hb] at ih; exact ih) | (rw [bst_1 (c := fun s => decide (w (4 + s) ≠ 0) && decide (s ≠ u)) (b := fun s q => decide (ldF w s < ldF w q)) (n := j) (by grind) hb (by grind)] at ih; exact ih) | (rw [bst_2 (c := fun s => decide (w (4 + s) ≠ 0) && decide (s ≠ u)) (b := fun s q => decide (ldF w s < ldF w q)) (n := j) (by grind) hb (by grind)] at ih; exact ih)
              · try first | contradiction | omega | (simp only [decide_eq_true_eq, decide_eq_false_iff_not] at h20; omega)
                all_goals
                  refine e_iload_n dX6_lightest_23 rfl rfl ?_
                  refine e_iconst (v := -1) dX6_lightest_24 rfl ?_
                  first | ((with_reducible refine mk_mo ?_); refine p_icmp_eq (tgt := 43) dX6_lightest_25 (by decide) (fun h25 => ?_) (fun h25 => ?_)) | ((with_reducible refine mk_ms ?_); refine s_icmp_eq (tgt := 43) dX6_lightest_25 (by decide) (by omega) (fun h25 => ?_) (fun h25 => ?_)) | ((with_reducible refine mk_mn ?_); refine q_icmp_eq (tgt := 43) dX6_lightest_25 (by decide) (by omega) (fun h25 => ?_) (fun h25 => ?_)) | ((with_reducible refine mk_nn ?_); refine n_icmp_eq (tgt := 43) dX6_lightest_25 (by decide) (by omega) (by omega) (fun h25 => ?_) (fun h25 => ?_)) | refine e_icmp_eq (tgt := 43) dX6_lightest_25 (by decide) (fun h25 => ?_) (fun h25 => ?_)
                  · try first | contradiction | omega
                    all_goals
                      refine e_iload_n dX6_lightest_43 rfl rfl ?_
                      refine e_istore_n dX6_lightest_44 rfl (Nat.le_of_ble_eq_true rfl) rfl ?_
                      first | refine n_inc dX6_lightest_45 rfl (Nat.le_of_ble_eq_true rfl) rfl ?_ | refine e_iinc dX6_lightest_45 rfl rfl (Nat.le_of_ble_eq_true rfl) rfl ?_
                      refine e_goto (tgt := 4) dX6_lightest_48 (by decide) ?_
                      first | (rw [bst_f (c := fun s => decide (w (4 + s) ≠ 0) && decide (s ≠ u)) (b := fun s q => decide (ldF w s < ldF w q)) (n := j) (by grind), hb] at ih; exact ih) | (rw [bst_0 (c := fun s => decide (w (4 + s) ≠ 0) && decide (s ≠ u)) (b := fun s q => decide (ldF w s < ldF w q)) (n := j) (by grind) hb] at ih; exact ih) | (rw [bst_1 (c := fun s => decide (w (4 + s) ≠ 0) && decide (s ≠ u)) (b := fun s q => decide (ldF w s < ldF w q)) (n := j) (by grind) hb (by grind)] at ih; exact ih) | (rw [bst_2 (c := fun s => decide (w (4 + s) ≠ 0) && decide (s ≠ u)) (b := fun s q => decide (ldF w s < ldF w q)) (n := j) (by grind) hb (by grind)] at ih; exact ih)
                  · try first | contradiction | omega
                    all_goals
                      refine e_aload_n dX6_lightest_28 rfl rfl ?_
                      refine e_getR dX6_lightest_29 fl_X6_25 rfl (cp_load cm) ?_
                      refine e_iload_n dX6_lightest_32 rfl rfl ?_
                      refine e_iadE _ dX6_lightest_33 ⟨by decide, by decide⟩ rfl rfl (by simp only [lenK]; omega) (pl_ld hP (by omega)) ?_
                      refine e_aload_n dX6_lightest_34 rfl rfl ?_
                      refine e_getR dX6_lightest_35 fl_X6_25 rfl (cp_load cm) ?_
                      refine e_iload_n dX6_lightest_38 rfl rfl ?_
                      refine e_iadE _ dX6_lightest_39 ⟨by decide, by decide⟩ rfl rfl (by simp only [lenK]; omega) (pl_ld hP (by omega)) ?_
                      first | ((with_reducible refine mk_nn ?_); refine n_icmp_ge (tgt := 45) dX6_lightest_40 (by decide) (by omega) (by omega) (fun h40 => ?_) (fun h40 => ?_)) | refine e_icmp_ge (tgt := 45) dX6_lightest_40 (by decide) (fun h40 => ?_) (fun h40 => ?_)
                      · try first | contradiction | omega
                        all_goals
                          first | refine n_inc dX6_lightest_45 rfl (Nat.le_of_ble_eq_true rfl) rfl ?_ | refine e_iinc dX6_lightest_45 rfl rfl (Nat.le_of_ble_eq_true rfl) rfl ?_
                          refine e_goto (tgt := 4) dX6_lightest_48 (by decide) ?_
                          first | (rw [bst_f (c := fun s => decide (w (4 + s) ≠ 0) && decide (s ≠ u)) (b := fun s q => decide (ldF w s < ldF w q)) (n := j) (by grind), hb] at ih; exact ih) | (rw [bst_0 (c := fun s => decide (w (4 + s) ≠ 0) && decide (s ≠ u)) (b := fun s q => decide (ldF w s < ldF w q)) (n := j) (by grind) hb] at ih; exact ih) | (rw [bst_1 (c := fun s => decide (w (4 + s) ≠ 0) && decide (s ≠ u)) (b := fun s q => decide (ldF w s < ldF w q)) (n := j) (by grind) hb (by grind)] at ih; exact ih) | (rw [bst_2 (c := fun s => decide (w (4 + s) ≠ 0) && decide (s ≠ u)) (b := fun s q => decide (ldF w s < ldF w q)) (n := j) (by grind) hb (by grind)] at ih; exact ih)
                      · try first | contradiction | omega
                        all_goals
                          refine e_iload_n dX6_lightest_43 rfl rfl ?_
                          refine e_istore_n dX6_lightest_44 rfl (Nat.le_of_ble_eq_true rfl) rfl ?_
                          first | refine n_inc dX6_lightest_45 rfl (Nat.le_of_ble_eq_true rfl) rfl ?_ | refine e_iinc dX6_lightest_45 rfl rfl (Nat.le_of_ble_eq_true rfl) rfl ?_
                          refine e_goto (tgt := 4) dX6_lightest_48 (by decide) ?_
                          first | (rw [bst_f (c := fun s => decide (w (4 + s) ≠ 0) && decide (s ≠ u)) (b := fun s q => decide (ldF w s < ldF w q)) (n := j) (by grind), hb] at ih; exact ih) | (rw [bst_0 (c := fun s => decide (w (4 + s) ≠ 0) && decide (s ≠ u)) (b := fun s q => decide (ldF w s < ldF w q)) (n := j) (by grind) hb] at ih; exact ih) | (rw [bst_1 (c := fun s => decide (w (4 + s) ≠ 0) && decide (s ≠ u)) (b := fun s q => decide (ldF w s < ldF w q)) (n := j) (by grind) hb (by grind)] at ih; exact ih) | (rw [bst_2 (c := fun s => decide (w (4 + s) ≠ 0) && decide (s ≠ u)) (b := fun s q => decide (ldF w s < ldF w q)) (n := j) (by grind) hb (by grind)] at ih; exact ih)
    ) (by
    refine e_iload_n dX6_lightest_4 rfl rfl ?_
    refine e_bipush (v := nI 6) dX6_lightest_5 rfl ?_
    first | ((with_reducible refine mk_nn ?_); refine n_icmp_ge (tgt := 51) dX6_lightest_7 (by decide) (by omega) (by omega) (fun h7 => ?_) (fun h7 => ?_)) | refine e_icmp_ge (tgt := 51) dX6_lightest_7 (by decide) (fun h7 => ?_) (fun h7 => ?_)
    · try first | contradiction | omega
      all_goals
        refine e_iload_n dX6_lightest_51 rfl rfl ?_
        refine e_ret (some _) rfl (r_int dX6_lightest_52 rfl) ?_
        exact xq rfl rfl rfl rfl rfl rfl
    · try first | contradiction | omega
      all_goals
        refine e_iload_n dX6_lightest_10 rfl rfl ?_
        refine e_iload_n dX6_lightest_11 rfl rfl ?_
        first | ((with_reducible refine mk_mo ?_); refine p_icmp_eq (tgt := 45) dX6_lightest_12 (by decide) (fun h12 => ?_) (fun h12 => ?_)) | ((with_reducible refine mk_ms ?_); refine s_icmp_eq (tgt := 45) dX6_lightest_12 (by decide) (by omega) (fun h12 => ?_) (fun h12 => ?_)) | ((with_reducible refine mk_mn ?_); refine q_icmp_eq (tgt := 45) dX6_lightest_12 (by decide) (by omega) (fun h12 => ?_) (fun h12 => ?_)) | ((with_reducible refine mk_nn ?_); refine n_icmp_eq (tgt := 45) dX6_lightest_12 (by decide) (by omega) (by omega) (fun h12 => ?_) (fun h12 => ?_)) | refine e_icmp_eq (tgt := 45) dX6_lightest_12 (by decide) (fun h12 => ?_) (fun h12 => ?_)
        · try first | contradiction | omega
          all_goals
            first | refine n_inc dX6_lightest_45 rfl (Nat.le_of_ble_eq_true rfl) rfl ?_ | refine e_iinc dX6_lightest_45 rfl rfl (Nat.le_of_ble_eq_true rfl) rfl ?_
            refine e_goto (tgt := 4) dX6_lightest_48 (by decide) ?_
            first | (rw [bst_f (c := fun s => decide (w (4 + s) ≠ 0) && decide (s ≠ u)) (b := fun s q => decide (ldF w s < ldF w q)) (n := j) (by grind), hb] at ih; exact ih) | (rw [bst_0 (c := fun s => decide (w (4 + s) ≠ 0) && decide (s ≠ u)) (b := fun s q => decide (ldF w s < ldF w q)) (n := j) (by grind) hb] at ih; exact ih) | (rw [bst_1 (c := fun s => decide (w (4 + s) ≠ 0) && decide (s ≠ u)) (b := fun s q => decide (ldF w s < ldF w q)) (n := j) (by grind) hb (by grind)] at ih; exact ih) | (rw [bst_2 (c := fun s => decide (w (4 + s) ≠ 0) && decide (s ≠ u)) (b := fun s q => decide (ldF w s < ldF w q)) (n := j) (by grind) hb (by grind)] at ih; exact ih)
        · try first | contradiction | omega
          all_goals
            refine e_aload_n dX6_lightest_15 rfl rfl ?_
            refine e_iload_n dX6_lightest_16 rfl rfl ?_
            refine x_V1 (M' := mX6_isUp) dX6_lightest_17 ml_X6_63 ok_X6_isUp (by decide) rfl im_X6_isUp se_X6_isUp (ct_X6_isUp cm iv hP (by omega)) (Nat.le_of_ble_eq_true rfl) (by decide) (Nat.le_of_ble_eq_true rfl) ?_
            first | ((with_reducible refine mk_b ?_); refine b_if_eq (tgt := 45) dX6_lightest_20 (by decide) (fun h20 => ?_) (fun h20 => ?_)) | ((with_reducible refine mk_ll ?_); refine m_if_eq (tgt := 45) dX6_lightest_20 (by decide) (by omega) (by omega) (fun h20 => ?_) (fun h20 => ?_)) | ((with_reducible refine mk_lc ?_); refine l_if_eq (tgt := 45) dX6_lightest_20 (by decide) (fun h20 => ?_) (fun h20 => ?_)) | ((with_reducible refine mk_n ?_); refine n_if_eq (tgt := 45) dX6_lightest_20 (by decide) (by omega) (fun h20 => ?_) (fun h20 => ?_)) | refine e_if_eq (tgt := 45) dX6_lightest_20 (by decide) (fun h20 => ?_) (fun h20 => ?_)
            · try first | contradiction | omega | (simp only [decide_eq_true_eq, decide_eq_false_iff_not] at h20; omega)
              all_goals
                first | refine n_inc dX6_lightest_45 rfl (Nat.le_of_ble_eq_true rfl) rfl ?_ | refine e_iinc dX6_lightest_45 rfl rfl (Nat.le_of_ble_eq_true rfl) rfl ?_
                refine e_goto (tgt := 4) dX6_lightest_48 (by decide) ?_
                first | (rw [bst_f (c := fun s => decide (w (4 + s) ≠ 0) && decide (s ≠ u)) (b := fun s q => decide (ldF w s < ldF w q)) (n := j) (by grind), hb] at ih; exact ih) | (rw [bst_0 (c := fun s => decide (w (4 + s) ≠ 0) && decide (s ≠ u)) (b := fun s q => decide (ldF w s < ldF w q)) (n := j) (by grind) hb] at ih; exact ih) | (rw [bst_1 (c := fun s => decide (w (4 + s) ≠ 0) && decide (s ≠ u)) (b := fun s q => decide (ldF w s < ldF w q)) (n := j) (by grind) hb (by grind)] at ih; exact ih) | (rw [bst_2 (c := fun s => decide (w (4 + s) ≠ 0) && decide (s ≠ u)) (b := fun s q => decide (ldF w s < ldF w q)) (n := j) (by grind) hb (by grind)] at ih; exact ih)
            · try first | contradiction | omega | (simp only [decide_eq_true_eq, decide_eq_false_iff_not] at h20; omega)
              all_goals
                refine e_iload_n dX6_lightest_23 rfl rfl ?_
                refine e_iconst (v := -1) dX6_lightest_24 rfl ?_
                first | ((with_reducible refine mk_mo ?_); refine p_icmp_eq (tgt := 43) dX6_lightest_25 (by decide) (fun h25 => ?_) (fun h25 => ?_)) | ((with_reducible refine mk_ms ?_); refine s_icmp_eq (tgt := 43) dX6_lightest_25 (by decide) (by omega) (fun h25 => ?_) (fun h25 => ?_)) | ((with_reducible refine mk_mn ?_); refine q_icmp_eq (tgt := 43) dX6_lightest_25 (by decide) (by omega) (fun h25 => ?_) (fun h25 => ?_)) | ((with_reducible refine mk_nn ?_); refine n_icmp_eq (tgt := 43) dX6_lightest_25 (by decide) (by omega) (by omega) (fun h25 => ?_) (fun h25 => ?_)) | refine e_icmp_eq (tgt := 43) dX6_lightest_25 (by decide) (fun h25 => ?_) (fun h25 => ?_)
                · try first | contradiction | omega
                  all_goals
                    refine e_iload_n dX6_lightest_43 rfl rfl ?_
                    refine e_istore_n dX6_lightest_44 rfl (Nat.le_of_ble_eq_true rfl) rfl ?_
                    first | refine n_inc dX6_lightest_45 rfl (Nat.le_of_ble_eq_true rfl) rfl ?_ | refine e_iinc dX6_lightest_45 rfl rfl (Nat.le_of_ble_eq_true rfl) rfl ?_
                    refine e_goto (tgt := 4) dX6_lightest_48 (by decide) ?_
                    first | (rw [bst_f (c := fun s => decide (w (4 + s) ≠ 0) && decide (s ≠ u)) (b := fun s q => decide (ldF w s < ldF w q)) (n := j) (by grind), hb] at ih; exact ih) | (rw [bst_0 (c := fun s => decide (w (4 + s) ≠ 0) && decide (s ≠ u)) (b := fun s q => decide (ldF w s < ldF w q)) (n := j) (by grind) hb] at ih; exact ih) | (rw [bst_1 (c := fun s => decide (w (4 + s) ≠ 0) && decide (s ≠ u)) (b := fun s q => decide (ldF w s < ldF w q)) (n := j) (by grind) hb (by grind)] at ih; exact ih) | (rw [bst_2 (c := fun s => decide (w (4 + s) ≠ 0) && decide (s ≠ u)) (b := fun s q => decide (ldF w s < ldF w q)) (n := j) (by grind) hb (by grind)] at ih; exact ih)
                · try first | contradiction | omega
                  all_goals
                    refine e_aload_n dX6_lightest_28 rfl rfl ?_
                    refine e_getR dX6_lightest_29 fl_X6_25 rfl (cp_load cm) ?_
                    refine e_iload_n dX6_lightest_32 rfl rfl ?_
                    refine e_iadE _ dX6_lightest_33 ⟨by decide, by decide⟩ rfl rfl (by simp only [lenK]; omega) (pl_ld hP (by omega)) ?_
                    refine e_aload_n dX6_lightest_34 rfl rfl ?_
                    refine e_getR dX6_lightest_35 fl_X6_25 rfl (cp_load cm) ?_
                    refine e_iload_n dX6_lightest_38 rfl rfl ?_
                    refine e_iadE _ dX6_lightest_39 ⟨by decide, by decide⟩ rfl rfl (by simp only [lenK]; omega) (pl_ld hP (by omega)) ?_
                    first | ((with_reducible refine mk_nn ?_); refine n_icmp_ge (tgt := 45) dX6_lightest_40 (by decide) (by omega) (by omega) (fun h40 => ?_) (fun h40 => ?_)) | refine e_icmp_ge (tgt := 45) dX6_lightest_40 (by decide) (fun h40 => ?_) (fun h40 => ?_)
                    · try first | contradiction | omega
                      all_goals
                        first | refine n_inc dX6_lightest_45 rfl (Nat.le_of_ble_eq_true rfl) rfl ?_ | refine e_iinc dX6_lightest_45 rfl rfl (Nat.le_of_ble_eq_true rfl) rfl ?_
                        refine e_goto (tgt := 4) dX6_lightest_48 (by decide) ?_
                        first | (rw [bst_f (c := fun s => decide (w (4 + s) ≠ 0) && decide (s ≠ u)) (b := fun s q => decide (ldF w s < ldF w q)) (n := j) (by grind), hb] at ih; exact ih) | (rw [bst_0 (c := fun s => decide (w (4 + s) ≠ 0) && decide (s ≠ u)) (b := fun s q => decide (ldF w s < ldF w q)) (n := j) (by grind) hb] at ih; exact ih) | (rw [bst_1 (c := fun s => decide (w (4 + s) ≠ 0) && decide (s ≠ u)) (b := fun s q => decide (ldF w s < ldF w q)) (n := j) (by grind) hb (by grind)] at ih; exact ih) | (rw [bst_2 (c := fun s => decide (w (4 + s) ≠ 0) && decide (s ≠ u)) (b := fun s q => decide (ldF w s < ldF w q)) (n := j) (by grind) hb (by grind)] at ih; exact ih)
                    · try first | contradiction | omega
                      all_goals
                        refine e_iload_n dX6_lightest_43 rfl rfl ?_
                        refine e_istore_n dX6_lightest_44 rfl (Nat.le_of_ble_eq_true rfl) rfl ?_
                        first | refine n_inc dX6_lightest_45 rfl (Nat.le_of_ble_eq_true rfl) rfl ?_ | refine e_iinc dX6_lightest_45 rfl rfl (Nat.le_of_ble_eq_true rfl) rfl ?_
                        refine e_goto (tgt := 4) dX6_lightest_48 (by decide) ?_
                        first | (rw [bst_f (c := fun s => decide (w (4 + s) ≠ 0) && decide (s ≠ u)) (b := fun s q => decide (ldF w s < ldF w q)) (n := j) (by grind), hb] at ih; exact ih) | (rw [bst_0 (c := fun s => decide (w (4 + s) ≠ 0) && decide (s ≠ u)) (b := fun s q => decide (ldF w s < ldF w q)) (n := j) (by grind) hb] at ih; exact ih) | (rw [bst_1 (c := fun s => decide (w (4 + s) ≠ 0) && decide (s ≠ u)) (b := fun s q => decide (ldF w s < ldF w q)) (n := j) (by grind) hb (by grind)] at ih; exact ih) | (rw [bst_2 (c := fun s => decide (w (4 + s) ≠ 0) && decide (s ≠ u)) (b := fun s q => decide (ldF w s < ldF w q)) (n := j) (by grind) hb (by grind)] at ih; exact ih)
    )
  refine e_iconst (v := -1) dX6_lightest_0 rfl ?_
  refine e_istore_n dX6_lightest_1 rfl (Nat.le_of_ble_eq_true rfl) rfl ?_
  refine e_iconst (v := nI 0) dX6_lightest_2 rfl ?_
  refine e_istore_n dX6_lightest_3 rfl (Nat.le_of_ble_eq_true rfl) rfl ?_
  exact key 0 (by omega)
def evB (w : Nat → Nat) (u : Nat) : Option Nat := match obH w u, obL w u with
  | some a, some l => some (ldF w a - ldF w l)
  | _, _ => none
theorem ob_le {w : Nat → Nat} {u a l : Nat} (ha : obH w u = some a) (hl : obL w u = some l) : a < 6 ∧ l < 6 ∧ ldF w l ≤ ldF w a := by
  have h1 := bst_in ha
  have h2 := bst_in hl
  exact ⟨h1.1, h2.1, bst_mx ha l h2.1 h2.2⟩
theorem ot_le {w : Nat → Nat} {a l : Nat} (ha : otH w = some a) (hl : otL w = some l) : a < 6 ∧ l < 6 ∧ ldF w l ≤ ldF w a := by
  have h1 := bst_in ha
  have h2 := bst_in hl
  exact ⟨h1.1, h2.1, bst_mx ha l h2.1 h2.2⟩
theorem ct_gapN {fi : FI} {fr : FR} {ai : FI} {ar : FR} {N : Nat} {w : Nat → Nat} (cm : CM fr ar) (iv : Inv w) (hP : PL fi ai w)  : CP mX6_gap 2 0 0 [.ref (rf 6 65), .int (-1)] fi fr ai ar N (xQ (some (.int (oI (evF w)))) fi fr ai ar N) := by
  have h1 := iv_n iv
  have h3 := iv_mm iv
  have bd := Bd_iv iv
  have hF : FR1 fi ai fi ai := FR1_rf
  change EV mX6_gap 2 0 0 0 [some (.ref (rf 6 65)), some (.int (-1)), none, none] [] fi fr ai ar N (xQ (some (.int (oI (evF w)))) fi fr ai ar N)
  cases hh : otH w with
  | none =>
    have e : evF w = none := by unfold evF; rw [hh]
    rw [e]
    refine e_aload_n dX6_gap_0 rfl rfl ?_
    refine e_iload_n dX6_gap_1 rfl rfl ?_
    refine x_V1 (M' := mX6_heaviest) dX6_gap_2 ml_X6_67 ok_X6_heaviest (by decide) rfl im_X6_heaviest se_X6_heaviest (by first | exact ct_heaviestN cm iv hP | exact ct_heaviestB cm iv hP (by omega)) (Nat.le_of_ble_eq_true rfl) (by decide) (Nat.le_of_ble_eq_true rfl) ?_
    rw [hh]
    refine e_istore_n dX6_gap_5 rfl (Nat.le_of_ble_eq_true rfl) rfl ?_
    refine e_aload_n dX6_gap_6 rfl rfl ?_
    refine e_iload_n dX6_gap_7 rfl rfl ?_
    refine x_V1 (M' := mX6_lightest) dX6_gap_8 ml_X6_70 ok_X6_lightest (by decide) rfl im_X6_lightest se_X6_lightest (by first | exact ct_lightestN cm iv hP | exact ct_lightestB cm iv hP (by omega)) (Nat.le_of_ble_eq_true rfl) (by decide) (Nat.le_of_ble_eq_true rfl) ?_
    refine e_istore_n dX6_gap_11 rfl (Nat.le_of_ble_eq_true rfl) rfl ?_
    refine e_iload_n dX6_gap_12 rfl rfl ?_
    refine e_iconst (v := -1) dX6_gap_13 rfl ?_
    first | ((with_reducible refine mk_mo ?_); refine p_icmp_eq (tgt := 22) dX6_gap_14 (by decide) (fun h14 => ?_) (fun h14 => ?_)) | ((with_reducible refine mk_ms ?_); refine s_icmp_eq (tgt := 22) dX6_gap_14 (by decide) (by omega) (fun h14 => ?_) (fun h14 => ?_)) | ((with_reducible refine mk_mn ?_); refine q_icmp_eq (tgt := 22) dX6_gap_14 (by decide) (by omega) (fun h14 => ?_) (fun h14 => ?_)) | ((with_reducible refine mk_nn ?_); refine n_icmp_eq (tgt := 22) dX6_gap_14 (by decide) (by omega) (by omega) (fun h14 => ?_) (fun h14 => ?_)) | refine e_icmp_eq (tgt := 22) dX6_gap_14 (by decide) (fun h14 => ?_) (fun h14 => ?_)
    · try first | contradiction | omega
      all_goals
        refine e_iconst (v := -1) dX6_gap_22 rfl ?_
        refine e_goto (tgt := 39) dX6_gap_23 (by decide) ?_
        refine e_ret (some _) rfl (r_int dX6_gap_39 rfl) ?_
        exact xq rfl rfl rfl rfl rfl rfl
    · try first | contradiction | omega
      all_goals
        refine e_iload_n dX6_gap_17 rfl rfl ?_
        refine e_iconst (v := -1) dX6_gap_18 rfl ?_
        first | ((with_reducible refine mk_mo ?_); refine p_icmp_ne (tgt := 26) dX6_gap_19 (by decide) (fun h19 => ?_) (fun h19 => ?_)) | ((with_reducible refine mk_ms ?_); refine s_icmp_ne (tgt := 26) dX6_gap_19 (by decide) (by omega) (fun h19 => ?_) (fun h19 => ?_)) | ((with_reducible refine mk_mn ?_); refine q_icmp_ne (tgt := 26) dX6_gap_19 (by decide) (by omega) (fun h19 => ?_) (fun h19 => ?_)) | ((with_reducible refine mk_nn ?_); refine n_icmp_ne (tgt := 26) dX6_gap_19 (by decide) (by omega) (by omega) (fun h19 => ?_) (fun h19 => ?_)) | refine e_icmp_ne (tgt := 26) dX6_gap_19 (by decide) (fun h19 => ?_) (fun h19 => ?_)
        · try first | contradiction | omega
          all_goals
            refine e_aload_n dX6_gap_26 rfl rfl ?_
            refine e_getR dX6_gap_27 fl_X6_25 rfl (cp_load cm) ?_
            refine e_iload_n dX6_gap_30 rfl rfl ?_
            refine e_iadE _ dX6_gap_31 ⟨by decide, by decide⟩ rfl rfl (by simp only [lenK]; omega) (pl_ld hP (by omega)) ?_
            refine e_aload_n dX6_gap_32 rfl rfl ?_
            refine e_getR dX6_gap_33 fl_X6_25 rfl (cp_load cm) ?_
            refine e_iload_n dX6_gap_36 rfl rfl ?_
            refine e_iadE _ dX6_gap_37 ⟨by decide, by decide⟩ rfl rfl (by simp only [lenK]; omega) (pl_ld hP (by omega)) ?_
            first | ((with_reducible refine mk_nn ?_); refine n_isub dX6_gap_38 (by omega) ?_) | refine e_isub dX6_gap_38 ?_
            refine e_ret (some _) rfl (r_int dX6_gap_39 rfl) ?_
            exact xq rfl rfl rfl rfl rfl rfl
        · try first | contradiction | omega
          all_goals
            refine e_iconst (v := -1) dX6_gap_22 rfl ?_
            refine e_goto (tgt := 39) dX6_gap_23 (by decide) ?_
            refine e_ret (some _) rfl (r_int dX6_gap_39 rfl) ?_
            exact xq rfl rfl rfl rfl rfl rfl
  | some a =>
    have ha6 := (bst_in hh).1
    cases hl : otL w with
    | none =>
      have e : evF w = none := by unfold evF; rw [hh, hl]
      rw [e]
      refine e_aload_n dX6_gap_0 rfl rfl ?_
      refine e_iload_n dX6_gap_1 rfl rfl ?_
      refine x_V1 (M' := mX6_heaviest) dX6_gap_2 ml_X6_67 ok_X6_heaviest (by decide) rfl im_X6_heaviest se_X6_heaviest (by first | exact ct_heaviestN cm iv hP | exact ct_heaviestB cm iv hP (by omega)) (Nat.le_of_ble_eq_true rfl) (by decide) (Nat.le_of_ble_eq_true rfl) ?_
      rw [hh, oI_s]
      refine e_istore_n dX6_gap_5 rfl (Nat.le_of_ble_eq_true rfl) rfl ?_
      refine e_aload_n dX6_gap_6 rfl rfl ?_
      refine e_iload_n dX6_gap_7 rfl rfl ?_
      refine x_V1 (M' := mX6_lightest) dX6_gap_8 ml_X6_70 ok_X6_lightest (by decide) rfl im_X6_lightest se_X6_lightest (by first | exact ct_lightestN cm iv hP | exact ct_lightestB cm iv hP (by omega)) (Nat.le_of_ble_eq_true rfl) (by decide) (Nat.le_of_ble_eq_true rfl) ?_
      rw [hl]
      refine e_istore_n dX6_gap_11 rfl (Nat.le_of_ble_eq_true rfl) rfl ?_
      refine e_iload_n dX6_gap_12 rfl rfl ?_
      refine e_iconst (v := -1) dX6_gap_13 rfl ?_
      first | ((with_reducible refine mk_mo ?_); refine p_icmp_eq (tgt := 22) dX6_gap_14 (by decide) (fun h14 => ?_) (fun h14 => ?_)) | ((with_reducible refine mk_ms ?_); refine s_icmp_eq (tgt := 22) dX6_gap_14 (by decide) (by omega) (fun h14 => ?_) (fun h14 => ?_)) | ((with_reducible refine mk_mn ?_); refine q_icmp_eq (tgt := 22) dX6_gap_14 (by decide) (by omega) (fun h14 => ?_) (fun h14 => ?_)) | ((with_reducible refine mk_nn ?_); refine n_icmp_eq (tgt := 22) dX6_gap_14 (by decide) (by omega) (by omega) (fun h14 => ?_) (fun h14 => ?_)) | refine e_icmp_eq (tgt := 22) dX6_gap_14 (by decide) (fun h14 => ?_) (fun h14 => ?_)
      · try first | contradiction | omega
        all_goals
          refine e_iconst (v := -1) dX6_gap_22 rfl ?_
          refine e_goto (tgt := 39) dX6_gap_23 (by decide) ?_
          refine e_ret (some _) rfl (r_int dX6_gap_39 rfl) ?_
          exact xq rfl rfl rfl rfl rfl rfl
      · try first | contradiction | omega
        all_goals
          refine e_iload_n dX6_gap_17 rfl rfl ?_
          refine e_iconst (v := -1) dX6_gap_18 rfl ?_
          first | ((with_reducible refine mk_mo ?_); refine p_icmp_ne (tgt := 26) dX6_gap_19 (by decide) (fun h19 => ?_) (fun h19 => ?_)) | ((with_reducible refine mk_ms ?_); refine s_icmp_ne (tgt := 26) dX6_gap_19 (by decide) (by omega) (fun h19 => ?_) (fun h19 => ?_)) | ((with_reducible refine mk_mn ?_); refine q_icmp_ne (tgt := 26) dX6_gap_19 (by decide) (by omega) (fun h19 => ?_) (fun h19 => ?_)) | ((with_reducible refine mk_nn ?_); refine n_icmp_ne (tgt := 26) dX6_gap_19 (by decide) (by omega) (by omega) (fun h19 => ?_) (fun h19 => ?_)) | refine e_icmp_ne (tgt := 26) dX6_gap_19 (by decide) (fun h19 => ?_) (fun h19 => ?_)
          · try first | contradiction | omega
            all_goals
              refine e_aload_n dX6_gap_26 rfl rfl ?_
              refine e_getR dX6_gap_27 fl_X6_25 rfl (cp_load cm) ?_
              refine e_iload_n dX6_gap_30 rfl rfl ?_
              refine e_iadE _ dX6_gap_31 ⟨by decide, by decide⟩ rfl rfl (by simp only [lenK]; omega) (pl_ld hP (by omega)) ?_
              refine e_aload_n dX6_gap_32 rfl rfl ?_
              refine e_getR dX6_gap_33 fl_X6_25 rfl (cp_load cm) ?_
              refine e_iload_n dX6_gap_36 rfl rfl ?_
              refine e_iadE _ dX6_gap_37 ⟨by decide, by decide⟩ rfl rfl (by simp only [lenK]; omega) (pl_ld hP (by omega)) ?_
              first | ((with_reducible refine mk_nn ?_); refine n_isub dX6_gap_38 (by omega) ?_) | refine e_isub dX6_gap_38 ?_
              refine e_ret (some _) rfl (r_int dX6_gap_39 rfl) ?_
              exact xq rfl rfl rfl rfl rfl rfl
          · try first | contradiction | omega
            all_goals
              refine e_iconst (v := -1) dX6_gap_22 rfl ?_
              refine e_goto (tgt := 39) dX6_gap_23 (by decide) ?_
              refine e_ret (some _) rfl (r_int dX6_gap_39 rfl) ?_
              exact xq rfl rfl rfl rfl rfl rfl
    | some l =>
      have hle := ot_le hh hl
      have hl1 := ldF_le2 iv a
      have e : evF w = some (ldF w a - ldF w l) := by unfold evF; rw [hh, hl]
      rw [e]
      refine e_aload_n dX6_gap_0 rfl rfl ?_
      refine e_iload_n dX6_gap_1 rfl rfl ?_
      refine x_V1 (M' := mX6_heaviest) dX6_gap_2 ml_X6_67 ok_X6_heaviest (by decide) rfl im_X6_heaviest se_X6_heaviest (by first | exact ct_heaviestN cm iv hP | exact ct_heaviestB cm iv hP (by omega)) (Nat.le_of_ble_eq_true rfl) (by decide) (Nat.le_of_ble_eq_true rfl) ?_
      rw [hh, oI_s]
      refine e_istore_n dX6_gap_5 rfl (Nat.le_of_ble_eq_true rfl) rfl ?_
      refine e_aload_n dX6_gap_6 rfl rfl ?_
      refine e_iload_n dX6_gap_7 rfl rfl ?_
      refine x_V1 (M' := mX6_lightest) dX6_gap_8 ml_X6_70 ok_X6_lightest (by decide) rfl im_X6_lightest se_X6_lightest (by first | exact ct_lightestN cm iv hP | exact ct_lightestB cm iv hP (by omega)) (Nat.le_of_ble_eq_true rfl) (by decide) (Nat.le_of_ble_eq_true rfl) ?_
      rw [hl, oI_s]
      refine e_istore_n dX6_gap_11 rfl (Nat.le_of_ble_eq_true rfl) rfl ?_
      refine e_iload_n dX6_gap_12 rfl rfl ?_
      refine e_iconst (v := -1) dX6_gap_13 rfl ?_
      first | ((with_reducible refine mk_mo ?_); refine p_icmp_eq (tgt := 22) dX6_gap_14 (by decide) (fun h14 => ?_) (fun h14 => ?_)) | ((with_reducible refine mk_ms ?_); refine s_icmp_eq (tgt := 22) dX6_gap_14 (by decide) (by omega) (fun h14 => ?_) (fun h14 => ?_)) | ((with_reducible refine mk_mn ?_); refine q_icmp_eq (tgt := 22) dX6_gap_14 (by decide) (by omega) (fun h14 => ?_) (fun h14 => ?_)) | ((with_reducible refine mk_nn ?_); refine n_icmp_eq (tgt := 22) dX6_gap_14 (by decide) (by omega) (by omega) (fun h14 => ?_) (fun h14 => ?_)) | refine e_icmp_eq (tgt := 22) dX6_gap_14 (by decide) (fun h14 => ?_) (fun h14 => ?_)
      · try first | contradiction | omega
        all_goals
          refine e_iconst (v := -1) dX6_gap_22 rfl ?_
          refine e_goto (tgt := 39) dX6_gap_23 (by decide) ?_
          refine e_ret (some _) rfl (r_int dX6_gap_39 rfl) ?_
          exact xq rfl rfl rfl rfl rfl rfl
      · try first | contradiction | omega
        all_goals
          refine e_iload_n dX6_gap_17 rfl rfl ?_
          refine e_iconst (v := -1) dX6_gap_18 rfl ?_
          first | ((with_reducible refine mk_mo ?_); refine p_icmp_ne (tgt := 26) dX6_gap_19 (by decide) (fun h19 => ?_) (fun h19 => ?_)) | ((with_reducible refine mk_ms ?_); refine s_icmp_ne (tgt := 26) dX6_gap_19 (by decide) (by omega) (fun h19 => ?_) (fun h19 => ?_)) | ((with_reducible refine mk_mn ?_); refine q_icmp_ne (tgt := 26) dX6_gap_19 (by decide) (by omega) (fun h19 => ?_) (fun h19 => ?_)) | ((with_reducible refine mk_nn ?_); refine n_icmp_ne (tgt := 26) dX6_gap_19 (by decide) (by omega) (by omega) (fun h19 => ?_) (fun h19 => ?_)) | refine e_icmp_ne (tgt := 26) dX6_gap_19 (by decide) (fun h19 => ?_) (fun h19 => ?_)
          · try first | contradiction | omega
            all_goals
              refine e_aload_n dX6_gap_26 rfl rfl ?_
              refine e_getR dX6_gap_27 fl_X6_25 rfl (cp_load cm) ?_
              refine e_iload_n dX6_gap_30 rfl rfl ?_
              refine e_iadE _ dX6_gap_31 ⟨by decide, by decide⟩ rfl rfl (by simp only [lenK]; omega) (pl_ld hP (by omega)) ?_
              refine e_aload_n dX6_gap_32 rfl rfl ?_
              refine e_getR dX6_gap_33 fl_X6_25 rfl (cp_load cm) ?_
              refine e_iload_n dX6_gap_36 rfl rfl ?_
              refine e_iadE _ dX6_gap_37 ⟨by decide, by decide⟩ rfl rfl (by simp only [lenK]; omega) (pl_ld hP (by omega)) ?_
              first | ((with_reducible refine mk_nn ?_); refine n_isub dX6_gap_38 (by omega) ?_) | refine e_isub dX6_gap_38 ?_
              refine e_ret (some _) rfl (r_int dX6_gap_39 rfl) ?_
              exact xq rfl rfl rfl rfl rfl rfl
          · try first | contradiction | omega
            all_goals
              refine e_iconst (v := -1) dX6_gap_22 rfl ?_
              refine e_goto (tgt := 39) dX6_gap_23 (by decide) ?_
              refine e_ret (some _) rfl (r_int dX6_gap_39 rfl) ?_
              exact xq rfl rfl rfl rfl rfl rfl
theorem ct_gapB {fi : FI} {fr : FR} {ai : FI} {ar : FR} {N : Nat} {w : Nat → Nat} (cm : CM fr ar) (iv : Inv w) (hP : PL fi ai w) {u : Nat} (hu6 : u < 6) : CP mX6_gap 2 0 0 [.ref (rf 6 65), .int (nI u)] fi fr ai ar N (xQ (some (.int (oI (evB w u)))) fi fr ai ar N) := by
  have h1 := iv_n iv
  have h3 := iv_mm iv
  have bd := Bd_iv iv
  have hF : FR1 fi ai fi ai := FR1_rf
  change EV mX6_gap 2 0 0 0 [some (.ref (rf 6 65)), some (.int (nI u)), none, none] [] fi fr ai ar N (xQ (some (.int (oI (evB w u)))) fi fr ai ar N)
  cases hh : obH w u with
  | none =>
    have e : evB w u = none := by unfold evB; rw [hh]
    rw [e]
    refine e_aload_n dX6_gap_0 rfl rfl ?_
    refine e_iload_n dX6_gap_1 rfl rfl ?_
    refine x_V1 (M' := mX6_heaviest) dX6_gap_2 ml_X6_67 ok_X6_heaviest (by decide) rfl im_X6_heaviest se_X6_heaviest (by first | exact ct_heaviestN cm iv hP | exact ct_heaviestB cm iv hP (by omega)) (Nat.le_of_ble_eq_true rfl) (by decide) (Nat.le_of_ble_eq_true rfl) ?_
    rw [hh]
    refine e_istore_n dX6_gap_5 rfl (Nat.le_of_ble_eq_true rfl) rfl ?_
    refine e_aload_n dX6_gap_6 rfl rfl ?_
    refine e_iload_n dX6_gap_7 rfl rfl ?_
    refine x_V1 (M' := mX6_lightest) dX6_gap_8 ml_X6_70 ok_X6_lightest (by decide) rfl im_X6_lightest se_X6_lightest (by first | exact ct_lightestN cm iv hP | exact ct_lightestB cm iv hP (by omega)) (Nat.le_of_ble_eq_true rfl) (by decide) (Nat.le_of_ble_eq_true rfl) ?_
    refine e_istore_n dX6_gap_11 rfl (Nat.le_of_ble_eq_true rfl) rfl ?_
    refine e_iload_n dX6_gap_12 rfl rfl ?_
    refine e_iconst (v := -1) dX6_gap_13 rfl ?_
    first | ((with_reducible refine mk_mo ?_); refine p_icmp_eq (tgt := 22) dX6_gap_14 (by decide) (fun h14 => ?_) (fun h14 => ?_)) | ((with_reducible refine mk_ms ?_); refine s_icmp_eq (tgt := 22) dX6_gap_14 (by decide) (by omega) (fun h14 => ?_) (fun h14 => ?_)) | ((with_reducible refine mk_mn ?_); refine q_icmp_eq (tgt := 22) dX6_gap_14 (by decide) (by omega) (fun h14 => ?_) (fun h14 => ?_)) | ((with_reducible refine mk_nn ?_); refine n_icmp_eq (tgt := 22) dX6_gap_14 (by decide) (by omega) (by omega) (fun h14 => ?_) (fun h14 => ?_)) | refine e_icmp_eq (tgt := 22) dX6_gap_14 (by decide) (fun h14 => ?_) (fun h14 => ?_)
    · try first | contradiction | omega
      all_goals
        refine e_iconst (v := -1) dX6_gap_22 rfl ?_
        refine e_goto (tgt := 39) dX6_gap_23 (by decide) ?_
        refine e_ret (some _) rfl (r_int dX6_gap_39 rfl) ?_
        exact xq rfl rfl rfl rfl rfl rfl
    · try first | contradiction | omega
      all_goals
        refine e_iload_n dX6_gap_17 rfl rfl ?_
        refine e_iconst (v := -1) dX6_gap_18 rfl ?_
        first | ((with_reducible refine mk_mo ?_); refine p_icmp_ne (tgt := 26) dX6_gap_19 (by decide) (fun h19 => ?_) (fun h19 => ?_)) | ((with_reducible refine mk_ms ?_); refine s_icmp_ne (tgt := 26) dX6_gap_19 (by decide) (by omega) (fun h19 => ?_) (fun h19 => ?_)) | ((with_reducible refine mk_mn ?_); refine q_icmp_ne (tgt := 26) dX6_gap_19 (by decide) (by omega) (fun h19 => ?_) (fun h19 => ?_)) | ((with_reducible refine mk_nn ?_); refine n_icmp_ne (tgt := 26) dX6_gap_19 (by decide) (by omega) (by omega) (fun h19 => ?_) (fun h19 => ?_)) | refine e_icmp_ne (tgt := 26) dX6_gap_19 (by decide) (fun h19 => ?_) (fun h19 => ?_)
        · try first | contradiction | omega
          all_goals
            refine e_aload_n dX6_gap_26 rfl rfl ?_
            refine e_getR dX6_gap_27 fl_X6_25 rfl (cp_load cm) ?_
            refine e_iload_n dX6_gap_30 rfl rfl ?_
            refine e_iadE _ dX6_gap_31 ⟨by decide, by decide⟩ rfl rfl (by simp only [lenK]; omega) (pl_ld hP (by omega)) ?_
            refine e_aload_n dX6_gap_32 rfl rfl ?_
            refine e_getR dX6_gap_33 fl_X6_25 rfl (cp_load cm) ?_
            refine e_iload_n dX6_gap_36 rfl rfl ?_
            refine e_iadE _ dX6_gap_37 ⟨by decide, by decide⟩ rfl rfl (by simp only [lenK]; omega) (pl_ld hP (by omega)) ?_
            first | ((with_reducible refine mk_nn ?_); refine n_isub dX6_gap_38 (by omega) ?_) | refine e_isub dX6_gap_38 ?_
            refine e_ret (some _) rfl (r_int dX6_gap_39 rfl) ?_
            exact xq rfl rfl rfl rfl rfl rfl
        · try first | contradiction | omega
          all_goals
            refine e_iconst (v := -1) dX6_gap_22 rfl ?_
            refine e_goto (tgt := 39) dX6_gap_23 (by decide) ?_
            refine e_ret (some _) rfl (r_int dX6_gap_39 rfl) ?_
            exact xq rfl rfl rfl rfl rfl rfl
  | some a =>
    have ha6 := (bst_in hh).1
    cases hl : obL w u with
    | none =>
      have e : evB w u = none := by unfold evB; rw [hh, hl]
      rw [e]
      refine e_aload_n dX6_gap_0 rfl rfl ?_
      refine e_iload_n dX6_gap_1 rfl rfl ?_
      refine x_V1 (M' := mX6_heaviest) dX6_gap_2 ml_X6_67 ok_X6_heaviest (by decide) rfl im_X6_heaviest se_X6_heaviest (by first | exact ct_heaviestN cm iv hP | exact ct_heaviestB cm iv hP (by omega)) (Nat.le_of_ble_eq_true rfl) (by decide) (Nat.le_of_ble_eq_true rfl) ?_
      rw [hh, oI_s]
      refine e_istore_n dX6_gap_5 rfl (Nat.le_of_ble_eq_true rfl) rfl ?_
      refine e_aload_n dX6_gap_6 rfl rfl ?_
      refine e_iload_n dX6_gap_7 rfl rfl ?_
      refine x_V1 (M' := mX6_lightest) dX6_gap_8 ml_X6_70 ok_X6_lightest (by decide) rfl im_X6_lightest se_X6_lightest (by first | exact ct_lightestN cm iv hP | exact ct_lightestB cm iv hP (by omega)) (Nat.le_of_ble_eq_true rfl) (by decide) (Nat.le_of_ble_eq_true rfl) ?_
      rw [hl]
      refine e_istore_n dX6_gap_11 rfl (Nat.le_of_ble_eq_true rfl) rfl ?_
      refine e_iload_n dX6_gap_12 rfl rfl ?_
      refine e_iconst (v := -1) dX6_gap_13 rfl ?_
      first | ((with_reducible refine mk_mo ?_); refine p_icmp_eq (tgt := 22) dX6_gap_14 (by decide) (fun h14 => ?_) (fun h14 => ?_)) | ((with_reducible refine mk_ms ?_); refine s_icmp_eq (tgt := 22) dX6_gap_14 (by decide) (by omega) (fun h14 => ?_) (fun h14 => ?_)) | ((with_reducible refine mk_mn ?_); refine q_icmp_eq (tgt := 22) dX6_gap_14 (by decide) (by omega) (fun h14 => ?_) (fun h14 => ?_)) | ((with_reducible refine mk_nn ?_); refine n_icmp_eq (tgt := 22) dX6_gap_14 (by decide) (by omega) (by omega) (fun h14 => ?_) (fun h14 => ?_)) | refine e_icmp_eq (tgt := 22) dX6_gap_14 (by decide) (fun h14 => ?_) (fun h14 => ?_)
      · try first | contradiction | omega
        all_goals
          refine e_iconst (v := -1) dX6_gap_22 rfl ?_
          refine e_goto (tgt := 39) dX6_gap_23 (by decide) ?_
          refine e_ret (some _) rfl (r_int dX6_gap_39 rfl) ?_
          exact xq rfl rfl rfl rfl rfl rfl
      · try first | contradiction | omega
        all_goals
          refine e_iload_n dX6_gap_17 rfl rfl ?_
          refine e_iconst (v := -1) dX6_gap_18 rfl ?_
          first | ((with_reducible refine mk_mo ?_); refine p_icmp_ne (tgt := 26) dX6_gap_19 (by decide) (fun h19 => ?_) (fun h19 => ?_)) | ((with_reducible refine mk_ms ?_); refine s_icmp_ne (tgt := 26) dX6_gap_19 (by decide) (by omega) (fun h19 => ?_) (fun h19 => ?_)) | ((with_reducible refine mk_mn ?_); refine q_icmp_ne (tgt := 26) dX6_gap_19 (by decide) (by omega) (fun h19 => ?_) (fun h19 => ?_)) | ((with_reducible refine mk_nn ?_); refine n_icmp_ne (tgt := 26) dX6_gap_19 (by decide) (by omega) (by omega) (fun h19 => ?_) (fun h19 => ?_)) | refine e_icmp_ne (tgt := 26) dX6_gap_19 (by decide) (fun h19 => ?_) (fun h19 => ?_)
          · try first | contradiction | omega
            all_goals
              refine e_aload_n dX6_gap_26 rfl rfl ?_
              refine e_getR dX6_gap_27 fl_X6_25 rfl (cp_load cm) ?_
              refine e_iload_n dX6_gap_30 rfl rfl ?_
              refine e_iadE _ dX6_gap_31 ⟨by decide, by decide⟩ rfl rfl (by simp only [lenK]; omega) (pl_ld hP (by omega)) ?_
              refine e_aload_n dX6_gap_32 rfl rfl ?_
              refine e_getR dX6_gap_33 fl_X6_25 rfl (cp_load cm) ?_
              refine e_iload_n dX6_gap_36 rfl rfl ?_
              refine e_iadE _ dX6_gap_37 ⟨by decide, by decide⟩ rfl rfl (by simp only [lenK]; omega) (pl_ld hP (by omega)) ?_
              first | ((with_reducible refine mk_nn ?_); refine n_isub dX6_gap_38 (by omega) ?_) | refine e_isub dX6_gap_38 ?_
              refine e_ret (some _) rfl (r_int dX6_gap_39 rfl) ?_
              exact xq rfl rfl rfl rfl rfl rfl
          · try first | contradiction | omega
            all_goals
              refine e_iconst (v := -1) dX6_gap_22 rfl ?_
              refine e_goto (tgt := 39) dX6_gap_23 (by decide) ?_
              refine e_ret (some _) rfl (r_int dX6_gap_39 rfl) ?_
              exact xq rfl rfl rfl rfl rfl rfl
    | some l =>
      have hle := ob_le hh hl
      have hl1 := ldF_le2 iv a
      have e : evB w u = some (ldF w a - ldF w l) := by unfold evB; rw [hh, hl]
      rw [e]
      refine e_aload_n dX6_gap_0 rfl rfl ?_
      refine e_iload_n dX6_gap_1 rfl rfl ?_
      refine x_V1 (M' := mX6_heaviest) dX6_gap_2 ml_X6_67 ok_X6_heaviest (by decide) rfl im_X6_heaviest se_X6_heaviest (by first | exact ct_heaviestN cm iv hP | exact ct_heaviestB cm iv hP (by omega)) (Nat.le_of_ble_eq_true rfl) (by decide) (Nat.le_of_ble_eq_true rfl) ?_
      rw [hh, oI_s]
      refine e_istore_n dX6_gap_5 rfl (Nat.le_of_ble_eq_true rfl) rfl ?_
      refine e_aload_n dX6_gap_6 rfl rfl ?_
      refine e_iload_n dX6_gap_7 rfl rfl ?_
      refine x_V1 (M' := mX6_lightest) dX6_gap_8 ml_X6_70 ok_X6_lightest (by decide) rfl im_X6_lightest se_X6_lightest (by first | exact ct_lightestN cm iv hP | exact ct_lightestB cm iv hP (by omega)) (Nat.le_of_ble_eq_true rfl) (by decide) (Nat.le_of_ble_eq_true rfl) ?_
      rw [hl, oI_s]
      refine e_istore_n dX6_gap_11 rfl (Nat.le_of_ble_eq_true rfl) rfl ?_
      refine e_iload_n dX6_gap_12 rfl rfl ?_
      refine e_iconst (v := -1) dX6_gap_13 rfl ?_
      first | ((with_reducible refine mk_mo ?_); refine p_icmp_eq (tgt := 22) dX6_gap_14 (by decide) (fun h14 => ?_) (fun h14 => ?_)) | ((with_reducible refine mk_ms ?_); refine s_icmp_eq (tgt := 22) dX6_gap_14 (by decide) (by omega) (fun h14 => ?_) (fun h14 => ?_)) | ((with_reducible refine mk_mn ?_); refine q_icmp_eq (tgt := 22) dX6_gap_14 (by decide) (by omega) (fun h14 => ?_) (fun h14 => ?_)) | ((with_reducible refine mk_nn ?_); refine n_icmp_eq (tgt := 22) dX6_gap_14 (by decide) (by omega) (by omega) (fun h14 => ?_) (fun h14 => ?_)) | refine e_icmp_eq (tgt := 22) dX6_gap_14 (by decide) (fun h14 => ?_) (fun h14 => ?_)
      · try first | contradiction | omega
        all_goals
          refine e_iconst (v := -1) dX6_gap_22 rfl ?_
          refine e_goto (tgt := 39) dX6_gap_23 (by decide) ?_
          refine e_ret (some _) rfl (r_int dX6_gap_39 rfl) ?_
          exact xq rfl rfl rfl rfl rfl rfl
      · try first | contradiction | omega
        all_goals
          refine e_iload_n dX6_gap_17 rfl rfl ?_
          refine e_iconst (v := -1) dX6_gap_18 rfl ?_
          first | ((with_reducible refine mk_mo ?_); refine p_icmp_ne (tgt := 26) dX6_gap_19 (by decide) (fun h19 => ?_) (fun h19 => ?_)) | ((with_reducible refine mk_ms ?_); refine s_icmp_ne (tgt := 26) dX6_gap_19 (by decide) (by omega) (fun h19 => ?_) (fun h19 => ?_)) | ((with_reducible refine mk_mn ?_); refine q_icmp_ne (tgt := 26) dX6_gap_19 (by decide) (by omega) (fun h19 => ?_) (fun h19 => ?_)) | ((with_reducible refine mk_nn ?_); refine n_icmp_ne (tgt := 26) dX6_gap_19 (by decide) (by omega) (by omega) (fun h19 => ?_) (fun h19 => ?_)) | refine e_icmp_ne (tgt := 26) dX6_gap_19 (by decide) (fun h19 => ?_) (fun h19 => ?_)
          · try first | contradiction | omega
            all_goals
              refine e_aload_n dX6_gap_26 rfl rfl ?_
              refine e_getR dX6_gap_27 fl_X6_25 rfl (cp_load cm) ?_
              refine e_iload_n dX6_gap_30 rfl rfl ?_
              refine e_iadE _ dX6_gap_31 ⟨by decide, by decide⟩ rfl rfl (by simp only [lenK]; omega) (pl_ld hP (by omega)) ?_
              refine e_aload_n dX6_gap_32 rfl rfl ?_
              refine e_getR dX6_gap_33 fl_X6_25 rfl (cp_load cm) ?_
              refine e_iload_n dX6_gap_36 rfl rfl ?_
              refine e_iadE _ dX6_gap_37 ⟨by decide, by decide⟩ rfl rfl (by simp only [lenK]; omega) (pl_ld hP (by omega)) ?_
              first | ((with_reducible refine mk_nn ?_); refine n_isub dX6_gap_38 (by omega) ?_) | refine e_isub dX6_gap_38 ?_
              refine e_ret (some _) rfl (r_int dX6_gap_39 rfl) ?_
              exact xq rfl rfl rfl rfl rfl rfl
          · try first | contradiction | omega
            all_goals
              refine e_iconst (v := -1) dX6_gap_22 rfl ?_
              refine e_goto (tgt := 39) dX6_gap_23 (by decide) ?_
              refine e_ret (some _) rfl (r_int dX6_gap_39 rfl) ?_
              exact xq rfl rfl rfl rfl rfl rfl
