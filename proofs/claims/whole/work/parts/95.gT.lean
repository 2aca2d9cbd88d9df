def GW (w : Nat → Nat) : Prop := Inv w ∧ Inv2 w ∧ cnt (goB w) (w 3) ≤ 4
/-- what an act may do to the row: e: by how much the epoch may go on, n: a weight -/
def TR (w w' : Nat → Nat) (e n : Nat) : Prop := GW w' ∧ w 0 ≤ w' 0 ∧ w' 0 ≤ w 0 + e ∧ ∀ k, k < 1000 → w' (106 + k) ≤ w (106 + k) + n
theorem TR_rf {w : Nat → Nat} (h : GW w) {e n : Nat} : TR w w e n := ⟨h, Nat.le_refl _, Nat.le_add_right _ _, fun k _ => Nat.le_add_right _ _⟩
theorem TR_tr {w w1 w2 : Nat → Nat} {e1 n1 e2 n2 : Nat} (h : TR w w1 e1 n1) (g : TR w1 w2 e2 n2) : TR w w2 (e1 + e2) (n1 + n2) :=
  ⟨g.1, Nat.le_trans h.2.1 g.2.1, by have := h.2.2.1; have := g.2.2.1; omega, fun k hk => by have := h.2.2.2 k hk; have := g.2.2.2 k hk; omega⟩
theorem TR_up {w w' : Nat → Nat} {e n e' n' : Nat} (h : TR w w' e n) (he : e ≤ e') (hn : n ≤ n') : TR w w' e' n' :=
  ⟨h.1, h.2.1, by have := h.2.2.1; omega, fun k hk => by have := h.2.2.2 k hk; omega⟩
theorem go_le {w w' : Nat → Nat} (h3 : w' 3 = w 3) (hg : ∀ m, m < w 3 → goB w' m = true → goB w m = true) (h : cnt (goB w) (w 3) ≤ 4) : cnt (goB w') (w' 3) ≤ 4 := by
  rw [h3]
  exact Nat.le_trans (cnt_sub _ hg) h
theorem TR_of {w w' : Nat → Nat} {e n : Nat} (h : GW w) (i1 : Inv w') (i2 : Inv2 w') (h3 : w' 3 = w 3) (hg : ∀ m, m < w 3 → w' (7694 + 72 * m + 0) = w (7694 + 72 * m + 0)) (h0 : w 0 ≤ w' 0 ∧ w' 0 ≤ w 0 + e) (hw : ∀ k, k < 1000 → w' (106 + k) ≤ w (106 + k) + n) : TR w w' e n :=
  ⟨⟨i1, i2, go_le h3 (fun m hm hh => by rw [goB_e (hg m hm)] at hh; exact hh) h.2.2⟩, h0.1, h0.2, hw⟩
theorem T_fet {w : Nat → Nat} (h : GW w) {c : Nat} (hc : c < 6) : TR w (fetW w c) 0 0 :=
  TR_of h (fet_Inv h.1 h.2.1.1 hc) (fet_I2 h.1 h.2.1 hc) (fcF_lo w c (w 1) 3 (by decide)) (fun m hm => fcF_hi w c (w 1) _ hc (iv_n h.1).2 (by omega))
    ⟨Nat.le_of_eq (fcF_lo w c (w 1) 0 (by decide)).symm, Nat.le_of_eq (fcF_lo w c (w 1) 0 (by decide))⟩ (fun k hk => Nat.le_of_eq (fcF_lo w c (w 1) (106 + k) (by omega)))
theorem T_ask {w : Nat → Nat} (h : GW w) {c k v : Nat} (hc : c < 6) (hk : k < 1000) (hv : v ≤ 99999) (hw : w (106 + k) + 2 ≤ 100000) : TR w (askW w c k v) 0 2 :=
  TR_of h (ask_Inv h.1 hc hk hv hw) (ask_I2 h.1 h.2.1 hc hk) (ask_fr h.1 hc hk (by omega)) (fun m hm => ask_mv h.1 hk (by have := iv_mm h.1; omega) (by decide) (by decide))
    ⟨Nat.le_of_eq (ask_fr h.1 hc hk (by omega)).symm, Nat.le_of_eq (ask_fr h.1 hc hk (by omega))⟩ (fun j hj => ask_wt h.1 hk hj)
theorem T_spc {w : Nat → Nat} (h : GW w) {i key : Nat} (hi : i < w 1) (hn : w 1 ≤ 31) (hk : w (10 + i) < key ∧ key < enF w i) (h0 : w 0 < 1999) (hm : (mvL w (w (10 + i))).isNone = true) : TR w (spcW w i key) 1 0 ∧ spcW w i key 0 = w 0 + 1 := by
  have hv := spl_v (key := key) hi hn
  have e : ∀ q, q < 8558 → spcW w i key q = splW w i key q := fun q hq => upN_n (by omega)
  have e0 : spcW w i key 0 = w 0 + 1 := (e 0 (by decide)).trans hv.1
  refine ⟨TR_of h (spc_Inv h.1 hi hn hk h0) (spc_I2 h.1 h.2.1 hi hn hk h0 hm) ((e 3 (by decide)).trans (hv.2.2.2.2.2 3 (by omega))) (fun m hm => ?_) (by omega) (fun k hk => ?_), e0⟩
  · have := iv_mm h.1
    rw [e _ (by omega), hv.2.2.2.2.2 _ (by omega)]
  · rw [e _ (by omega), hv.2.2.2.2.2 _ (by omega)]
    exact Nat.le_refl _
theorem csB_mv {w : Nat → Nat} {i : Nat} {y : Int32} (h : csB w i y = true) : (mvL w (w (10 + i))).isNone = true := by
  unfold csB at h
  simp only [Bool.and_eq_true] at h
  exact h.1.2
theorem T_spt {w : Nat → Nat} (h : GW w) (h0 : w 0 < 1999) {q : Option Nat} (hq : ∀ i, q = some i → i < w 1) (y : Int32) : TR w (sptW w q y) 1 0 := by
  cases q with
  | none => exact TR_rf h
  | some i =>
    show TR w (if csB w i y then spcW w i y.toNatClampNeg else w) 1 0
    split
    · rename_i hc
      obtain ⟨hn, k, hk1, hk2, _, hk4⟩ := csB_ex h.1 (hq i rfl) hc
      rw [hk4]
      exact (T_spc h (hq i rfl) hn ⟨hk1, hk2⟩ h0 (csB_mv hc)).1
    · exact TR_rf h
theorem mdlO_lt {w : Nat → Nat} (iv : Inv w) {x : Int32} {i k : Nat} (h : mdlO w x = some (i, k)) : i < w 1 := by
  unfold mdlO at h
  split at h
  · cases h
  · rename_i j hj
    split at h
    · cases h
    · simp only [Option.some.injEq, Prod.mk.injEq] at h
      rw [← h.1]
      exact (nmO_lt iv hj).1
theorem T_mdl {w : Nat → Nat} (h : GW w) (h0 : w 0 < 1999) (x : Int32) : TR w (mdlW w x) 1 0 := by
  unfold mdlW
  split
  · exact TR_rf h
  · rename_i i k hk
    exact T_spt h h0 (fun j hj => by cases hj; exact mdlO_lt h.1 hk) _
theorem T_joi {w : Nat → Nat} (h : GW w) {i : Nat} (hi : i + 1 < w 1) (h0 : w 0 < 1999) (hm : (mvL w (w (10 + i))).isNone = true) (hm2 : (mvL w (w (10 + (i + 1)))).isNone = true) : TR w (joiW w i) 1 0 ∧ joiW w i 0 = w 0 + 1 := by
  have hv := joi_v hi (iv_n h.1).2
  refine ⟨TR_of h (joi_Inv h.1 hi h0) (joi_I2 h.1 h.2.1 hi hm hm2) (hv.2.2.2.2.2 3 (by omega)) (fun m hm => ?_) (by omega) (fun k hk => ?_), hv.1⟩
  · have := iv_mm h.1
    rw [hv.2.2.2.2.2 _ (by omega)]
  · rw [hv.2.2.2.2.2 _ (by omega)]
    exact Nat.le_refl _
theorem joiB_x {w : Nat → Nat} {i : Nat} (hi : i < w 1) (h : joiB w (some i) = true) : i + 1 < w 1 ∧ (mvL w (w (10 + i))).isNone = true ∧ (mvL w (w (10 + (i + 1)))).isNone = true := by
  unfold joiB at h
  simp only [Bool.and_eq_true, decide_eq_true_eq] at h
  exact ⟨by omega, h.1.2, h.2⟩
theorem T_jon {w : Nat → Nat} (h : GW w) (h0 : w 0 < 1999) {q : Option Nat} (hq : ∀ i, q = some i → i < w 1) : TR w (jonW w q) 1 0 := by
  unfold jonW
  split
  · rename_i hb
    cases q with
    | none => exact TR_rf h
    | some i =>
      obtain ⟨a, b, c⟩ := joiB_x (hq i rfl) hb
      exact (T_joi h a h0 b c).1
  · exact TR_rf h
theorem T_mov {w : Nat → Nat} (h : GW w) {i s : Nat} (hi : i < w 1) (hs : s < 6) (hc : movC w i s = true) : TR w (movW w i s) 0 0 := by
  have h3 := iv_mm h.1
  have hx : w 3 ≠ 12 ∧ cnt (goB w) (w 3) ≠ 4 := by
    unfold movC at hc
    simp only [Bool.and_eq_true, decide_eq_true_eq] at hc
    exact ⟨hc.1.2, hc.2⟩
  have h12 : w 3 < 12 := by omega
  have f := fun (q : Nat) (a : q ≠ 3) (b : q < 7694 + 72 * w 3 ∨ (7694 + 72 * w 3 + 72 ≤ q ∧ q ≠ 8558 + 8)) => mov_fr (i := i) (s := s) h12 a b
  have e3 : movW w i s 3 = w 3 + 1 := by rw [mov_v h12, if_neg (by omega), if_pos rfl]
  refine ⟨⟨mov_Inv h.1 hi hs h12, mov_I2 h.1 h.2.1 hi hs h12 hc, ?_⟩, Nat.le_of_eq (f 0 (by omega) (by omega)).symm, Nat.le_of_eq (f 0 (by omega) (by omega)), fun k hk => Nat.le_of_eq (f _ (by omega) (by omega))⟩
  rw [e3]
  show cnt (goB (movW w i s)) (w 3) + (if goB (movW w i s) (w 3) then 1 else 0) ≤ 4
  have hc2 : cnt (goB (movW w i s)) (w 3) = cnt (goB w) (w 3) := cnt_ext _ (fun m hm => goB_e (f _ (by omega) (by omega)))
  have := h.2.2
  rw [hc2]
  split <;> omega
theorem T_mv {w : Nat → Nat} (h : GW w) {q : Option Nat} (hq : ∀ i, q = some i → i < w 1) (y : Int32) : TR w (mvW w q y) 0 0 := by
  unfold mvW
  split
  · rename_i hb
    cases q with
    | none => exact TR_rf h
    | some i =>
      have hb' : (inR y 6 && movC w i y.toNatClampNeg) = true := hb
      simp only [Bool.and_eq_true] at hb'
      have hy : y.toNatClampNeg < 6 := by
        have := of_decide_eq_true hb'.1
        show y.toInt.toNat < 6
        omega
      exact T_mov h (hq i rfl) hy hb'.2
  · exact TR_rf h
theorem csN_x {w : Nat → Nat} {m : Nat} (h : csN w m = true) : goB w m = true ∧ w (7694 + 72 * m + 7) = 0 ∧ 1 ≤ w (7694 + 72 * m + 0) ∧ w (7694 + 72 * m + 0) ≤ 4 := by
  unfold csN at h
  simp only [Bool.and_eq_true, decide_eq_true_eq] at h
  have := of_decide_eq_true h.1
  exact ⟨h.1, h.2, this⟩
/-- many steps: the row and the epoch -/
theorem st_T {w : Nat → Nat} (h : GW w) {m : Nat} (hm : m < w 3) (h0 : w 0 < 1999) : ∀ k, cnt (goB (st1 w m k)) (w 3) ≤ 4 ∧ w 0 ≤ st1 w m k 0 ∧ st1 w m k 0 ≤ w 0 + 1 ∧ (st1 w m k (7694 + 72 * m + 0) ≤ 3 → st1 w m k 0 = w 0) ∧ ∀ j, j < 1000 → st1 w m k (106 + j) = w (106 + j)
  | 0 => ⟨h.2.2, Nat.le_refl _, Nat.le_add_right _ _, fun _ => rfl, fun _ _ => rfl⟩
  | k + 1 => by
    obtain ⟨a1, a2, a3, a4, a5⟩ := st_T h hm h0 k
    obtain ⟨b1, b2, b3, b4⟩ := st_all h.1 h.2.1 hm h0 k
    have hmm := iv_mm h.1
    show cnt (goB (if csN (st1 w m k) m then sonW (st1 w m k) m else st1 w m k)) (w 3) ≤ 4 ∧ _
    by_cases hc : csN (st1 w m k) m = true
    · have e : st1 w m (k + 1) = sonW (st1 w m k) m := if_pos hc
      rw [e, if_pos hc]
      obtain ⟨c1, c2, c3⟩ := csN_x hc
      generalize st1 w m k = x at *
      have hx : m < x 3 := by rw [b3]; exact hm
      have S := sonW_St b1 hx (fun q => b4 (by omega))
      have F := (son_f b1 hx c3).2.1
      have Z := son_0 b1 hx c3
      have Y := sonW_0 b1 hx c3
      refine ⟨?_, ?_, ?_, ?_, ?_⟩
      · refine Nat.le_trans (cnt_sub (q := goB x) _ (fun i hi hg => ?_)) a1
        by_cases him : i = m
        · rw [him]; exact c1
        · rw [goB_e (S.1 _ (by omega) (by unfold stO; omega))] at hg
          exact hg
      · rcases F with ⟨F, _⟩ | ⟨F, _⟩ <;> rw [F] <;> omega
      · by_cases h4 : x (7694 + 72 * m + 0) = 4
        · rw [Z.1 (Or.inr (by omega))]; exact a3
        · have := a4 (by omega)
          rcases F with ⟨F, _⟩ | ⟨F, _⟩ <;> rw [F] <;> omega
      · intro hs
        obtain ⟨y1, y2⟩ := Y hs
        rw [y1]
        exact a4 y2
      · intro j hj
        rw [S.1 _ (by omega) (by unfold stO; omega)]
        exact a5 j hj
    · have e : st1 w m (k + 1) = st1 w m k := if_neg hc
      rw [e, if_neg hc]
      exact ⟨a1, a2, a3, a4, a5⟩
theorem T_st {w : Nat → Nat} (h : GW w) {m : Nat} (hm : m < w 3) (h0 : w 0 < 1999) (k : Nat) : TR w (st1 w m k) 1 0 := by
  obtain ⟨a1, a2, a3, _, a5⟩ := st_T h hm h0 k
  obtain ⟨b1, b2, b3, _⟩ := st_all h.1 h.2.1 hm h0 k
  exact ⟨⟨b1, b2, by rw [b3]; exact a1⟩, a2, a3, fun j hj => Nat.le_of_eq (a5 j hj)⟩
theorem inR_c {x : Int32} {n : Nat} (h : inR x n = true) : x.toNatClampNeg < n ∧ 0 ≤ x.toInt ∧ x.toInt < n := by
  have := of_decide_eq_true h
  refine ⟨?_, this⟩
  show x.toInt.toNat < n
  omega
theorem stpB_m {w : Nat → Nat} {x y : Int32} (h : stpB w x y = true) : x.toNatClampNeg < w 3 := by
  unfold stpB csT at h
  simp only [Bool.and_eq_true] at h
  exact (inR_c h.2.1.1).1
theorem T_stp {w : Nat → Nat} (h : GW w) (h0 : w 0 < 1999) (x y : Int32) : TR w (if stpB w x y then st1 w x.toNatClampNeg y.toNatClampNeg else w) 1 0 := by
  split
  · rename_i hb
    exact T_st h (stpB_m hb) h0 _
  · exact TR_rf h
theorem T_fai {w : Nat → Nat} (h : GW w) (x y : Int32) : TR w (if faiB w x y then upN w (7694 + 72 * x.toNatClampNeg + 10) y.toNatClampNeg else w) 0 0 := by
  split
  · rename_i hb
    unfold faiB at hb
    simp only [Bool.and_eq_true] at hb
    have hm := (inR_c hb.1.2).1
    have hv := (inR_c hb.1.1).1
    exact TR_of h (Inv_m8 h.1 hm 10 (Or.inr (Or.inr (Or.inl ⟨rfl, by omega⟩)))) (fai_I2 h.1 h.2.1) (upN_n (by omega)) (fun m _ => upN_n (by omega)) ⟨Nat.le_of_eq (upN_n (by omega)).symm, Nat.le_of_eq (upN_n (by omega))⟩ (fun k hk => Nat.le_of_eq (upN_n (by omega)))
  · exact TR_rf h
theorem T_dow {w : Nat → Nat} (h : GW w) (x : Int32) : TR w (dowW w x) 0 0 := by
  unfold dowW
  split
  · rename_i hb
    unfold dowB at hb
    simp only [Bool.and_eq_true] at hb
    have hs := (inR_c hb.1).1
    have h3 := iv_mm h.1
    have f := fun (q : Nat) (a : q ≠ 4 + x.toNatClampNeg) (b : ∀ m, m < w 3 → q < 7694 + 72 * m + 6 ∨ 7694 + 72 * m + 8 < q) => dnF_fr (w := w) (s := x.toNatClampNeg) a (w 3) b
    exact TR_of h (dnF_Inv h.1 hs (w 3) (Nat.le_refl _)) (dn_I2 h.1 h.2.1 hs) (f 3 (by omega) (fun m hm => by omega)) (fun m _ => f _ (by omega) (fun m' hm' => by omega)) ⟨Nat.le_of_eq (f 0 (by omega) (fun m hm => by omega)).symm, Nat.le_of_eq (f 0 (by omega) (fun m hm => by omega))⟩ (fun k hk => Nat.le_of_eq (f _ (by omega) (fun m hm => by omega)))
  · exact TR_rf h
theorem T_upp {w : Nat → Nat} (h : GW w) (x : Int32) : TR w (if inR x 6 && decide (w (4 + x.toNatClampNeg) ≠ 1) then upN w (4 + x.toNatClampNeg) 1 else w) 0 0 := by
  split
  · rename_i hb
    simp only [Bool.and_eq_true] at hb
    have hs := (inR_c hb.1).1
    exact TR_of h (up_Inv h.1 hs (by decide)) (up_I2 h.1 h.2.1 hs) (upN_n (by omega)) (fun m _ => upN_n (by omega)) ⟨Nat.le_of_eq (upN_n (by omega)).symm, Nat.le_of_eq (upN_n (by omega))⟩ (fun k hk => Nat.le_of_eq (upN_n (by omega)))
  · exact TR_rf h
theorem T_end {w : Nat → Nat} (h : GW w) {m : Nat} (hm : m < w 3) (hg : goB w m = true) : TR w (endW w m) 0 0 := by
  have h3 := iv_mm h.1
  have f := fun (q : Nat) (a : q < 1106 ∨ 7106 ≤ q) (b : q ≠ 7694 + 72 * m + 0) (c : q ≠ 7694 + 72 * m + 7) (d : q < 8558) => end_fr h.1 hm a b c d
  refine ⟨⟨end_Inv h.1 hm, end_I2 h.1 h.2.1 hm hg, go_le (f 3 (by omega) (by omega) (by omega) (by omega)) (fun i hi hh => ?_) h.2.2⟩, Nat.le_of_eq (f 0 (by omega) (by omega) (by omega) (by omega)).symm, Nat.le_of_eq (f 0 (by omega) (by omega) (by omega) (by omega)), fun k hk => Nat.le_of_eq (f _ (by omega) (by omega) (by omega) (by omega))⟩
  by_cases him : i = m
  · rw [him]; exact hg
  · rw [goB_e (f _ (by omega) (by omega) (by omega) (by omega))] at hh
    exact hh
theorem T_rec {w : Nat → Nat} (h : GW w) (x : Int32) : TR w (if recB w x then endW w x.toNatClampNeg else w) 0 0 := by
  split
  · rename_i hb
    unfold recB at hb
    simp only [Bool.and_eq_true] at hb
    exact T_end h (inR_c hb.1.1.1).1 hb.1.1.2
  · exact TR_rf h
theorem T_giv {w : Nat → Nat} (h : GW w) (x : Int32) : TR w (if givB w x then endW w x.toNatClampNeg else w) 0 0 := by
  split
  · rename_i hb
    unfold givB csT at hb
    simp only [Bool.and_eq_true] at hb
    exact T_end h (inR_c hb.1.1.1.1).1 hb.1.1.1.2
  · exact TR_rf h
theorem T_age {w : Nat → Nat} (h : GW w) : TR w (ageW w) 0 0 :=
  TR_of h (ageW_Inv h.1) (age_I2 h.1 h.2.1) (agF_fr (by omega)) (fun m _ => agF_fr (by omega)) ⟨Nat.le_of_eq (agF_fr (by omega)).symm, Nat.le_of_eq (agF_fr (by omega))⟩ (fun k hk => by
    show (if 106 ≤ 106 + k ∧ 106 + k < 106 + 1000 then w (106 + k) / 2 else w (106 + k)) ≤ _
    split <;> omega)
theorem T_chk {w : Nat → Nat} (h : GW w) (x : Int32) : TR w (if 1 ≤ x.toInt ∧ x.toInt ≤ 16 then upN w 2 x.toNatClampNeg else w) 0 0 := by
  split
  · rename_i hb
    have e : x.toNatClampNeg = x.toInt.toNat := rfl
    exact TR_of h (chk_Inv h.1 (by omega) (by omega)) (chk_I2 h.1 h.2.1) (upN_n (by omega)) (fun m _ => upN_n (by omega)) ⟨Nat.le_of_eq (upN_n (by omega)).symm, Nat.le_of_eq (upN_n (by omega))⟩ (fun k hk => Nat.le_of_eq (upN_n (by omega)))
  · exact TR_rf h
theorem T_red {w : Nat → Nat} (h : GW w) (hwt : ∀ k, k < 1000 → w (106 + k) + 2 ≤ 100000) (x y : Int32) : TR w (redW w x y) 0 2 := by
  unfold redW
  split
  · rename_i hb
    exact T_ask h (inR_c hb.1).1 (inR_c hb.2).1 (by decide) (hwt _ (inR_c hb.2).1)
  · exact TR_rf h
theorem cwB_x {x y v : Int32} (h : cwB x y v = true) : x.toNatClampNeg < 6 ∧ y.toNatClampNeg < 1000 ∧ v.toNatClampNeg ≤ 99999 := by
  unfold cwB at h
  simp only [Bool.and_eq_true, decide_eq_true_eq] at h
  refine ⟨(inR_c h.1.1).1, (inR_c h.1.2).1, ?_⟩
  show v.toInt.toNat ≤ 99999
  omega
theorem T_wri {w : Nat → Nat} (h : GW w) (hwt : ∀ k, k < 1000 → w (106 + k) + 2 ≤ 100000) (x y z : Int32) : TR w (wriW w x y z) 0 2 := by
  unfold wriW
  split
  · rename_i hb
    obtain ⟨a, b, c⟩ := cwB_x hb
    exact T_ask h a b c (hwt _ b)
  · exact TR_rf h
theorem T_ins {w : Nat → Nat} (h : GW w) (hwt : ∀ k, k < 1000 → w (106 + k) + 4 ≤ 100000) (x y z : Int32) : TR w (insW w x y z) 0 4 := by
  unfold insW
  split
  · rename_i hb
    obtain ⟨a, b, c⟩ := cwB_x hb
    have t1 := T_ask h a b c (by have := hwt _ b; omega)
    split
    · have t2 := T_fet t1.1 a
      have t3 := T_ask (k := y.toNatClampNeg) (v := z.toNatClampNeg) t2.1 a b c (by have := hwt _ b; have := t1.2.2.2 _ b; have := t2.2.2.2 _ b; omega)
      exact TR_up (TR_tr (TR_tr t1 t2) t3) (by decide) (by decide)
    · exact TR_up t1 (by decide) (by decide)
  · exact TR_rf h
theorem T_scF {c : Nat} (hc : c < 6) : ∀ (l k n : Nat) {w : Nat → Nat}, GW w → k + l ≤ 1000 → (∀ j, j < 1000 → w (106 + j) + 2 * l ≤ 100000) → TR w (scF c l k n w).2 0 (2 * l)
  | 0, k, n, w, h, _, _ => TR_rf h
  | l + 1, k, n, w, h, hk, hwt => by
    have t1 := T_ask (v := 0) h hc (show k < 1000 by omega) (by decide) (by have := hwt k (by omega); omega)
    unfold scF
    split
    · have t2 := T_scF hc l (k + 1) (n + (if 0 < w (1106 + 1000 * w (42 + spW w k) + k) then 1 else 0)) t1.1 (by omega) (fun j hj => by have := hwt j hj; have := t1.2.2.2 j hj; omega)
      exact TR_up (TR_tr t1 t2) (by omega) (by omega)
    · exact TR_up t1 (by omega) (by omega)
theorem T_scn {w : Nat → Nat} (h : GW w) (hwt : ∀ k, k < 1000 → w (106 + k) + 122 ≤ 100000) (x y z : Int32) : TR w (scnW w x y z) 0 122 := by
  unfold scnW
  split
  · rename_i hb
    unfold scnB at hb
    simp only [Bool.and_eq_true, decide_eq_true_eq] at hb
    have hy := inR_c hb.1.1.2
    have hz := inR_c hb.1.2
    have e1 : y.toNatClampNeg = y.toInt.toNat := rfl
    have e2 : z.toNatClampNeg = z.toInt.toNat := rfl
    exact TR_up (T_scF (inR_c hb.1.1.1).1 (z.toNatClampNeg - y.toNatClampNeg + 1) y.toNatClampNeg 0 h (by omega) (fun j hj => by have := hwt j hj; omega)) (by omega) (by omega)
  · exact TR_rf h
/-- the reference's notes of changes against the class's -/
def CHG (ch : Nat → Int32) (lg : Nat → Nat) (E : Nat) : Prop := (lg 0 = 0 ∧ lg 1 = 0) ∧ ∀ e, 2 ≤ e → e ≤ E → ch (3 * e) = nI (lg e % 4) ∧ ch (3 * e + 1) = nI (lg e / 4 / 6) ∧ ch (3 * e + 2) = nI (lg e / 4 % 6) ∧ lg e % 4 ≠ 0 ∧ lg e < 24000
theorem CHG_le {ch : Nat → Int32} {lg : Nat → Nat} {E E' : Nat} (h : CHG ch lg E) (he : E' ≤ E) : CHG ch lg E' := ⟨h.1, fun e a b => h.2 e a (by omega)⟩
theorem notA_85 (ai : FI) (e a b c j : Nat) : notA ai e a b c (rf 34 85) j = if j = 3 * e + 2 then nI c else if j = 3 * e + 1 then nI b else if j = 3 * e then nI a else ai (rf 34 85) j := by
  unfold notA up2
  by_cases h2 : j = 3 * e + 2
  · rw [if_pos ⟨rfl, h2⟩, if_pos h2]
  · rw [if_neg (fun q => h2 q.2), if_neg h2]
    by_cases h1 : j = 3 * e + 1
    · rw [if_pos ⟨rfl, h1⟩, if_pos h1]
    · rw [if_neg (fun q => h1 q.2), if_neg h1]
      by_cases h0 : j = 3 * e
      · rw [if_pos ⟨rfl, h0⟩, if_pos h0]
      · rw [if_neg (fun q => h0 q.2), if_neg h0]
theorem notA_o {ai : FI} {e a b c q : Nat} (h : q ≠ rf 34 85) : notA ai e a b c q = ai q := by
  funext j
  unfold notA up2
  rw [if_neg (fun z => h z.1), if_neg (fun z => h z.1), if_neg (fun z => h z.1)]
theorem CHG_not {ai : FI} {lg : Nat → Nat} {E a b c : Nat} (h : CHG (ai (rf 34 85)) lg E) (hE : 1 ≤ E) (ha : 1 ≤ a ∧ a ≤ 3) (hb : b < 1000) (hc : c < 6) : CHG (notA ai (E + 1) a b c (rf 34 85)) (lgN lg (E + 1) a b c) (E + 1) := by
  refine ⟨?_, fun e h1 h2 => ?_⟩
  · unfold lgN
    rw [upN_n (by omega), upN_n (by omega)]
    exact h.1
  · by_cases he : e = E + 1
    · subst he
      have hl : lgN lg (E + 1) a b c (E + 1) = (b * 6 + c) * 4 + a := upN_s _ _ _
      rw [hl, notA_85, notA_85, notA_85, if_neg (by omega), if_neg (by omega), if_pos rfl, if_neg (by omega), if_pos rfl, if_pos rfl]
      refine ⟨congrArg nI (by omega), congrArg nI (by omega), congrArg nI (by omega), by omega, by omega⟩
    · have hl : lgN lg (E + 1) a b c e = lg e := upN_n (by omega)
      rw [hl, notA_85, notA_85, notA_85, if_neg (by omega), if_neg (by omega), if_neg (by omega), if_neg (by omega), if_neg (by omega), if_neg (by omega), if_neg (by omega), if_neg (by omega), if_neg (by omega)]
      exact h.2 e h1 (by omega)
theorem actA_o {ai : FI} {u : Nat} {sc : Bool} {w : Nat → Nat} {q : Nat} (h : q ≠ rf 33 84) : actA ai u sc w q = ai q := by
  unfold actA
  split
  · rfl
  · exact sA_o h
theorem C_spt {ai : FI} {lg w : Nat → Nat} {u : Nat} {sc : Bool} (h : GW w) (h0 : w 0 < 1999) (hc : CHG (ai (rf 34 85)) lg (w 0)) {q : Option Nat} (hq : ∀ i, q = some i → i < w 1) (y : Int32) : CHG (sptA ai u sc w q y (rf 34 85)) (sptL lg w q y) (sptW w q y 0) ∧ ∀ a, a ≠ rf 34 85 → sptA ai u sc w q y a = if spcB w q y then actA ai u sc w a else ai a := by
  cases q with
  | none => exact ⟨hc, fun a _ => rfl⟩
  | some i =>
    have hi := hq i rfl
    show CHG ((if csB w i y then spaA ai u sc w i else ai) (rf 34 85)) (sptL lg w (some i) y) ((if csB w i y then spcW w i y.toNatClampNeg else w) 0) ∧ ∀ a, a ≠ rf 34 85 → (if csB w i y then spaA ai u sc w i else ai) a = if csB w i y then actA ai u sc w a else ai a
    have el : sptL lg w (some i) y = if csB w i y then lgN lg (w 0 + 1) 1 (w (10 + i)) (w (42 + i)) else lg := rfl
    rw [el]
    by_cases hb : csB w i y = true
    · obtain ⟨hn, k, hk1, hk2, _, hk4⟩ := csB_ex h.1 hi hb
      rw [if_pos hb, if_pos hb, if_pos hb, hk4, (T_spc h hi hn ⟨hk1, hk2⟩ h0 (csB_mv hb)).2]
      refine ⟨CHG_not (by rw [actA_o (by decide)]; exact hc) h.2.1.1 (by decide) (iv_low h.1 hi) (iv_own h.1 hi), fun a ha => ?_⟩
      rw [if_pos hb]
      exact notA_o ha
    · rw [if_neg hb, if_neg hb, if_neg hb]
      exact ⟨hc, fun a _ => by rw [if_neg hb]⟩
theorem C_mdl {ai : FI} {lg w : Nat → Nat} {u : Nat} {sc : Bool} (h : GW w) (h0 : w 0 < 1999) (hc : CHG (ai (rf 34 85)) lg (w 0)) (x : Int32) : CHG (mdlA ai u sc w x (rf 34 85)) (mdlL lg w x) (mdlW w x 0) ∧ ∀ a, a ≠ rf 34 85 → mdlA ai u sc w x a = if (match mdlO w x with | none => false | some (i, k) => spcB w (some i) (nI k)) then actA ai u sc w a else ai a := by
  have el : mdlL lg w x = match mdlO w x with | none => lg | some (i, k) => sptL lg w (some i) (nI k) := rfl
  rw [el]
  unfold mdlA mdlW
  cases hm : mdlO w x with
  | none => exact ⟨hc, fun a _ => rfl⟩
  | some p =>
    obtain ⟨i, k⟩ := p
    exact C_spt h h0 hc (fun j hj => by cases hj; exact mdlO_lt h.1 hm) (nI k)
theorem C_jon {ai : FI} {lg w : Nat → Nat} {u : Nat} {sc : Bool} (h : GW w) (h0 : w 0 < 1999) (hc : CHG (ai (rf 34 85)) lg (w 0)) {q : Option Nat} (hq : ∀ i, q = some i → i < w 1) : CHG (jonA ai u sc w q (rf 34 85)) (jonL lg w q) (jonW w q 0) ∧ ∀ a, a ≠ rf 34 85 → jonA ai u sc w q a = if joiB w q then actA ai u sc w a else ai a := by
  unfold jonA jonL jonW
  by_cases hb : joiB w q = true
  · rw [if_pos hb, if_pos hb, if_pos hb]
    cases q with
    | none => cases hb
    | some i =>
      have hi := hq i rfl
      obtain ⟨a, b, c⟩ := joiB_x hi hb
      show CHG (joiA ai u sc w i (rf 34 85)) _ (joiW w i 0) ∧ _
      rw [(T_joi h a h0 b c).2]
      refine ⟨CHG_not (by rw [actA_o (by decide)]; exact hc) h.2.1.1 (by decide) (iv_low h.1 hi) (iv_own h.1 hi), fun a ha => ?_⟩
      rw [if_pos hb]
      exact notA_o ha
  · rw [if_neg hb, if_neg hb, if_neg hb]
    exact ⟨hc, fun a _ => by rw [if_neg hb]⟩
theorem C_st {ai : FI} {lg w : Nat → Nat} (h : GW w) (h0 : w 0 < 1999) (hc : CHG (ai (rf 34 85)) lg (w 0)) {m : Nat} (hm : m < w 3) : ∀ k, CHG ((stS w ai m k).2 (rf 34 85)) (stL lg w m k) (st1 w m k 0) ∧ ∀ a, a ≠ rf 34 85 → (stS w ai m k).2 a = ai a
  | 0 => ⟨hc, fun a _ => rfl⟩
  | k + 1 => by
    obtain ⟨c1, c2⟩ := C_st h h0 hc hm k
    obtain ⟨b1, b2, b3, b4⟩ := st_all h.1 h.2.1 hm h0 k
    have eS : (stS w ai m (k + 1)).2 = if csN (st1 w m k) m then sonA (stS w ai m k).2 (st1 w m k) m else (stS w ai m k).2 := by
      show (if csN (stS w ai m k).1 m then _ else stS w ai m k).2 = _
      rw [stS_1]
      split <;> rfl
    have eL : stL lg w m (k + 1) = if csN (st1 w m k) m then sonL (stL lg w m k) (st1 w m k) m else stL lg w m k := rfl
    have e1 : st1 w m (k + 1) = if csN (st1 w m k) m then sonW (st1 w m k) m else st1 w m k := rfl
    rw [eS, eL, e1]
    generalize (stS w ai m k).2 = aj at *
    generalize stL lg w m k = lk at *
    generalize st1 w m k = x at *
    by_cases hn : csN x m = true
    · rw [if_pos hn, if_pos hn, if_pos hn]
      have hx : m < x 3 := by rw [b3]; exact hm
      obtain ⟨d1, d2, d3⟩ := csN_x hn
      have Z := son_0 b1 hx d3
      have hmv := iv_mv b1 hx
      have hmm := iv_mm b1
      unfold sonA sonL steA swiA
      have s3 : ∀ d, d ≠ 9 → d ≠ 10 → d < 72 → so3 x m (7694 + 72 * m + d) = x (7694 + 72 * m + d) := fun d p q r => so3_fr (by omega) (by omega) (by omega)
      have s0 : so3 x m 0 = x 0 := so3_fr (by omega) (by omega) (by omega)
      rw [s3 0 (by decide) (by decide) (by decide), s3 1 (by decide) (by decide) (by decide), s3 4 (by decide) (by decide) (by decide), s0]
      by_cases h10 : x (7694 + 72 * m + 10) = 1
      · rw [if_pos h10, if_pos h10, Z.1 (Or.inl h10)]
        exact ⟨c1, c2⟩
      · rw [if_neg h10, if_neg h10]
        by_cases hs3 : x (7694 + 72 * m + 0) = 3
        · rw [if_pos hs3, if_pos hs3, Z.2 h10 hs3]
          exact ⟨CHG_not c1 b2.1 (by decide) (by omega) (by omega), fun a ha => by rw [notA_o ha]; exact c2 a ha⟩
        · rw [if_neg hs3, if_neg hs3, Z.1 (Or.inr hs3)]
          exact ⟨c1, c2⟩
    · rw [if_neg hn, if_neg hn, if_neg hn]
      exact ⟨c1, c2⟩
