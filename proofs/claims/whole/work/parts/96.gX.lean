def exB (v : Nat) (x y z : Int32) (w : Nat → Nat) : Bool := (exO 0 v x y z w (fun _ _ => 0)).1
def exW (v : Nat) (x y z : Int32) (w : Nat → Nat) : Nat → Nat := (exO 0 v x y z w (fun _ _ => 0)).2.1
def exG (v : Nat) (x y : Int32) (w lg : Nat → Nat) : Nat → Nat := match v with
  | 3 => sptL lg w (nmO w x) y
  | 4 => mdlL lg w x
  | 5 => jonL lg w (nmO w x)
  | 7 => if stpB w x y then stL lg w x.toNatClampNeg y.toNatClampNeg else lg
  | _ => lg
def evN (v : Nat) : Nat := if v = 3 ∨ v = 4 ∨ v = 5 ∨ v = 7 then 1 else 0
theorem v15 {P : Nat → Prop} (h0 : P 0) (h1 : P 1) (h2 : P 2) (h3 : P 3) (h4 : P 4) (h5 : P 5) (h6 : P 6) (h7 : P 7) (h8 : P 8) (h9 : P 9) (h10 : P 10) (h11 : P 11) (h12 : P 12) (h13 : P 13) (h14 : P 14) : ∀ v, v < 15 → P v
  | 0, _ => h0 | 1, _ => h1 | 2, _ => h2 | 3, _ => h3 | 4, _ => h4 | 5, _ => h5 | 6, _ => h6 | 7, _ => h7 | 8, _ => h8 | 9, _ => h9 | 10, _ => h10 | 11, _ => h11 | 12, _ => h12 | 13, _ => h13 | 14, _ => h14
  | n + 15, h => absurd h (by omega)
theorem exO_B {u v : Nat} {x y z : Int32} {w : Nat → Nat} {ai : FI} (hv : v < 15) : (exO u v x y z w ai).1 = exB v x y z w := by
  refine v15 (P := fun v => (exO u v x y z w ai).1 = exB v x y z w) ?_ ?_ ?_ ?_ ?_ ?_ ?_ ?_ ?_ ?_ ?_ ?_ ?_ ?_ ?_ v hv <;> rfl
theorem exW_7 (x y z : Int32) (w : Nat → Nat) : exW 7 x y z w = if stpB w x y then st1 w x.toNatClampNeg y.toNatClampNeg else w := by
  show (if stpB w x y then (stS w _ x.toNatClampNeg y.toNatClampNeg).1 else w) = _
  rw [stS_1]
theorem exO_W {u v : Nat} {x y z : Int32} {w : Nat → Nat} {ai : FI} (hv : v < 15) : (exO u v x y z w ai).2.1 = exW v x y z w := by
  refine v15 (P := fun v => (exO u v x y z w ai).2.1 = exW v x y z w) ?_ ?_ ?_ ?_ ?_ ?_ ?_ ?_ ?_ ?_ ?_ ?_ ?_ ?_ ?_ v hv
  case refine_8 =>
    rw [exW_7]
    show (if stpB w x y then (stS w ai x.toNatClampNeg y.toNatClampNeg).1 else w) = _
    rw [stS_1]
  all_goals rfl
theorem nmO_i {w : Nat → Nat} (h : GW w) (x : Int32) : ∀ i, nmO w x = some i → i < w 1 := fun i hi => (nmO_lt h.1 hi).1
theorem ex_T {v : Nat} {x y z : Int32} {w : Nat → Nat} (h : GW w) (h0 : w 0 < 1999) (hwt : ∀ k, k < 1000 → w (106 + k) + 2 ≤ 100000) (hv : v < 15) : TR w (exW v x y z w) (evN v) 2 := by
  refine v15 (P := fun v => TR w (exW v x y z w) (evN v) 2) ?_ ?_ ?_ ?_ ?_ ?_ ?_ ?_ ?_ ?_ ?_ ?_ ?_ ?_ ?_ v hv
  · show TR w (if inR x 6 then fetW w x.toNatClampNeg else w) 0 2
    split
    · rename_i hb
      exact TR_up (T_fet h (inR_c hb).1) (by decide) (by decide)
    · exact TR_rf h
  · exact TR_up (T_red h hwt x y) (by decide) (by decide)
  · exact TR_up (T_wri h hwt x y z) (by decide) (by decide)
  · exact TR_up (T_spt h h0 (nmO_i h x) y) (by decide) (by decide)
  · exact TR_up (T_mdl h h0 x) (by decide) (by decide)
  · exact TR_up (T_jon h h0 (nmO_i h x)) (by decide) (by decide)
  · exact TR_up (T_mv h (nmO_i h x) y) (by decide) (by decide)
  · rw [exW_7]
    exact TR_up (T_stp h h0 x y) (by decide) (by decide)
  · exact TR_up (T_fai h x y) (by decide) (by decide)
  · exact TR_up (T_dow h x) (by decide) (by decide)
  · exact TR_up (T_upp h x) (by decide) (by decide)
  · exact TR_up (T_rec h x) (by decide) (by decide)
  · exact TR_up (T_giv h x) (by decide) (by decide)
  · exact TR_up (T_age h) (by decide) (by decide)
  · exact TR_up (T_chk h x) (by decide) (by decide)
theorem sptA_o {ai : FI} {u : Nat} {w : Nat → Nat} {q : Option Nat} {y : Int32} {a : Nat} (ha : a ≠ rf 34 85) : sptA ai u true w q y a = ai a := by
  cases q with
  | none => rfl
  | some i =>
    show (if csB w i y then spaA ai u true w i else ai) a = ai a
    split
    · exact notA_o ha
    · rfl
theorem stS_o {ai : FI} {w : Nat → Nat} {m a : Nat} (ha : a ≠ rf 34 85) : ∀ k, (stS w ai m k).2 a = ai a
  | 0 => rfl
  | k + 1 => by
    have ih := stS_o (ai := ai) (w := w) (m := m) ha k
    show (if csN (stS w ai m k).1 m then _ else stS w ai m k).2 a = ai a
    split
    · show sonA (stS w ai m k).2 (stS w ai m k).1 m a = ai a
      unfold sonA steA swiA
      split
      · exact ih
      · split
        · rw [notA_o ha]; exact ih
        · exact ih
    · exact ih
theorem exO_o {u v : Nat} {x y z : Int32} {w : Nat → Nat} {ai : FI} (hv : v < 15) : ∀ a, a ≠ rf 34 85 → (exO u v x y z w ai).2.2 a = ai a := by
  intro a ha
  refine v15 (P := fun v => (exO u v x y z w ai).2.2 a = ai a) ?_ ?_ ?_ ?_ ?_ ?_ ?_ ?_ ?_ ?_ ?_ ?_ ?_ ?_ ?_ v hv
  case refine_4 => exact sptA_o ha
  case refine_5 =>
    show mdlA ai u true w x a = ai a
    unfold mdlA
    cases hm : mdlO w x with
    | none => rfl
    | some p => exact sptA_o ha
  case refine_6 =>
    show jonA ai u true w (nmO w x) a = ai a
    unfold jonA
    split
    · cases hq : nmO w x with
      | none => rfl
      | some i => exact notA_o ha
    · rfl
  case refine_7 =>
    show mvA ai u true w (nmO w x) y a = ai a
    unfold mvA
    rw [actA_t]
    split <;> rfl
  case refine_8 =>
    show (if stpB w x y then (stS w ai x.toNatClampNeg y.toNatClampNeg).2 else ai) a = ai a
    split
    · exact stS_o ha _
    · rfl
  all_goals rfl
theorem ex_C {u v : Nat} {x y z : Int32} {w lg : Nat → Nat} {ai : FI} (h : GW w) (h0 : w 0 < 1999) (hwt : ∀ k, k < 1000 → w (106 + k) + 2 ≤ 100000) (hc : CHG (ai (rf 34 85)) lg (w 0)) (hv : v < 15) : CHG ((exO u v x y z w ai).2.2 (rf 34 85)) (exG v x y w lg) (exW v x y z w 0) ∧ ∀ a, a ≠ rf 34 85 → (exO u v x y z w ai).2.2 a = ai a := by
  have ez : ∀ v, v < 15 → evN v = 0 → CHG (ai (rf 34 85)) lg (exW v x y z w 0) := fun v hv he => by
    have := ex_T (x := x) (y := y) (z := z) h h0 hwt hv
    rw [he] at this
    exact CHG_le hc (by have := this.2.2.1; omega)
  refine v15 (P := fun v => CHG ((exO u v x y z w ai).2.2 (rf 34 85)) (exG v x y w lg) (exW v x y z w 0) ∧ ∀ a, a ≠ rf 34 85 → (exO u v x y z w ai).2.2 a = ai a) ?_ ?_ ?_ ?_ ?_ ?_ ?_ ?_ ?_ ?_ ?_ ?_ ?_ ?_ ?_ v hv
  · exact ⟨ez 0 (by decide) rfl, fun a _ => rfl⟩
  · exact ⟨ez 1 (by decide) rfl, fun a _ => rfl⟩
  · exact ⟨ez 2 (by decide) rfl, fun a _ => rfl⟩
  · have := C_spt (u := u) (sc := true) h h0 hc (nmO_i h x) y
    exact ⟨this.1, fun a ha => exO_o (v := 3) (by decide) a ha⟩
  · have := C_mdl (u := u) (sc := true) h h0 hc x
    exact ⟨this.1, fun a ha => exO_o (v := 4) (by decide) a ha⟩
  · have := C_jon (u := u) (sc := true) h h0 hc (nmO_i h x)
    exact ⟨this.1, fun a ha => exO_o (v := 5) (by decide) a ha⟩
  · have e : (exO u 6 x y z w ai).2.2 = ai := by
      show mvA ai u true w (nmO w x) y = ai
      unfold mvA
      rw [actA_t]
      split <;> rfl
    rw [e]
    exact ⟨ez 6 (by decide) rfl, fun a _ => rfl⟩
  · rw [exW_7]
    show CHG ((if stpB w x y then (stS w ai x.toNatClampNeg y.toNatClampNeg).2 else ai) (rf 34 85)) (if stpB w x y then stL lg w x.toNatClampNeg y.toNatClampNeg else lg) ((if stpB w x y then st1 w x.toNatClampNeg y.toNatClampNeg else w) 0) ∧ ∀ a, a ≠ rf 34 85 → (if stpB w x y then (stS w ai x.toNatClampNeg y.toNatClampNeg).2 else ai) a = ai a
    by_cases hb : stpB w x y = true
    · rw [if_pos hb, if_pos hb, if_pos hb]
      have := C_st h h0 hc (stpB_m hb) y.toNatClampNeg
      exact ⟨this.1, fun a ha => this.2 a ha⟩
    · rw [if_neg hb, if_neg hb, if_neg hb]
      exact ⟨hc, fun a _ => rfl⟩
  · exact ⟨ez 8 (by decide) rfl, fun a _ => rfl⟩
  · exact ⟨ez 9 (by decide) rfl, fun a _ => rfl⟩
  · exact ⟨ez 10 (by decide) rfl, fun a _ => rfl⟩
  · exact ⟨ez 11 (by decide) rfl, fun a _ => rfl⟩
  · exact ⟨ez 12 (by decide) rfl, fun a _ => rfl⟩
  · exact ⟨ez 13 (by decide) rfl, fun a _ => rfl⟩
  · exact ⟨ez 14 (by decide) rfl, fun a _ => rfl⟩
theorem ne1 {b : Bool} {n : Nat} (hn : n < 2147483648) : decide ((if b then nI n else (-1 : Int32)) ≠ -1) = b := by
  cases b with
  | false =>
    show decide ((if false = true then nI n else (-1 : Int32)) ≠ -1) = false
    rw [if_neg (by decide)]
    rfl
  | true => exact decide_eq_true (nI_m1 hn)
/-- a clause is run -/
theorem ct_rc {fi : FI} {fr : FR} {ai : FI} {ar : FR} {N : Nat} {w lg : Nat → Nat} (cm : CM fr ar) (h : GW w) (hK : K fi ai w lg (w 0)) (h01 : w 0 < 1999) (hwt : ∀ k, k < 1000 → w (106 + k) + 2 ≤ 100000) {v : Nat} (hv : v < 15) (x y z : Int32) : CP mX10_runClause 5 0 0 [.ref (rf 10 0), .int (nI v), .int x, .int y, .int z] fi fr ai ar N (kQ (some (.int (bI (exB v x y z w)))) fi fr ai ar N (fun fi ai => K fi ai (exW v x y z w) (exG v x y w lg) (exW v x y z w 0))) := by
  have e0 : ∀ v, v < 15 → evN v = 0 → w 0 = exW v x y z w 0 := fun v hv he => by
    have := ex_T (x := x) (y := y) (z := z) h h01 hwt hv
    rw [he] at this
    exact Nat.le_antisymm this.2.1 this.2.2.1
  have hep := iv_ep0 h.1
  have h3 := iv_mm h.1
  have go : ∀ v (B : Bool) (W L : Nat → Nat) (E : Nat), CP mX10_runClause 5 0 0 [.ref (rf 10 0), .int (nI v), .int x, .int y, .int z] fi fr ai ar N (kQ (some (.int (bI B))) fi fr ai ar N (fun fi ai => K fi ai W L E)) → B = exB v x y z w → W = exW v x y z w → L = exG v x y w lg → E = exW v x y z w 0 → CP mX10_runClause 5 0 0 [.ref (rf 10 0), .int (nI v), .int x, .int y, .int z] fi fr ai ar N (kQ (some (.int (bI (exB v x y z w)))) fi fr ai ar N (fun fi ai => K fi ai (exW v x y z w) (exG v x y w lg) (exW v x y z w 0))) := fun v B W L E hc h1 h2 h3 h4 => by
    rw [← h4, ← h1, ← h2, ← h3]
    exact hc
  refine v15 (P := fun v => CP mX10_runClause 5 0 0 [.ref (rf 10 0), .int (nI v), .int x, .int y, .int z] fi fr ai ar N (kQ (some (.int (bI (exB v x y z w)))) fi fr ai ar N (fun fi ai => K fi ai (exW v x y z w) (exG v x y w lg) (exW v x y z w 0)))) ?_ ?_ ?_ ?_ ?_ ?_ ?_ ?_ ?_ ?_ ?_ ?_ ?_ ?_ ?_ v hv
  · exact go 0 _ _ _ _ (ct_rc0 cm h.1 h.2.1 hK h01 h.2.2 hwt x y z) (ne1 (by omega)) rfl rfl (e0 0 (by decide) rfl)
  · exact go 1 _ _ _ _ (ct_rc1 cm h.1 h.2.1 hK h01 h.2.2 hwt x y z) rfl rfl rfl (e0 1 (by decide) rfl)
  · exact go 2 _ _ _ _ (ct_rc2 cm h.1 h.2.1 hK h01 h.2.2 hwt x y z) rfl rfl rfl (e0 2 (by decide) rfl)
  · exact go 3 _ _ _ _ (ct_rc3 cm h.1 h.2.1 hK h01 h.2.2 hwt x y z) (by unfold sptR; rw [if_pos rfl]; exact ne1 (by omega)) rfl rfl rfl
  · exact go 4 _ _ _ _ (ct_rc4 cm h.1 h.2.1 hK h01 h.2.2 hwt x y z) rfl rfl rfl rfl
  · exact go 5 _ _ _ _ (ct_rc5 cm h.1 h.2.1 hK h01 h.2.2 hwt x y z) (by unfold jonR; exact ne1 (by omega)) rfl rfl rfl
  · exact go 6 _ _ _ _ (ct_rc6 cm h.1 h.2.1 hK h01 h.2.2 hwt x y z) (by unfold mvR; exact ne1 (by omega)) rfl rfl (e0 6 (by decide) rfl)
  · exact go 7 _ _ _ _ (ct_rc7 cm h.1 h.2.1 hK h01 h.2.2 hwt x y z) (by
      by_cases hb : stpB w x y = true
      · have hs := st_all h.1 h.2.1 (stpB_m hb) h01 y.toNatClampNeg
        have hm : x.toNatClampNeg < st1 w x.toNatClampNeg y.toNatClampNeg 3 := by rw [hs.2.2.1]; exact stpB_m hb
        have := (iv_mv hs.1 hm).1
        exact ne1 (by omega)
      · rw [if_neg hb]
        exact (show decide ((-1 : Int32) ≠ -1) = false from rfl).trans (Bool.eq_false_iff.mpr hb).symm) (exW_7 x y z w).symm rfl (by rw [exW_7])
  · exact go 8 _ _ _ _ (ct_rc8 cm h.1 h.2.1 hK h01 h.2.2 hwt x y z) rfl rfl rfl (e0 8 (by decide) rfl)
  · exact go 9 _ _ _ _ (ct_rc9 cm h.1 h.2.1 hK h01 h.2.2 hwt x y z) (by unfold dowR; exact ne1 (by have := cnt_le (dnB w x.toNatClampNeg) (w 3); omega)) rfl rfl (e0 9 (by decide) rfl)
  · exact go 10 _ _ _ _ (ct_rc10 cm h.1 h.2.1 hK h01 h.2.2 hwt x y z) rfl rfl rfl (e0 10 (by decide) rfl)
  · exact go 11 _ _ _ _ (ct_rc11 cm h.1 h.2.1 hK h01 h.2.2 hwt x y z) (ne1 (by have := endS_5 w x.toNatClampNeg; omega)) rfl rfl (e0 11 (by decide) rfl)
  · exact go 12 _ _ _ _ (ct_rc12 cm h.1 h.2.1 hK h01 h.2.2 hwt x y z) rfl rfl rfl (e0 12 (by decide) rfl)
  · exact go 13 _ _ _ _ (ct_rc13 cm h.1 h.2.1 hK h01 h.2.2 hwt x y z) rfl rfl rfl (e0 13 (by decide) rfl)
  · exact go 14 _ _ _ _ (ct_rc14 cm h.1 h.2.1 hK h01 h.2.2 hwt x y z) rfl (by show _ = (if 1 ≤ x.toInt ∧ x.toInt ≤ 16 then upN w 2 x.toNatClampNeg else w); by_cases hb : 1 ≤ x.toInt ∧ x.toInt ≤ 16 <;> simp [hb]) rfl (e0 14 (by decide) rfl)
/-- clauses one behind the other: how many were done, and the row -/
def exR (cl : Nat → Nat × Int32 × Int32 × Int32) : Nat → Nat → (Nat → Nat) → Nat × (Nat → Nat)
  | 0, n, w => (n, w)
  | k + 1, n, w => if exB (cl n).1 (cl n).2.1 (cl n).2.2.1 (cl n).2.2.2 w = true then exR cl k (n + 1) (exW (cl n).1 (cl n).2.1 (cl n).2.2.1 (cl n).2.2.2 w) else (n, exW (cl n).1 (cl n).2.1 (cl n).2.2.1 (cl n).2.2.2 w)
def exRG (cl : Nat → Nat × Int32 × Int32 × Int32) : Nat → Nat → (Nat → Nat) → (Nat → Nat) → Nat → Nat
  | 0, _, _, lg => lg
  | k + 1, n, w, lg => if exB (cl n).1 (cl n).2.1 (cl n).2.2.1 (cl n).2.2.2 w = true then exRG cl k (n + 1) (exW (cl n).1 (cl n).2.1 (cl n).2.2.1 (cl n).2.2.2 w) (exG (cl n).1 (cl n).2.1 (cl n).2.2.1 w lg) else exG (cl n).1 (cl n).2.1 (cl n).2.2.1 w lg
def evS (cl : Nat → Nat × Int32 × Int32 × Int32) : Nat → Nat → Nat
  | 0, _ => 0
  | k + 1, n => evN (cl n).1 + evS cl k (n + 1)
theorem evN_le (v : Nat) : evN v ≤ 1 := by unfold evN; split <;> omega
theorem exR_T {cl : Nat → Nat × Int32 × Int32 × Int32} : ∀ (k n : Nat) {w : Nat → Nat}, GW w → (∀ j, n ≤ j → j < n + k → (cl j).1 < 15) → w 0 + evS cl k n < 1999 → (∀ j, j < 1000 → w (106 + j) + 2 * k ≤ 100000) → TR w (exR cl k n w).2 (evS cl k n) (2 * k) ∧ n ≤ (exR cl k n w).1 ∧ (exR cl k n w).1 ≤ n + k
  | 0, n, w, h, _, _, _ => ⟨TR_rf h, Nat.le_refl n, Nat.le_refl n⟩
  | k + 1, n, w, h, hv, he, hw => by
    have he' : w 0 + (evN (cl n).1 + evS cl k (n + 1)) < 1999 := he
    have t := ex_T (x := (cl n).2.1) (y := (cl n).2.2.1) (z := (cl n).2.2.2) h (by omega) (fun j hj => by have := hw j hj; omega) (hv n (Nat.le_refl n) (by omega))
    unfold exR
    split
    · have ih := exR_T (cl := cl) k (n + 1) t.1 (fun j a b => hv j (by omega) (by omega)) (by have := t.2.2.1; omega) (fun j hj => by have := t.2.2.2 j hj; have := hw j hj; omega)
      exact ⟨TR_up (TR_tr t ih.1) (Nat.le_refl _) (by omega), by omega, by omega⟩
    · exact ⟨TR_up t (by show _ ≤ evN (cl n).1 + evS cl k (n + 1); omega) (by omega), Nat.le_refl n, by omega⟩
