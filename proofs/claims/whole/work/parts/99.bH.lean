theorem e_sl {d k z pc L : Nat} {xs : Nat → Int32} {ls : List (Option Value)} {st : List Value} {fi : FI} {fr : FR} {ai : FI} {ar : FR} {N : Nat} {Q : EQ} {j : Nat} (hd : decode cL_law pc = .ok (.iaload, 1)) (hj : j < L) (hL : L ≤ 3072) (kk : EV (mL L xs) d k z (pc + 1) ls (.int (xs j) :: st) fi fr ai ar N Q) : EV (mL L xs) d k z pc ls (.int (nI j) :: .ref 60 :: st) fi fr ai ar N Q :=
  e_sld (M := mL L xs) j hd rfl (by show j < L + 1 - 1; omega) (by show L + 1 < 2 ^ 31; omega) kk
theorem e_sn {d k z pc L : Nat} {xs : Nat → Int32} {ls : List (Option Value)} {st : List Value} {fi : FI} {fr : FR} {ai : FI} {ar : FR} {N : Nat} {Q : EQ} (hd : decode cL_law pc = .ok (.arraylength, 1)) (kk : EV (mL L xs) d k z (pc + 1) ls (.int (nI L) :: st) fi fr ai ar N Q) : EV (mL L xs) d k z pc ls (.ref 60 :: st) fi fr ai ar N Q :=
  e_slen (M := mL L xs) hd (by show L + 1 ≠ 0; omega) kk
theorem asA_0 (w : Nat → Nat) (c k : Nat) : asA w c k 0 = anF w c k := by
  unfold asA
  rw [if_neg (by omega)]
theorem redF_b (fi : FI) (w : Nat → Nat) (x y : Int32) : redF fi w x y false = if (inR x 6 && inR y 1000 && decide (anF w x.toNatClampNeg y.toNatClampNeg = 0)) = true then forF fi false else fi := by
  unfold redF askF
  rw [asA_0]
  by_cases h1 : inR x 6 = true <;> by_cases h2 : inR y 1000 = true <;> by_cases h3 : anF w x.toNatClampNeg y.toNatClampNeg = 0 <;> simp [h1, h2, h3]
theorem wriF_b (fi : FI) (w : Nat → Nat) (x y v : Int32) : wriF fi w x y v false = if (cwB x y v && decide (asA w x.toNatClampNeg y.toNatClampNeg v.toNatClampNeg = 0)) = true then forF fi false else fi := by
  unfold wriF askF
  by_cases h1 : cwB x y v = true <;> by_cases h3 : asA w x.toNatClampNeg y.toNatClampNeg v.toNatClampNeg = 0 <;> simp [h1, h3]
theorem insF_b (fi : FI) (w : Nat → Nat) (x y v : Int32) : insF fi w x y v false = if (cwB x y v && (decide (asA w x.toNatClampNeg y.toNatClampNeg v.toNatClampNeg = 0) || decide (asA w x.toNatClampNeg y.toNatClampNeg v.toNatClampNeg = 3))) = true then forF fi false else fi := by
  unfold insF askF
  rw [forF_2, if_same2]
  by_cases h1 : cwB x y v = true
  · by_cases h3 : asA w x.toNatClampNeg y.toNatClampNeg v.toNatClampNeg = 3
    · simp [h1, h3]
    · by_cases h4 : asA w x.toNatClampNeg y.toNatClampNeg v.toNatClampNeg = 0 <;> simp [h1, h3, h4]
  · simp [h1]
theorem spt_b {w : Nat → Nat} (h : GW w) (q : Option Nat) (y : Int32) : decide (sptR w q y (-1) ≠ -1) = spcB w q y := by
  have := iv_ep0 h.1
  unfold sptR
  rw [if_pos rfl]
  exact ne1 (by omega)
def mdB (w : Nat → Nat) (x : Int32) : Bool := match mdlO w x with | none => false | some (i, k) => spcB w (some i) (nI k)
theorem mdlO_k {w : Nat → Nat} (iv : Inv w) {x : Int32} {i k : Nat} (h : mdlO w x = some (i, k)) : k < 1000 := by
  unfold mdlO at h
  split at h
  · cases h
  · rename_i j hj
    split at h
    · cases h
    · rename_i k' hk
      simp only [Option.some.injEq, Prod.mk.injEq] at h
      rw [← h.2]
      exact mdO_k iv (nmO_lt iv hj).1 hk
theorem mdl_b {w : Nat → Nat} (h : GW w) (x : Int32) : decide (mdlR w x ≠ -1) = mdB w x := by
  unfold mdlR mdB
  cases hm : mdlO w x with
  | none => rfl
  | some p =>
    obtain ⟨i, k⟩ := p
    have hk := mdlO_k h.1 hm
    show decide ((if spcB w (some i) (nI k) then (if nI k = -1 then nI (w 0 + 1) else nI k) else -1) ≠ -1) = spcB w (some i) (nI k)
    rw [if_neg (nI_m1 (show k < 2147483648 by omega))]
    exact ne1 (by omega)
theorem mdlF_b (fi : FI) (u : Nat) (w : Nat → Nat) (x : Int32) : mdlF fi u false w x = if mdB w x then actF fi u false else fi := by
  unfold mdlF mdB
  cases hm : mdlO w x with
  | none => rfl
  | some p => rfl
theorem jon_b {w : Nat → Nat} (h : GW w) (q : Option Nat) : decide (jonR w q ≠ -1) = joiB w q := by
  have := iv_ep0 h.1
  unfold jonR
  exact ne1 (by omega)
theorem mv_b {w : Nat → Nat} (h : GW w) (q : Option Nat) (y : Int32) : decide (mvR w q y ≠ -1) = mvB w q y := by
  have := iv_mm h.1
  unfold mvR
  exact ne1 (by omega)
theorem stp_b {w : Nat → Nat} (h : GW w) (h0 : w 0 < 1999) (x y : Int32) : decide ((if stpB w x y then nI (st1 w x.toNatClampNeg y.toNatClampNeg (7694 + 72 * x.toNatClampNeg + 0)) else -1) ≠ -1) = stpB w x y := by
  by_cases hb : stpB w x y = true
  · have hs := st_all h.1 h.2.1 (stpB_m hb) h0 y.toNatClampNeg
    have hm : x.toNatClampNeg < st1 w x.toNatClampNeg y.toNatClampNeg 3 := by rw [hs.2.2.1]; exact stpB_m hb
    have := (iv_mv hs.1 hm).1
    exact ne1 (by omega)
  · rw [if_neg hb]
    exact (show decide ((-1 : Int32) ≠ -1) = false from rfl).trans (Bool.eq_false_iff.mpr hb).symm
theorem rec_b (w : Nat → Nat) (x : Int32) : decide ((if recB w x then nI (endS w x.toNatClampNeg) else -1) ≠ -1) = recB w x := ne1 (by have := endS_5 w x.toNatClampNeg; omega)
theorem tr3 {w w' : Nat → Nat} {e n : Nat} (h : TR w w' e n) : w' 3 ≤ 12 := iv_mm h.1.1
theorem chg_eq {w lg : Nat → Nat} {ch : Nat → Int32} (h : CHG ch lg (w 0)) (x y : Int32) : chgR w ch x y = chcR w lg x y := by
  unfold chgR chcR
  by_cases hx : 1 ≤ x.toInt ∧ x.toInt ≤ w 0
  · rw [if_pos hx]
    have e : x.toNatClampNeg = x.toInt.toNat := rfl
    by_cases hy : inR y 3 = true
    · rw [if_pos ⟨hx.1, hx.2, hy⟩]
      have hyy := inR_c hy
      have ey : y.toNatClampNeg = y.toInt.toNat := rfl
      by_cases h1 : x.toInt = 1
      · rw [if_pos h1, show x.toNatClampNeg = 1 by omega, h.1.2]
        by_cases y0 : y.toInt = 0
        · rw [if_pos y0, if_pos y0]; rfl
        · rw [if_neg y0, if_neg y0]
          by_cases y1 : y.toInt = 1
          · rw [if_pos y1]; rfl
          · rw [if_neg y1, if_pos (show y.toInt = 2 by omega)]; rfl
      · rw [if_neg h1]
        obtain ⟨c0, c1, c2, c3, _⟩ := h.2 x.toNatClampNeg (by omega) (by omega)
        by_cases y0 : y.toInt = 0
        · rw [if_pos y0, show 3 * x.toNatClampNeg + y.toNatClampNeg = 3 * x.toNatClampNeg by omega, c0]
        · rw [if_neg y0]
          by_cases y1 : y.toInt = 1
          · rw [if_pos y1, if_neg c3, show 3 * x.toNatClampNeg + y.toNatClampNeg = 3 * x.toNatClampNeg + 1 by omega, c1]
          · rw [if_neg y1, if_pos (show y.toInt = 2 by omega), if_neg c3, show 3 * x.toNatClampNeg + y.toNatClampNeg = 3 * x.toNatClampNeg + 2 by omega, c2]
    · rw [if_neg (fun q => hy q.2.2)]
      have hn : ¬ (0 ≤ y.toInt ∧ y.toInt < (3 : Nat)) := fun q => hy (decide_eq_true q)
      rw [if_neg (by omega), if_neg (by omega), if_neg (by omega)]
  · rw [if_neg hx, if_neg (fun q => hx ⟨q.1, q.2.1⟩)]
theorem chg_lt {w lg : Nat → Nat} {ch : Nat → Int32} (h : CHG ch lg (w 0)) : ∀ e, e ≤ w 0 → lg e < 24000 := fun e he => by
  by_cases e0 : e = 0
  · rw [e0, h.1.1]; decide
  · by_cases e1 : e = 1
    · rw [e1, h.1.2]; decide
    · exact (h.2 e (by omega) he).2.2.2.2
/-- bytes that come onto the tape -/
def cmN (T : Nat → Nat) (t : Nat) (x : Int32) : Nat → Nat := fun i => if t ≤ i ∧ i < t + 4 then bt x (i - t) else T i
theorem cmU_r {T : Nat → Int32} {tp : Nat → Nat} {t : Nat} {x : Int32} (h : ∀ i, i < t → T i = nI (tp i)) : ∀ i, i < t + 4 → cmU T t x 4 i = nI (cmN tp t x i) := fun i hi => by
  show (if t ≤ i ∧ i < t + 4 then nI (bt x (i - t)) else T i) = nI (if t ≤ i ∧ i < t + 4 then bt x (i - t) else tp i)
  by_cases g : t ≤ i ∧ i < t + 4
  · rw [if_pos g, if_pos g]
  · rw [if_neg g, if_neg g]; exact h i (by omega)
theorem cmT_r {T : Nat → Int32} {tp : Nat → Nat} {t : Nat} {x : Int32} (h : ∀ i, i < t → T i = sB (tp i)) : ∀ i, i < t + 4 → cmT T t x 4 i = sB (cmN tp t x i) := fun i hi => by
  show (if t ≤ i ∧ i < t + 4 then sB (bt x (i - t)) else T i) = sB (if t ≤ i ∧ i < t + 4 then bt x (i - t) else tp i)
  by_cases g : t ≤ i ∧ i < t + 4
  · rw [if_pos g, if_pos g]
  · rw [if_neg g, if_neg g]; exact h i (by omega)
theorem cmN_lt {tp : Nat → Nat} {t : Nat} {x : Int32} (h : ∀ i, tp i < 256) : ∀ i, cmN tp t x i < 256 := fun i => by
  unfold cmN bt
  split
  · exact Nat.mod_lt _ (by decide)
  · exact h i
def fd5N (tp : Nat → Nat) (t : Nat) (a b c d e : Int32) : Nat → Nat := cmN (cmN (cmN (cmN (cmN tp t a) (t + 4) b) (t + 4 + 4) c) (t + 4 + 4 + 4) d) (t + 4 + 4 + 4 + 4) e
theorem ov_un (w v : Nat → Nat) : ovF w v 8558 = undW w v := rfl
/-- behind the reference's script -/
def rsQ (r : Option Value) (w' : Nat → Nat) (u' : Nat) (fl pl rs : Int32) (U : Nat → Int32) (fi : FI) (fr : FR) (ai : FI) (ar : FR) (N : Nat) (P : (Nat → Int32) → Prop) : EQ := fun r1 fi' fr' ai' ar' N' => r1 = r ∧ fr' = fr ∧ ar' = ar ∧ N' = N ∧ fi' (32 * 11 + 4) (rf 11 80) = nI u' ∧ fi' (32 * 11 + 5) (rf 11 80) = fi (32 * 11 + 5) (rf 11 80) ∧ fi' (32 * 11 + 8) (rf 11 80) = nI 0 ∧ fi' (32 * 11 + 10) (rf 11 80) = nI 0 ∧ fi' (32 * 11 + 12) (rf 11 80) = fl ∧ fi' (32 * 11 + 13) (rf 11 80) = pl ∧ fi' (32 * 11 + 14) (rf 11 80) = rs ∧ (∀ g q, q ≠ rf 11 80 → fi' g q = fi g q) ∧ ai' (rf 32 81) = (fun i => nI (w' i)) ∧ ai' (rf 33 84) = U ∧ (∀ a, a ≠ rf 32 81 → a ≠ rf 32 82 → a ≠ rf 33 84 → a ≠ rf 34 85 → a ≠ rf 36 88 → ai' a = ai a) ∧ P (ai' (rf 34 85))
theorem psF_q {fi : FI} {s : PS} {g q : Nat} (h : q ≠ rf 11 80) : psF fi s g q = fi g q := if_neg h
theorem rs_63 {fi : FI} {fr : FR} {ai : FI} {ar : FR} {N : Nat} {w : Nat → Nat} (sm : SM fr) {u c : Nat} {S : PS} {cl : Nat → Nat × Int32 × Int32 × Int32} (hC : S.2.2.2.2.1 = c) (hc4 : c ≤ 40) (gw : GW w) (h4 : fi (32 * 11 + 4) (rf 11 80) = nI u) (hu6 : u ≤ 6) (h8 : fi (32 * 11 + 8) (rf 11 80) = nI 0) (h14 : fi (32 * 11 + 14) (rf 11 80) = -1)
    (hcl : S.2.1 = false → ∀ i, i < c → S.2.2.2.2.2 (4 * i) = nI (cl i).1 ∧ (cl i).1 < 15 ∧ S.2.2.2.2.2 (4 * i + 1) = (cl i).2.1 ∧ S.2.2.2.2.2 (4 * i + 2) = (cl i).2.2.1 ∧ S.2.2.2.2.2 (4 * i + 3) = (cl i).2.2.2) (he : S.2.1 = false → w 0 + evS cl c 0 < 1999) (hw : ∀ j, j < 1000 → w (106 + j) + 82 ≤ 100000) :
    EV mX11_script 9 0 0 63 [some (.ref (rf 11 80)), none] [] (psF fi S) fr (sA (mW ai w) (rf 36 88) S.2.2.2.2.2) ar N (if S.2.1 = false then rsQ (some (.int (nI (exR cl c 0 w).1))) (exR cl c 0 w).2 (if 0 < (exR cl c 0 w).1 then u1 u else u) S.2.2.1 S.2.2.2.1 (if (exR cl c 0 w).1 < c then nI (exR cl c 0 w).1 else -1) (if 0 < (exR cl c 0 w).1 then reU (ai (rf 33 84)) u (cpA (ai (rf 32 82)) (fun i => nI (w i)) 0 8597) else ai (rf 33 84)) fi fr ai ar N (fun ch => ∀ lg, CHG (ai (rf 34 85)) lg (w 0) → CHG ch (exRG cl c 0 w lg) ((exR cl c 0 w).2 0)) else rsQ (some (.int (-1))) w u S.2.2.1 S.2.2.2.1 (-1) (ai (rf 33 84)) fi fr ai ar N (fun ch => ch = ai (rf 34 85))) := by
  obtain ⟨sW, sA0, sK, sU, sC, sKC, sT, sCl⟩ := id sm
  rw [mW_sA (by decide)]
  cases hS : S.2.1 with
  | true =>
    rw [if_neg (by decide)]
    refine e_aload_n dX11_script_63 rfl rfl ?_
    refine e_iconst (v := nI 0) dX11_script_64 rfl ?_
    refine e_putI dX11_script_65 fl_X11_217 rfl rfl rfl rfl ?_
    rw [ps_u (by decide)]
    refine e_aload_n dX11_script_68 rfl rfl ?_
    refine e_getI dX11_script_69 fl_X11_223 rfl ?_
    rw [psF_15, hS]
    first | ((with_reducible refine mk_b ?_); refine b_if_eq (tgt := 77) dX11_script_72 (by decide) (fun h72 => ?_) (fun h72 => ?_)) | ((with_reducible refine mk_ll ?_); refine m_if_eq (tgt := 77) dX11_script_72 (by decide) (by omega) (by omega) (fun h72 => ?_) (fun h72 => ?_)) | ((with_reducible refine mk_lc ?_); refine l_if_eq (tgt := 77) dX11_script_72 (by decide) (fun h72 => ?_) (fun h72 => ?_)) | ((with_reducible refine mk_n ?_); refine n_if_eq (tgt := 77) dX11_script_72 (by decide) (by omega) (fun h72 => ?_) (fun h72 => ?_)) | refine e_if_eq (tgt := 77) dX11_script_72 (by decide) (fun h72 => ?_) (fun h72 => ?_)
    · try first | contradiction | omega | (simp only [decide_eq_true_eq, decide_eq_false_iff_not] at h72; omega)
      all_goals
        contradiction
    · try first | contradiction | omega | (simp only [decide_eq_true_eq, decide_eq_false_iff_not] at h72; omega)
      all_goals
        refine e_iconst (v := -1) dX11_script_75 rfl ?_
        refine e_ret (some _) rfl (r_int dX11_script_76 rfl) ?_
        exact ⟨rfl, rfl, rfl, rfl, (show up2 fi (32 * 11 + 10) (rf 11 80) (nI 0) (32 * 11 + 4) (rf 11 80) = _ from (up2_n _ _ (by decide)).trans h4), (show up2 fi (32 * 11 + 10) (rf 11 80) (nI 0) (32 * 11 + 5) (rf 11 80) = _ from up2_n _ _ (by decide)), (show up2 fi (32 * 11 + 10) (rf 11 80) (nI 0) (32 * 11 + 8) (rf 11 80) = _ from (up2_n _ _ (by decide)).trans h8), (show up2 fi (32 * 11 + 10) (rf 11 80) (nI 0) (32 * 11 + 10) (rf 11 80) = _ from up2_s _ _ _ _), rfl, rfl, (show up2 fi (32 * 11 + 10) (rf 11 80) (nI 0) (32 * 11 + 14) (rf 11 80) = _ from (up2_n _ _ (by decide)).trans h14), fun g q hq => (psF_q hq).trans (up2_n _ _ (fun e => hq e.2)), rfl, (show sA ai (rf 36 88) S.2.2.2.2.2 (rf 33 84) = _ from sA_o (by decide)), fun a h1 h2 h3 h5 h6 => (show (if a = rf 32 81 then _ else sA ai (rf 36 88) S.2.2.2.2.2 a) = _ by rw [if_neg h1]; exact sA_o h6), (show sA ai (rf 36 88) S.2.2.2.2.2 (rf 34 85) = _ from sA_o (by decide))⟩
  | false =>
    rw [if_pos rfl]
    have hcl := hcl hS
    have he := he hS
    have nxt : EV mX11_script 9 0 0 77 [some (.ref (rf 11 80)), none] [] (psF (up2 fi (32 * 11 + 10) (rf 11 80) (nI 0)) S) fr (mW (sA ai (rf 36 88) S.2.2.2.2.2) w) ar N (rsQ (some (.int (nI (exR cl c 0 w).1))) (exR cl c 0 w).2 (if 0 < (exR cl c 0 w).1 then u1 u else u) S.2.2.1 S.2.2.2.1 (if (exR cl c 0 w).1 < c then nI (exR cl c 0 w).1 else -1) (if 0 < (exR cl c 0 w).1 then reU (ai (rf 33 84)) u (cpA (ai (rf 32 82)) (fun i => nI (w i)) 0 8597) else ai (rf 33 84)) fi fr ai ar N (fun ch => ∀ lg, CHG (ai (rf 34 85)) lg (w 0) → CHG ch (exRG cl c 0 w lg) ((exR cl c 0 w).2 0))) := by
      have fin : EV mX11_script 9 0 0 88 [some (.ref (rf 11 80)), some (.int (nI 0))] [] (psF (up2 (up2 fi (32 * 11 + 10) (rf 11 80) (nI 0)) (32 * 11 + 8) (rf 11 80) (nI 1)) S) fr (mW (sA (sA ai (rf 36 88) S.2.2.2.2.2) (rf 32 82) (cpA (sA ai (rf 36 88) S.2.2.2.2.2 (rf 32 82)) (fun i => nI (w i)) 0 8597)) w) ar N (rsQ (some (.int (nI (exR cl c 0 w).1))) (exR cl c 0 w).2 (if 0 < (exR cl c 0 w).1 then u1 u else u) S.2.2.1 S.2.2.2.1 (if (exR cl c 0 w).1 < c then nI (exR cl c 0 w).1 else -1) (if 0 < (exR cl c 0 w).1 then reU (ai (rf 33 84)) u (cpA (ai (rf 32 82)) (fun i => nI (w i)) 0 8597) else ai (rf 33 84)) fi fr ai ar N (fun ch => ∀ lg, CHG (ai (rf 34 85)) lg (w 0) → CHG ch (exRG cl c 0 w lg) ((exR cl c 0 w).2 0))) := by
        rw [sA_o (show rf 32 82 ≠ rf 36 88 by decide)]
        refine EV_mono (xs_loop (fi := psF (up2 (up2 fi (32 * 11 + 10) (rf 11 80) (nI 0)) (32 * 11 + 8) (rf 11 80) (nI 1)) S) (ar := ar) (N := N) (cl := cl) sm (c := c) (u := u) (by rw [← hC]; rfl) hc4 ((show up2 (up2 fi (32 * 11 + 10) (rf 11 80) (nI 0)) (32 * 11 + 8) (rf 11 80) (nI 1) (32 * 11 + 4) (rf 11 80) = nI u by rw [up2_n _ _ (by decide), up2_n _ _ (by decide)]; exact h4)) hu6 (show up2 (up2 fi (32 * 11 + 10) (rf 11 80) (nI 0)) (32 * 11 + 8) (rf 11 80) (nI 1) (32 * 11 + 8) (rf 11 80) = bI true from up2_s _ _ _ _) c 0 w (sA (sA ai (rf 36 88) S.2.2.2.2.2) (rf 32 82) (cpA (ai (rf 32 82)) (fun i => nI (w i)) 0 8597)) (by omega) gw (fun i hi => by rw [sA_o (by decide), sA_s]; exact hcl i hi) he (fun j hj => by have := hw j hj; omega)) (fun r fi' fr' ai' ar' N' q => ?_)
        obtain ⟨q1, q2, q3, q4, q5, q6, q7, q8, q9⟩ := q
        have x1 : ∀ g, g ≠ 32 * 11 + 4 → g ≠ 32 * 11 + 8 → g ≠ 32 * 11 + 14 → fi' g (rf 11 80) = psF (up2 fi (32 * 11 + 10) (rf 11 80) (nI 0)) S g (rf 11 80) := fun g g1 g2 g3 => by
          rw [q2]
          unfold xsF
          have e1 : up2 (up2 (psF (up2 (up2 fi (32 * 11 + 10) (rf 11 80) (nI 0)) (32 * 11 + 8) (rf 11 80) (nI 1)) S) (32 * 11 + 8) (rf 11 80) (nI 0)) (32 * 11 + 14) (rf 11 80) (if (exR cl c 0 w).1 < c then nI (exR cl c 0 w).1 else -1) g (rf 11 80) = psF (up2 fi (32 * 11 + 10) (rf 11 80) (nI 0)) S g (rf 11 80) := by
            rw [up2_n _ _ (fun e => g3 e.1), up2_n _ _ (fun e => g2 e.1), ← ps_u (by decide), up2_n _ _ (fun e => g2 e.1)]
          dsimp only
          split
          · rw [up2_n _ _ (fun e => g1 e.1)]; exact e1
          · exact e1
        have x4 : fi' (32 * 11 + 4) (rf 11 80) = nI (if 0 < (exR cl c 0 w).1 then u1 u else u) := by
          rw [q2]
          unfold xsF
          dsimp only
          split
          · exact up2_s _ _ _ _
          · rw [up2_n _ _ (by decide), up2_n _ _ (by decide), ← ps_u (by decide), up2_n _ _ (by decide), ← ps_u (by decide), up2_n _ _ (by decide)]
            exact h4
        have x8 : fi' (32 * 11 + 8) (rf 11 80) = nI 0 := by
          rw [q2]
          unfold xsF
          dsimp only
          split
          · rw [up2_n _ _ (by decide), up2_n _ _ (by decide)]; exact up2_s _ _ _ _
          · rw [up2_n _ _ (by decide)]; exact up2_s _ _ _ _
        have x14 : fi' (32 * 11 + 14) (rf 11 80) = (if (exR cl c 0 w).1 < c then nI (exR cl c 0 w).1 else -1) := by
          rw [q2]
          unfold xsF
          dsimp only
          split
          · rw [up2_n _ _ (by decide)]; exact up2_s _ _ _ _
          · exact up2_s _ _ _ _
        have xq : ∀ g q, q ≠ rf 11 80 → fi' g q = fi g q := fun g q hq => by
          rw [q2]
          unfold xsF
          have e1 : up2 (up2 (psF (up2 (up2 fi (32 * 11 + 10) (rf 11 80) (nI 0)) (32 * 11 + 8) (rf 11 80) (nI 1)) S) (32 * 11 + 8) (rf 11 80) (nI 0)) (32 * 11 + 14) (rf 11 80) (if (exR cl c 0 w).1 < c then nI (exR cl c 0 w).1 else -1) g q = fi g q := by
            rw [up2_n _ _ (fun e => hq e.2), up2_n _ _ (fun e => hq e.2), psF_q hq, up2_n _ _ (fun e => hq e.2), up2_n _ _ (fun e => hq e.2)]
          dsimp only
          split
          · rw [up2_n _ _ (fun e => hq e.2)]; exact e1
          · exact e1
        refine ⟨q1, q3, q4, q5, x4, ?_, x8, ?_, ?_, ?_, x14, xq, q6, ?_, fun a h1 h2 h3 h5 h6 => ?_, ?_⟩
        · rw [x1 _ (by decide) (by decide) (by decide)]
          show up2 fi (32 * 11 + 10) (rf 11 80) (nI 0) (32 * 11 + 5) (rf 11 80) = _
          exact up2_n _ _ (by decide)
        · rw [x1 _ (by decide) (by decide) (by decide)]
          show up2 fi (32 * 11 + 10) (rf 11 80) (nI 0) (32 * 11 + 10) (rf 11 80) = _
          exact up2_s _ _ _ _
        · rw [x1 _ (by decide) (by decide) (by decide)]
          rfl
        · rw [x1 _ (by decide) (by decide) (by decide)]
          rfl
        · rw [q7, sA_o (show rf 33 84 ≠ rf 32 82 by decide), sA_o (show rf 33 84 ≠ rf 36 88 by decide), sA_s]
        · rw [q8 a h1 h3 h5, sA_o h2, sA_o h6]
        · intro lg hl
          exact q9 lg (by rw [sA_o (by decide), sA_o (by decide)]; exact hl)
      refine e_aload_n dX11_script_77 rfl rfl ?_
      refine y_V0 (M' := mX11_laysAside) dX11_script_78 ml_X11_311 ok_X11_laysAside (by decide) rfl im_X11_laysAside se_X11_laysAside (ct_X11_laysAside sm) (Nat.le_of_ble_eq_true rfl) (by decide) (Nat.le_of_ble_eq_true rfl) ?_
      refine e_aload_n dX11_script_81 rfl rfl ?_
      refine e_iconst (v := nI 1) dX11_script_82 rfl ?_
      refine e_putI dX11_script_83 fl_X11_110 rfl rfl rfl rfl ?_
      rw [ps_u (by decide)]
      refine e_iconst (v := nI 0) dX11_script_86 rfl ?_
      refine e_istore_n dX11_script_87 rfl (Nat.le_of_ble_eq_true rfl) rfl ?_
      exact fin
    refine e_aload_n dX11_script_63 rfl rfl ?_
    refine e_iconst (v := nI 0) dX11_script_64 rfl ?_
    refine e_putI dX11_script_65 fl_X11_217 rfl rfl rfl rfl ?_
    rw [ps_u (by decide)]
    refine e_aload_n dX11_script_68 rfl rfl ?_
    refine e_getI dX11_script_69 fl_X11_223 rfl ?_
    rw [psF_15, hS]
    first | ((with_reducible refine mk_b ?_); refine b_if_eq (tgt := 77) dX11_script_72 (by decide) (fun h72 => ?_) (fun h72 => ?_)) | ((with_reducible refine mk_ll ?_); refine m_if_eq (tgt := 77) dX11_script_72 (by decide) (by omega) (by omega) (fun h72 => ?_) (fun h72 => ?_)) | ((with_reducible refine mk_lc ?_); refine l_if_eq (tgt := 77) dX11_script_72 (by decide) (fun h72 => ?_) (fun h72 => ?_)) | ((with_reducible refine mk_n ?_); refine n_if_eq (tgt := 77) dX11_script_72 (by decide) (by omega) (fun h72 => ?_) (fun h72 => ?_)) | refine e_if_eq (tgt := 77) dX11_script_72 (by decide) (fun h72 => ?_) (fun h72 => ?_)
    · try first | contradiction | omega | (simp only [decide_eq_true_eq, decide_eq_false_iff_not] at h72; omega)
      all_goals
        exact nxt
    · try first | contradiction | omega | (simp only [decide_eq_true_eq, decide_eq_false_iff_not] at h72; omega)
      all_goals
        contradiction
theorem ct_X11_script {fi : FI} {fr : FR} {ai : FI} {ar : FR} {N : Nat} {w : Nat → Nat} (sm : SM fr) {tp : Nat → Nat} {t u : Nat} {cl : Nat → Nat × Int32 × Int32 × Int32} (ht : fi (32 * 11 + 10) (rf 11 80) = nI t) (ht4 : t ≤ 400) (hT : ∀ i, i < t → ai (rf 35 87) i = sB (tp i)) (hb : ∀ i, tp i < 256) (gw : GW w) (h4 : fi (32 * 11 + 4) (rf 11 80) = nI u) (hu6 : u ≤ 6) (h8 : fi (32 * 11 + 8) (rf 11 80) = nI 0)
    (hcl : (rpS tp t (ai (rf 36 88))).2.1 = false → ∀ i, i < (rpS tp t (ai (rf 36 88))).2.2.2.2.1 → (rpS tp t (ai (rf 36 88))).2.2.2.2.2 (4 * i) = nI (cl i).1 ∧ (cl i).1 < 15 ∧ (rpS tp t (ai (rf 36 88))).2.2.2.2.2 (4 * i + 1) = (cl i).2.1 ∧ (rpS tp t (ai (rf 36 88))).2.2.2.2.2 (4 * i + 2) = (cl i).2.2.1 ∧ (rpS tp t (ai (rf 36 88))).2.2.2.2.2 (4 * i + 3) = (cl i).2.2.2) (he : (rpS tp t (ai (rf 36 88))).2.1 = false → w 0 + evS cl (rpS tp t (ai (rf 36 88))).2.2.2.2.1 0 < 1999) (hw : ∀ j, j < 1000 → w (106 + j) + 82 ≤ 100000) :
    CP mX11_script 9 0 0 [.ref (rf 11 80)] fi fr (mW ai w) ar N (if (rpS tp t (ai (rf 36 88))).2.1 = false then rsQ (some (.int (nI (exR cl (rpS tp t (ai (rf 36 88))).2.2.2.2.1 0 w).1))) (exR cl (rpS tp t (ai (rf 36 88))).2.2.2.2.1 0 w).2 (if 0 < (exR cl (rpS tp t (ai (rf 36 88))).2.2.2.2.1 0 w).1 then u1 u else u) (rpS tp t (ai (rf 36 88))).2.2.1 (rpS tp t (ai (rf 36 88))).2.2.2.1 (if (exR cl (rpS tp t (ai (rf 36 88))).2.2.2.2.1 0 w).1 < (rpS tp t (ai (rf 36 88))).2.2.2.2.1 then nI (exR cl (rpS tp t (ai (rf 36 88))).2.2.2.2.1 0 w).1 else -1) (if 0 < (exR cl (rpS tp t (ai (rf 36 88))).2.2.2.2.1 0 w).1 then reU (ai (rf 33 84)) u (cpA (ai (rf 32 82)) (fun i => nI (w i)) 0 8597) else ai (rf 33 84)) fi fr ai ar N (fun ch => ∀ lg, CHG (ai (rf 34 85)) lg (w 0) → CHG ch (exRG cl (rpS tp t (ai (rf 36 88))).2.2.2.2.1 0 w lg) ((exR cl (rpS tp t (ai (rf 36 88))).2.2.2.2.1 0 w).2 0)) else rsQ (some (.int (-1))) w u (rpS tp t (ai (rf 36 88))).2.2.1 (rpS tp t (ai (rf 36 88))).2.2.2.1 (-1) (ai (rf 33 84)) fi fr ai ar N (fun ch => ch = ai (rf 34 85))) := by
  have hle := rpL_le (tp := tp) (t := t) 402 (s := rp0 tp t (ai (rf 36 88))) (skb_le tp (Nat.zero_le t)).2 (Nat.zero_le _)
  have f14 : ∀ g, g ≠ 32 * 11 + 14 → up2 fi (32 * 11 + 14) (rf 11 80) (-1) g (rf 11 80) = fi g (rf 11 80) := fun g hg => up2_n _ _ (fun e => hg e.1)
  have fin := rs_63 (fi := up2 fi (32 * 11 + 14) (rf 11 80) (-1)) (ai := ai) (ar := ar) (N := N) (S := rpS tp t (ai (rf 36 88))) (cl := cl) sm rfl hle.2 gw ((f14 _ (by decide)).trans h4) hu6 ((f14 _ (by decide)).trans h8) (up2_s _ _ _ _) hcl he hw
  generalize hQ : (if (rpS tp t (ai (rf 36 88))).2.1 = false then rsQ (some (.int (nI (exR cl (rpS tp t (ai (rf 36 88))).2.2.2.2.1 0 w).1))) (exR cl (rpS tp t (ai (rf 36 88))).2.2.2.2.1 0 w).2 (if 0 < (exR cl (rpS tp t (ai (rf 36 88))).2.2.2.2.1 0 w).1 then u1 u else u) (rpS tp t (ai (rf 36 88))).2.2.1 (rpS tp t (ai (rf 36 88))).2.2.2.1 (if (exR cl (rpS tp t (ai (rf 36 88))).2.2.2.2.1 0 w).1 < (rpS tp t (ai (rf 36 88))).2.2.2.2.1 then nI (exR cl (rpS tp t (ai (rf 36 88))).2.2.2.2.1 0 w).1 else -1) (if 0 < (exR cl (rpS tp t (ai (rf 36 88))).2.2.2.2.1 0 w).1 then reU (ai (rf 33 84)) u (cpA (ai (rf 32 82)) (fun i => nI (w i)) 0 8597) else ai (rf 33 84)) fi fr ai ar N (fun ch => ∀ lg, CHG (ai (rf 34 85)) lg (w 0) → CHG ch (exRG cl (rpS tp t (ai (rf 36 88))).2.2.2.2.1 0 w lg) ((exR cl (rpS tp t (ai (rf 36 88))).2.2.2.2.1 0 w).2 0)) else rsQ (some (.int (-1))) w u (rpS tp t (ai (rf 36 88))).2.2.1 (rpS tp t (ai (rf 36 88))).2.2.2.1 (-1) (ai (rf 33 84)) fi fr ai ar N (fun ch => ch = ai (rf 34 85))) = Q
  have fin2 : EV mX11_script 9 0 0 63 [some (.ref (rf 11 80)), none] [] (psF (up2 fi (32 * 11 + 14) (rf 11 80) (-1)) (rpS tp t (ai (rf 36 88)))) fr (sA (mW ai w) (rf 36 88) (rpS tp t (ai (rf 36 88))).2.2.2.2.2) ar N Q := by
    refine EV_mono fin (fun r fi' fr' ai' ar' N' q => ?_)
    rw [← hQ]
    cases hS : (rpS tp t (ai (rf 36 88))).2.1 with
    | true =>
      rw [hS, if_neg (by decide)] at q
      rw [if_neg (by decide)]
      obtain ⟨q1, q2, q3, q4, q5, q6, q7, q8, q9, q10, q11, q12, q13⟩ := q
      exact ⟨q1, q2, q3, q4, q5, q6.trans (f14 _ (by decide)), q7, q8, q9, q10, q11, fun g x hx => (q12 g x hx).trans (up2_n _ _ (fun e => hx e.2)), q13⟩
    | false =>
      rw [hS, if_pos rfl] at q
      rw [if_pos rfl]
      obtain ⟨q1, q2, q3, q4, q5, q6, q7, q8, q9, q10, q11, q12, q13⟩ := q
      exact ⟨q1, q2, q3, q4, q5, q6.trans (f14 _ (by decide)), q7, q8, q9, q10, q11, fun g x hx => (q12 g x hx).trans (up2_n _ _ (fun e => hx e.2)), q13⟩
  have hT0 : ∀ i, i < t → mW ai w (rf 35 87) i = sB (tp i) := hT
  have e36 : mW ai w = sA (mW ai w) (rf 36 88) (ai (rf 36 88)) := (sA_self (mW ai w) (rf 36 88)).symm
  have beg : EV mX11_script 9 0 0 34 [some (.ref (rf 11 80)), none] [] (psF (up2 fi (32 * 11 + 14) (rf 11 80) (-1)) (rp0 tp t (ai (rf 36 88)))) fr (sA (mW ai w) (rf 36 88) (rp0 tp t (ai (rf 36 88))).2.2.2.2.2) ar N Q :=
    rp_loop sm ((f14 _ (by decide)).trans ht) ht4 hT0 hb fin2 402 (rp0 tp t (ai (rf 36 88))) rfl (skb_le tp (Nat.zero_le t)).2 (Nat.zero_le _) (fun _ => by omega)
  clear fin fin2 hQ
  change EV mX11_script 9 0 0 0 [some (.ref (rf 11 80)), none] [] fi fr (mW ai w) ar N Q
  refine e_aload_n dX11_script_0 rfl rfl ?_
  refine e_iconst (v := nI 0) dX11_script_1 rfl ?_
  refine e_putI dX11_script_2 fl_X11_223 rfl rfl rfl rfl ?_
  refine e_aload_n dX11_script_5 rfl rfl ?_
  refine e_iconst (v := nI 0) dX11_script_6 rfl ?_
  refine e_putI dX11_script_7 fl_X11_226 rfl rfl rfl rfl ?_
  refine e_aload_n dX11_script_10 rfl rfl ?_
  refine e_iconst (v := -1) dX11_script_11 rfl ?_
  refine e_putI dX11_script_12 fl_X11_33 rfl rfl rfl rfl ?_
  refine e_aload_n dX11_script_15 rfl rfl ?_
  refine e_iconst (v := -1) dX11_script_16 rfl ?_
  refine e_putI dX11_script_17 fl_X11_37 rfl rfl rfl rfl ?_
  refine e_aload_n dX11_script_20 rfl rfl ?_
  refine e_iconst (v := nI 0) dX11_script_21 rfl ?_
  refine e_putI dX11_script_22 fl_X11_257 rfl rfl rfl rfl ?_
  refine e_aload_n dX11_script_25 rfl rfl ?_
  refine e_iconst (v := nI 0) dX11_script_26 rfl ?_
  refine e_putI dX11_script_27 fl_X11_229 rfl rfl rfl rfl ?_
  rw [ps_new fi (ai (rf 36 88))]
  refine e_aload_n dX11_script_30 rfl rfl ?_
  refine y_V0 (M' := mX11_blanks) dX11_script_31 ml_X11_243 ok_X11_blanks (by decide) rfl im_X11_blanks se_X11_blanks (ct_X11_blanks sm ((f14 _ (by decide)).trans ht) ht4 hT0 hb (Nat.zero_le t)) (Nat.le_of_ble_eq_true rfl) (by decide) (Nat.le_of_ble_eq_true rfl) ?_
  exact EV_ai e36 beg
