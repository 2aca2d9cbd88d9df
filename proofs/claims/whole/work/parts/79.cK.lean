theorem son_0 {w : Nat → Nat} (iv : Inv w) {m : Nat} (hm : m < w 3) (hst : 1 ≤ w (7694 + 72 * m + 0) ∧ w (7694 + 72 * m + 0) ≤ 4) : (w (7694 + 72 * m + 10) = 1 ∨ w (7694 + 72 * m + 0) ≠ 3 → sonW w m 0 = w 0) ∧ (w (7694 + 72 * m + 10) ≠ 1 → w (7694 + 72 * m + 0) = 3 → sonW w m 0 = w 0 + 1) := by
  have hmm := iv_mm iv
  have iv3 := so3_Inv iv hm
  have hm3 : m < so3 w m 3 := by rw [so3_fr (by omega) (by omega) (by omega)]; exact hm
  have S : ∀ q, q ≠ 8558 + 11 → q ≠ (7694 + 72 * m + 9) → q ≠ (7694 + 72 * m + 10) → so3 w m q = w q := fun q a b c => so3_fr a b c
  have s0 := S 0 (by omega) (by omega) (by omega)
  have st := S (7694 + 72 * m + 0) (by omega) (by omega) (by omega)
  have iv4 := fa2_Inv iv3 hm3
  have hm4 : m < fa2 (so3 w m) m 3 := by rw [fa2_fr (by omega) (by omega)]; exact hm3
  have f0 : fa2 (so3 w m) m 0 = w 0 := by rw [fa2_fr (by omega) (by omega)]; exact s0
  have cf : ∀ (x : Nat → Nat) (ch : Nat), Inv x → m < x 3 → catW x m ch 0 = x 0 := fun x ch ix hx => by
    have h6 := (iv_mv ix hx).2.2.2.2.2.2.2.1
    unfold catW
    rw [upN_n (by omega), upN_n (by omega), tsF_fr (by omega)]
    exact (cuS_in ix hx _ (by unfold cuN; split <;> omega)).1 _ (by omega)
  have gf : ∀ (x : Nat → Nat) (ch : Nat) (cl : Bool), Inv x → m < x 3 → govW x m ch cl 0 = x 0 := fun x ch cl ix hx => govW_g ix hx (by omega) (by omega) (by omega)
  have hsp := spW_lt iv3 (so3 w m (7694 + 72 * m + 1))
  have h1 := iv_n iv3
  refine ⟨fun h => ?_, fun h h3 => ?_⟩
  · unfold sonW
    split
    · unfold faiW
      repeat' split
      all_goals (simp (disch := first | omega | assumption) only [upN_n, cf, gf, f0])
    · have h3 : w (7694 + 72 * m + 0) ≠ 3 := by omega
      unfold steW
      rw [st, if_neg h3]
      unfold gonW
      repeat' split
      all_goals (simp (disch := first | omega | assumption) only [upN_n, cf, gf, s0])
  · unfold sonW
    rw [if_neg h]
    unfold steW
    rw [st, if_neg (by omega), if_neg (by omega), if_pos h3]
    unfold swiW
    rw [upN_n (by omega), upN_n (by omega), upN_n (by omega), upN_n (by omega), upN_n (by omega), upN_s, s0]
theorem Bd_gov {w : Nat → Nat} (iv : Inv w) {m ch : Nat} {cl : Bool} (hm : m < w 3) : Bd (govW w m ch cl) := by
  have hmm := iv_mm iv
  exact Bd_sm (govW_g iv hm (by omega) (by omega) (by omega)) (govW_g iv hm (by omega) (by omega) (by omega)) (fun c hc => govW_g iv hm (by omega) (by omega) (by omega)) (fun m2 hm2 => govW_g iv hm (by omega) (by omega) (by omega)) (Bd_iv iv)
theorem cat_fr {w : Nat → Nat} (iv : Inv w) {m ch q : Nat} (hm : m < w 3) (hq : q < 1106 ∨ 7106 ≤ q) (h6 : q ≠ (7694 + 72 * m + 6)) (h12 : q < (7694 + 72 * m + 12) ∨ 7694 + 72 * m + 72 ≤ q) (h13 : q ≠ 8558 + 13) : catW w m ch q = w q := by
  have h60 := (iv_mv iv hm).2.2.2.2.2.2.2.1
  have hcn : cuN w m ch ≤ w (7694 + 72 * m + 6) := by unfold cuN; split <;> omega
  unfold catW
  rw [upN_n (by omega), upN_n (by omega), tsF_fr (by omega)]
  exact (cuS_in iv hm _ hcn).1 _ (by omega)
theorem Bd_cat {w : Nat → Nat} (iv : Inv w) {m ch : Nat} (hm : m < w 3) : Bd (catW w m ch) := by
  have hmm := iv_mm iv
  have h60 := (iv_mv iv hm).2.2.2.2.2.2.2.1
  have bd := Bd_iv iv
  refine ⟨by rw [cat_fr iv hm (by omega) (by omega) (by omega) (by omega)]; exact bd.1, by rw [cat_fr iv hm (by omega) (by omega) (by omega) (by omega)]; exact bd.2.1, fun c hc => by rw [cat_fr iv hm (by omega) (by omega) (by omega) (by omega)]; exact bd.2.2.1 c hc, fun m2 hm2 => ?_⟩
  rw [cat_fr iv hm (by omega) (by omega) (by omega) (by omega)] at hm2
  by_cases e : m2 = m
  · subst e
    unfold catW
    rw [upN_n (by omega), upN_s]; omega
  · rw [cat_fr iv hm (by omega) (by omega) (by omega) (by omega)]; exact bd.2.2.2 m2 hm2
theorem fa_gov {w : Nat → Nat} (iv : Inv w) {m ch : Nat} {cl : Bool} (hm : m < w 3) : upN (upN (upN (govW w m ch cl) (7694 + 72 * m + 7) 1) (7694 + 72 * m + 8) 3) (8558 + 12) (upN (upN (govW w m ch cl) (7694 + 72 * m + 7) 1) (7694 + 72 * m + 8) 3 (8558 + 12) + 1) = upN (govW (fa2 w m) m ch cl) (7694 + 72 * m + 7) 1 := by
  have hmm := iv_mm iv
  have hv := iv_mv iv hm
  have e1 := (gov_up iv (ch := ch) (cl := cl) (q := (7694 + 72 * m + 8)) (v := 3) hm (by omega) (by omega) (by omega) (by omega) (by omega) (by omega)).1
  have ivA : Inv (upN w (7694 + 72 * m + 8) 3) := Inv_m8 iv hm 8 (by omega)
  have e2 := (gov_up ivA (ch := ch) (cl := cl) (q := 8558 + 12) (v := w (8558 + 12) + 1) (by rw [upN_n (by omega)]; exact hm) (by omega) (by omega) (by omega) (by omega) (by omega) (by omega)).1
  unfold fa2
  rw [e2, e1, upN_n (q := 8558 + 12) (by omega), upN_n (q := 8558 + 12) (by omega), govW_f iv hm hv.2.2.2.2.2.2.1 (by omega) (by omega) (by omega), upN_cm (a := (7694 + 72 * m + 7)) (b := (7694 + 72 * m + 8)) (by omega), upN_cm (a := (7694 + 72 * m + 7)) (b := 8558 + 12) (by omega)]
theorem fa_cat {w : Nat → Nat} (iv : Inv w) {m ch : Nat} (hm : m < w 3) : upN (upN (upN (catW w m ch) (7694 + 72 * m + 7) 1) (7694 + 72 * m + 8) 3) (8558 + 12) (upN (upN (catW w m ch) (7694 + 72 * m + 7) 1) (7694 + 72 * m + 8) 3 (8558 + 12) + 1) = upN (catW (fa2 w m) m ch) (7694 + 72 * m + 7) 1 := by
  have hmm := iv_mm iv
  have hv := iv_mv iv hm
  have e1 := cat_up iv (ch := ch) (q := (7694 + 72 * m + 8)) (v := 3) hm (by omega) (by omega) (by omega) (by omega) (by omega) (by omega)
  have ivA : Inv (upN w (7694 + 72 * m + 8) 3) := Inv_m8 iv hm 8 (by omega)
  have e2 := cat_up ivA (ch := ch) (q := 8558 + 12) (v := w (8558 + 12) + 1) (by rw [upN_n (by omega)]; exact hm) (by omega) (by omega) (by omega) (by omega) (by omega) (by omega)
  unfold fa2
  rw [e2, e1, upN_n (q := 8558 + 12) (by omega), upN_n (q := 8558 + 12) (by omega), cat_fr iv hm (by omega) (by omega) (by omega) (by omega), upN_cm (a := (7694 + 72 * m + 7)) (b := (7694 + 72 * m + 8)) (by omega), upN_cm (a := (7694 + 72 * m + 7)) (b := 8558 + 12) (by omega)]
theorem ste1 {w : Nat → Nat} (iv : Inv w) {m bb : Nat} (hm : m < w 3) (hs : w (7694 + 72 * m + 0) = 1) (hb : (bb = 0 ∧ w 2 ≤ govN w m (w 2) false) ∨ (bb = 1 ∧ govN w m (w 2) false < w 2)) : gfW (govW w m (w 2) false) m bb = steW w m := by
  have hmm := iv_mm iv
  have hv := iv_mv iv hm
  have hle : govN w m (w 2) false ≤ w 2 := (goS_in iv (ch := w 2) (cl := false) hm (govL w m) (by unfold govL; omega)).2.2.2.1
  have g0 : govW w m (w 2) false (7694 + 72 * m + 0) = w (7694 + 72 * m + 0) := govW_g iv hm (by omega) (by omega) (by omega)
  have g2 : govW w m (w 2) false (7694 + 72 * m + 2) = w (7694 + 72 * m + 2) := govW_g iv hm (by omega) (by omega) (by omega)
  unfold steW gonW gfW
  rw [g0, g2, if_pos hs, if_neg (by omega), if_pos hs]
  rcases hb with ⟨b1, b2⟩ | ⟨b1, b2⟩
  · rw [if_pos b1, if_pos (by omega)]
  · rw [if_neg (by omega), if_neg (by omega), if_neg (by decide), upN_cm (by omega)]
theorem ste4 {w : Nat → Nat} (iv : Inv w) {m bb : Nat} (hm : m < w 3) (hs : w (7694 + 72 * m + 0) = 4) (hb : (bb = 0 ∧ w 2 ≤ govN w m (w 2) true) ∨ (bb = 1 ∧ govN w m (w 2) true < w 2)) : gfW (govW w m (w 2) true) m bb = steW w m := by
  have hmm := iv_mm iv
  have hv := iv_mv iv hm
  have hle : govN w m (w 2) true ≤ w 2 := (goS_in iv (ch := w 2) (cl := true) hm (govL w m) (by unfold govL; omega)).2.2.2.1
  have g0 : govW w m (w 2) true (7694 + 72 * m + 0) = w (7694 + 72 * m + 0) := govW_g iv hm (by omega) (by omega) (by omega)
  have g2 : govW w m (w 2) true (7694 + 72 * m + 2) = w (7694 + 72 * m + 2) := govW_g iv hm (by omega) (by omega) (by omega)
  have g9 : govW w m (w 2) true (8558 + 9) = w (8558 + 9) := govW_f iv hm hv.2.2.2.2.2.2.1 (by omega) (by omega) (by omega)
  unfold steW gonW gfW
  rw [g0, g2, g9, if_neg (show ¬ w (7694 + 72 * m + 0) = 1 by omega), if_neg (show ¬ w (7694 + 72 * m + 0) = 2 by omega), if_neg (show ¬ w (7694 + 72 * m + 0) = 1 by omega), if_neg (show ¬ w (7694 + 72 * m + 0) = 2 by omega), if_neg (show ¬ w (7694 + 72 * m + 0) = 3 by omega)]
  rcases hb with ⟨b1, b2⟩ | ⟨b1, b2⟩
  · rw [if_pos b1, if_pos (by omega)]
  · rw [if_neg (by omega), if_neg (by omega), if_pos rfl, upN_cm (a := (7694 + 72 * m + 5)) (b := (7694 + 72 * m + 0)) (by omega)]
theorem ste2 {w : Nat → Nat} (iv : Inv w) {m bb : Nat} (hm : m < w 3) (hs : w (7694 + 72 * m + 0) = 2) : gfW (catW w m (w 2)) m bb = steW w m := by
  have hmm := iv_mm iv
  have g0 : catW w m (w 2) (7694 + 72 * m + 0) = w (7694 + 72 * m + 0) := cat_fr iv hm (by omega) (by omega) (by omega) (by omega)
  unfold steW gfW
  rw [g0, if_pos hs, if_neg (show ¬ w (7694 + 72 * m + 0) = 1 by omega), if_pos hs]
def sonL (lg w : Nat → Nat) (m : Nat) : Nat → Nat := if w (7694 + 72 * m + 10) = 1 then lg else if w (7694 + 72 * m + 0) = 3 then lgN lg (w 0 + 1) 3 (w (7694 + 72 * m + 1)) (w (7694 + 72 * m + 4)) else lg
theorem ct_X5_takeOne {fi : FI} {fr : FR} {ai : FI} {ar : FR} {N : Nat} {w lg : Nat → Nat} (cm : CM fr ar) (iv : Inv w) (i2 : Inv2 w) (hK : K fi ai w lg (w 0)) {m : Nat} (hm : m < w 3) (hst : 1 ≤ w (7694 + 72 * m + 0) ∧ w (7694 + 72 * m + 0) ≤ 4) (h0 : w (7694 + 72 * m + 0) = 3 → w 0 < 1999) : CP mX5_takeOne 3 0 0 [.ref (rf 5 73), .ref (rf 4 (34 + 2 * m))] fi fr ai ar N (kQ (none) fi fr ai ar N (fun fi ai => K fi ai (sonW w m) (sonL lg w m) (sonW w m 0))) := by
  have h1 := iv_n iv
  have h3 := iv_mm iv
  have bd := Bd_iv iv
  have hF : FR1 fi ai fi ai := FR1_rf
  have hq := iv_mv iv hm
  have hch := iv_ch iv
  change EV mX5_takeOne 3 0 0 0 [some (.ref (rf 5 73)), some (.ref (rf 4 (34 + 2 * m))), none, none, none] [] fi fr ai ar N (kQ (none) fi fr ai ar N (fun fi ai => K fi ai (sonW w m) (sonL lg w m) (sonW w m 0)))
  have hti : (nI (w (7694 + 72 * m + 0))).toInt = w (7694 + 72 * m + 0) := nI_toInt (b31 (by omega))
  have S : ∀ q, q ≠ 8558 + 11 → q ≠ (7694 + 72 * m + 9) → q ≠ (7694 + 72 * m + 10) → so3 w m q = w q := fun q a b c => so3_fr a b c
  have ivS := so3_Inv iv hm
  have S0 := S 0 (by omega) (by omega) (by omega)
  have S1 := S 1 (by omega) (by omega) (by omega)
  have S2 := S 2 (by omega) (by omega) (by omega)
  have S3 := S 3 (by omega) (by omega) (by omega)
  have St := S (7694 + 72 * m + 0) (by omega) (by omega) (by omega)
  have hmS : m < so3 w m 3 := by omega
  have i2S : Inv2 (so3 w m) := Inv2_fr iv (fun q a b => S q (by omega) (by omega) (by omega)) (fun m' d a b => S _ (by omega) (by omega) (by omega)) i2
  have eX : upN (upN w (7694 + 72 * m + 9) (w (7694 + 72 * m + 9) + 1)) (8558 + 11) (upN w (7694 + 72 * m + 9) (w (7694 + 72 * m + 9) + 1) (8558 + 11) + 1) = so2 w m := by unfold so2; rw [upN_n (q := 8558 + 11) (by omega), upN_cm (by omega)]
  have s10 : so2 w m (7694 + 72 * m + 10) = w (7694 + 72 * m + 10) := by unfold so2; rw [upN_n (by omega), upN_n (by omega)]
  have s23 : so2 w m 3 = w 3 := by unfold so2; rw [upN_n (by omega), upN_n (by omega)]
  have bd2 : Bd (so2 w m) := by rw [← eX]; exact Bd_up (Bd_up bd (by omega)) (by omega)
  have bdS := Bd_iv ivS
  obtain ⟨o1, o2⟩ := son_0 iv hm hst
  by_cases ht : w (7694 + 72 * m + 10) = 1
  · have hdt : decide (w (7694 + 72 * m + 10) = 1) = true := decide_eq_true ht
    have eL : sonL lg w m = lg := if_pos ht
    have e1 : sonW w m = faiW (so3 w m) m := if_pos ht
    have e0 := o1 (Or.inl ht)
    rw [eL, e0]
    rcases (show w (7694 + 72 * m + 0) = 1 ∨ w (7694 + 72 * m + 0) = 2 ∨ w (7694 + 72 * m + 0) = 3 ∨ w (7694 + 72 * m + 0) = 4 by omega) with hs | hs | hs | hs
    · have eF : upN (govW (fa2 (so3 w m) m) m (so3 w m 2 / 2) false) (7694 + 72 * m + 7) 1 = sonW w m := by
        rw [e1]; unfold faiW
        rw [St, if_neg (by omega), if_pos hs]
      have hle : govN (so3 w m) m (w 2 / 2) false ≤ w 2 / 2 := (goS_in ivS (ch := w 2 / 2) (cl := false) hmS (govL (so3 w m) m) (by unfold govL; have := iv_mv ivS hmS; omega)).2.2.2.1
      have G3 : govW (so3 w m) m (w 2 / 2) false 3 = w 3 := (govW_g ivS hmS (by omega) (by omega) (by omega)).trans S3
      refine e_aload_n dX5_takeOne_0 rfl rfl ?_
      refine e_dup dX5_takeOne_1 rfl ?_
      refine e_getE dX5_takeOne_2 fl_X5_90 rfl (k_m10 hK (by first | omega | (simp (disch := omega) only [upN_n, upN_s]; omega))) ?_
      refine e_iconst (v := nI 1) dX5_takeOne_5 rfl ?_
      first | ((with_reducible refine mk_nn ?_); refine n_iadd dX5_takeOne_6 ?_) | refine e_iadd dX5_takeOne_6 ?_
      refine e_pm (f := 10) (dd := 9) dX5_takeOne_7 fl_X5_90 (by decide) rfl rfl rfl rfl rfl bd hK (by first | omega | (simp (disch := omega) only [upN_n, upN_s]; omega)) hF (fun fi hF hK => ?_)
      have bd := Bd_K bd hK (by omega)
      refine e_aload_n dX5_takeOne_10 rfl rfl ?_
      refine e_getR dX5_takeOne_11 fl_X5_15 rfl (cv_l cm) ?_
      refine e_bipush (v := nI 11) dX5_takeOne_14 rfl ?_
      refine e_iconst (v := nI 1) dX5_takeOne_16 rfl ?_
      refine ky_V2 (M' := mX3_add) dX5_takeOne_17 ml_X5_66 ok_X3_add (by decide) rfl im_X3_add se_X3_add (ct_X3_add cm bd hK (by omega)) (Nat.le_of_ble_eq_true rfl) (by decide) (Nat.le_of_ble_eq_true rfl) (fun fi ai hG hK => ?_)
      have hF := FR1_tr hF hG
      rw [eX] at hK
      have bd := bd2
      refine e_aload_n dX5_takeOne_20 rfl rfl ?_
      refine kx_V0 (M' := mX4_countDown) dX5_takeOne_21 ml_X5_93 ok_X4_countDown (by decide) rfl im_X4_countDown se_X4_countDown (ct_X4_countDown cm bd hK (by omega) (by omega)) (Nat.le_of_ble_eq_true rfl) (by decide) (Nat.le_of_ble_eq_true rfl) (fun fi ai hG hK => ?_)
      have hF := FR1_tr hF hG
      rw [s10] at hK
      rw [s10, hdt]
      change K _ _ (so3 w m) _ _ at hK
      have bd := bdS
      refine e_istore_n dX5_takeOne_24 rfl (Nat.le_of_ble_eq_true rfl) rfl ?_
      refine e_iload_n dX5_takeOne_25 rfl rfl ?_
      first | ((with_reducible refine mk_b ?_); refine b_if_eq (tgt := 41) dX5_takeOne_26 (by decide) (fun h26 => ?_) (fun h26 => ?_)) | ((with_reducible refine mk_ll ?_); refine m_if_eq (tgt := 41) dX5_takeOne_26 (by decide) (by omega) (by omega) (fun h26 => ?_) (fun h26 => ?_)) | ((with_reducible refine mk_lc ?_); refine l_if_eq (tgt := 41) dX5_takeOne_26 (by decide) (fun h26 => ?_) (fun h26 => ?_)) | ((with_reducible refine mk_n ?_); refine n_if_eq (tgt := 41) dX5_takeOne_26 (by decide) (by omega) (fun h26 => ?_) (fun h26 => ?_)) | refine e_if_eq (tgt := 41) dX5_takeOne_26 (by decide) (fun h26 => ?_) (fun h26 => ?_)
      · try first | contradiction | omega | (simp only [decide_eq_true_eq, decide_eq_false_iff_not] at h26; omega)
        all_goals
          contradiction
      · try first | contradiction | omega | (simp only [decide_eq_true_eq, decide_eq_false_iff_not] at h26; omega)
        all_goals
          refine e_aload_n dX5_takeOne_29 rfl rfl ?_
          refine e_getR dX5_takeOne_30 fl_X5_9 rfl (cv_w cm) ?_
          refine e_getE dX5_takeOne_33 fl_X5_96 rfl ((k_ch hK).trans (by rw [S2])) ?_
          refine e_iconst (v := nI 2) dX5_takeOne_36 rfl ?_
          first | ((with_reducible refine mk_nn ?_); refine n_idiv dX5_takeOne_37 (by omega) (by omega) (by omega) ?_) | refine e_idiv dX5_takeOne_37 (by decide) ?_
          refine e_goto (tgt := 48) dX5_takeOne_38 (by decide) ?_
          refine e_istore_n dX5_takeOne_48 rfl (Nat.le_of_ble_eq_true rfl) rfl ?_
          refine e_iconst (v := nI 0) dX5_takeOne_49 rfl ?_
          refine e_istore dX5_takeOne_50 (Nat.le_of_ble_eq_true rfl) rfl ?_
          refine e_aload_n dX5_takeOne_52 rfl rfl ?_
          refine e_getE dX5_takeOne_53 fl_X5_87 rfl ((k_m2 hK hmS).trans (by rw [St])) ?_
          refine e_swc (tgt := 88) 1 dX5_takeOne_56 (by decide) (by decide) rfl (by decide) (fun h56_0 => ?_) (fun h56_0 => ?_)
          · try first | contradiction | omega
            all_goals
              refine e_aload_n dX5_takeOne_88 rfl rfl ?_
              refine e_aload_n dX5_takeOne_89 rfl rfl ?_
              refine e_iload_n dX5_takeOne_90 rfl rfl ?_
              refine kx_V2 (M' := mX5_copySome) dX5_takeOne_91 ml_X5_99 ok_X5_copySome (by decide) rfl im_X5_copySome se_X5_copySome (ct_X5_copySome cm ivS hK hmS (by omega)) (Nat.le_of_ble_eq_true rfl) (by decide) (Nat.le_of_ble_eq_true rfl) (fun fi ai hG hK => ?_)
              have hF := FR1_tr hF hG
              have bd := Bd_gov ivS (ch := w 2 / 2) (cl := false) hmS
              refine e_istore dX5_takeOne_94 (Nat.le_of_ble_eq_true rfl) rfl ?_
              refine e_goto (tgt := 119) dX5_takeOne_96 (by decide) ?_
              refine e_iload_n dX5_takeOne_119 rfl rfl ?_
              first | ((with_reducible refine mk_b ?_); refine b_if_eq (tgt := 141) dX5_takeOne_120 (by decide) (fun h120 => ?_) (fun h120 => ?_)) | ((with_reducible refine mk_ll ?_); refine m_if_eq (tgt := 141) dX5_takeOne_120 (by decide) (by omega) (by omega) (fun h120 => ?_) (fun h120 => ?_)) | ((with_reducible refine mk_lc ?_); refine l_if_eq (tgt := 141) dX5_takeOne_120 (by decide) (fun h120 => ?_) (fun h120 => ?_)) | ((with_reducible refine mk_n ?_); refine n_if_eq (tgt := 141) dX5_takeOne_120 (by decide) (by omega) (fun h120 => ?_) (fun h120 => ?_)) | refine e_if_eq (tgt := 141) dX5_takeOne_120 (by decide) (fun h120 => ?_) (fun h120 => ?_)
              · try first | contradiction | omega | (simp only [decide_eq_true_eq, decide_eq_false_iff_not] at h120; omega)
                all_goals
                  contradiction
              · try first | contradiction | omega | (simp only [decide_eq_true_eq, decide_eq_false_iff_not] at h120; omega)
                all_goals
                  refine e_aload_n dX5_takeOne_123 rfl rfl ?_
                  refine e_iconst (v := nI 3) dX5_takeOne_124 rfl ?_
                  refine ky_V1 (M' := mX4_breakBy) dX5_takeOne_125 ml_X5_110 ok_X4_breakBy (by decide) rfl im_X4_breakBy se_X4_breakBy (ct_X4_breakBy cm bd hK (by omega)) (Nat.le_of_ble_eq_true rfl) (by decide) (Nat.le_of_ble_eq_true rfl) (fun fi ai hG hK => ?_)
                  have hF := FR1_tr hF hG
                  have bd := Bd_up (Bd_up bd (q := (7694 + 72 * m + 7)) (v := 1) (by omega)) (q := (7694 + 72 * m + 8)) (v := 3) (by omega)
                  refine e_aload_n dX5_takeOne_128 rfl rfl ?_
                  refine e_getR dX5_takeOne_129 fl_X5_15 rfl (cv_l cm) ?_
                  refine e_bipush (v := nI 12) dX5_takeOne_132 rfl ?_
                  refine e_iconst (v := nI 1) dX5_takeOne_134 rfl ?_
                  refine ky_V2 (M' := mX3_add) dX5_takeOne_135 ml_X5_66 ok_X3_add (by decide) rfl im_X3_add se_X3_add (ct_X3_add cm bd hK (by omega)) (Nat.le_of_ble_eq_true rfl) (by decide) (Nat.le_of_ble_eq_true rfl) (fun fi ai hG hK => ?_)
                  have hF := FR1_tr hF hG
                  refine e_goto (tgt := 157) dX5_takeOne_138 (by decide) ?_
                  refine e_ret none rfl (r_void dX5_takeOne_157 rfl) ?_
                  refine kq rfl hF (K_eq hK ?_)
                  rw [fa_gov ivS hmS, ← eF, S2]
          refine e_swc (tgt := 99) 2 dX5_takeOne_56 (by decide) (by decide) rfl (by decide) (fun h56_1 => ?_) (fun h56_1 => ?_)
          · try first | contradiction | omega
            all_goals
              refine e_aload_n dX5_takeOne_99 rfl rfl ?_
              refine e_aload_n dX5_takeOne_100 rfl rfl ?_
              refine e_iload_n dX5_takeOne_101 rfl rfl ?_
              refine ky_V2 (M' := mX5_catchUpSome) dX5_takeOne_102 ml_X5_103 ok_X5_catchUpSome (by decide) rfl im_X5_catchUpSome se_X5_catchUpSome (ct_X5_catchUpSome cm iv hK (by omega) (by omega)) (Nat.le_of_ble_eq_true rfl) (by decide) (Nat.le_of_ble_eq_true rfl) (fun fi ai hG hK => ?_)
              have hF := FR1_tr hF hG
              refine e_goto (tgt := 119) dX5_takeOne_105 (by decide) ?_
              refine e_iload_n dX5_takeOne_119 rfl rfl ?_
              first | ((with_reducible refine mk_b ?_); refine b_if_eq (tgt := 141) dX5_takeOne_120 (by decide) (fun h120 => ?_) (fun h120 => ?_)) | ((with_reducible refine mk_ll ?_); refine m_if_eq (tgt := 141) dX5_takeOne_120 (by decide) (by omega) (by omega) (fun h120 => ?_) (fun h120 => ?_)) | ((with_reducible refine mk_lc ?_); refine l_if_eq (tgt := 141) dX5_takeOne_120 (by decide) (fun h120 => ?_) (fun h120 => ?_)) | ((with_reducible refine mk_n ?_); refine n_if_eq (tgt := 141) dX5_takeOne_120 (by decide) (by omega) (fun h120 => ?_) (fun h120 => ?_)) | refine e_if_eq (tgt := 141) dX5_takeOne_120 (by decide) (fun h120 => ?_) (fun h120 => ?_)
              · try first | contradiction | omega | (simp only [decide_eq_true_eq, decide_eq_false_iff_not] at h120; omega)
                all_goals
                  contradiction
              · try first | contradiction | omega | (simp only [decide_eq_true_eq, decide_eq_false_iff_not] at h120; omega)
                all_goals
                  refine e_aload_n dX5_takeOne_123 rfl rfl ?_
                  refine e_iconst (v := nI 3) dX5_takeOne_124 rfl ?_
                  refine ky_V1 (M' := mX4_breakBy) dX5_takeOne_125 ml_X5_110 ok_X4_breakBy (by decide) rfl im_X4_breakBy se_X4_breakBy (ct_X4_breakBy cm bd hK (by omega)) (Nat.le_of_ble_eq_true rfl) (by decide) (Nat.le_of_ble_eq_true rfl) (fun fi ai hG hK => ?_)
                  have hF := FR1_tr hF hG
                  have bd := Bd_up (Bd_up bd (q := (7694 + 72 * m + 7)) (v := 1) (by omega)) (q := (7694 + 72 * m + 8)) (v := 3) (by omega)
                  refine e_aload_n dX5_takeOne_128 rfl rfl ?_
                  refine e_getR dX5_takeOne_129 fl_X5_15 rfl (cv_l cm) ?_
                  refine e_bipush (v := nI 12) dX5_takeOne_132 rfl ?_
                  refine e_iconst (v := nI 1) dX5_takeOne_134 rfl ?_
                  refine ky_V2 (M' := mX3_add) dX5_takeOne_135 ml_X5_66 ok_X3_add (by decide) rfl im_X3_add se_X3_add (ct_X3_add cm bd hK (by omega)) (Nat.le_of_ble_eq_true rfl) (by decide) (Nat.le_of_ble_eq_true rfl) (fun fi ai hG hK => ?_)
                  have hF := FR1_tr hF hG
                  refine e_goto (tgt := 157) dX5_takeOne_138 (by decide) ?_
                  refine e_ret none rfl (r_void dX5_takeOne_157 rfl) ?_
                  refine kq rfl hF (K_eq hK ?_)
                  rw [fa_gov ivS hmS, ← eF, S2]
          refine e_swc (tgt := 119) 3 dX5_takeOne_56 (by decide) (by decide) rfl (by decide) (fun h56_2 => ?_) (fun h56_2 => ?_)
          · try first | contradiction | omega
            all_goals
              refine e_iload_n dX5_takeOne_119 rfl rfl ?_
              first | ((with_reducible refine mk_b ?_); refine b_if_eq (tgt := 141) dX5_takeOne_120 (by decide) (fun h120 => ?_) (fun h120 => ?_)) | ((with_reducible refine mk_ll ?_); refine m_if_eq (tgt := 141) dX5_takeOne_120 (by decide) (by omega) (by omega) (fun h120 => ?_) (fun h120 => ?_)) | ((with_reducible refine mk_lc ?_); refine l_if_eq (tgt := 141) dX5_takeOne_120 (by decide) (fun h120 => ?_) (fun h120 => ?_)) | ((with_reducible refine mk_n ?_); refine n_if_eq (tgt := 141) dX5_takeOne_120 (by decide) (by omega) (fun h120 => ?_) (fun h120 => ?_)) | refine e_if_eq (tgt := 141) dX5_takeOne_120 (by decide) (fun h120 => ?_) (fun h120 => ?_)
              · try first | contradiction | omega | (simp only [decide_eq_true_eq, decide_eq_false_iff_not] at h120; omega)
                all_goals
                  contradiction
              · try first | contradiction | omega | (simp only [decide_eq_true_eq, decide_eq_false_iff_not] at h120; omega)
                all_goals
                  refine e_aload_n dX5_takeOne_123 rfl rfl ?_
                  refine e_iconst (v := nI 3) dX5_takeOne_124 rfl ?_
                  refine ky_V1 (M' := mX4_breakBy) dX5_takeOne_125 ml_X5_110 ok_X4_breakBy (by decide) rfl im_X4_breakBy se_X4_breakBy (ct_X4_breakBy cm bd hK (by omega)) (Nat.le_of_ble_eq_true rfl) (by decide) (Nat.le_of_ble_eq_true rfl) (fun fi ai hG hK => ?_)
                  have hF := FR1_tr hF hG
                  have bd := Bd_up (Bd_up bd (q := (7694 + 72 * m + 7)) (v := 1) (by omega)) (q := (7694 + 72 * m + 8)) (v := 3) (by omega)
                  refine e_aload_n dX5_takeOne_128 rfl rfl ?_
                  refine e_getR dX5_takeOne_129 fl_X5_15 rfl (cv_l cm) ?_
                  refine e_bipush (v := nI 12) dX5_takeOne_132 rfl ?_
                  refine e_iconst (v := nI 1) dX5_takeOne_134 rfl ?_
                  refine ky_V2 (M' := mX3_add) dX5_takeOne_135 ml_X5_66 ok_X3_add (by decide) rfl im_X3_add se_X3_add (ct_X3_add cm bd hK (by omega)) (Nat.le_of_ble_eq_true rfl) (by decide) (Nat.le_of_ble_eq_true rfl) (fun fi ai hG hK => ?_)
                  have hF := FR1_tr hF hG
                  refine e_goto (tgt := 157) dX5_takeOne_138 (by decide) ?_
                  refine e_ret none rfl (r_void dX5_takeOne_157 rfl) ?_
                  refine kq rfl hF (K_eq hK ?_)
                  rw [fa_gov ivS hmS, ← eF, S2]
          refine e_swc (tgt := 108) 4 dX5_takeOne_56 (by decide) (by decide) rfl (by decide) (fun h56_3 => ?_) (fun h56_3 => ?_)
          · try first | contradiction | omega
            all_goals
              refine e_aload_n dX5_takeOne_108 rfl rfl ?_
              refine e_aload_n dX5_takeOne_109 rfl rfl ?_
              refine e_iload_n dX5_takeOne_110 rfl rfl ?_
              refine kx_V2 (M' := mX5_cleanSome) dX5_takeOne_111 ml_X5_107 ok_X5_cleanSome (by decide) rfl im_X5_cleanSome se_X5_cleanSome (ct_X5_cleanSome cm iv hK (by omega) (by omega)) (Nat.le_of_ble_eq_true rfl) (by decide) (Nat.le_of_ble_eq_true rfl) (fun fi ai hG hK => ?_)
              have hF := FR1_tr hF hG
              refine e_istore dX5_takeOne_114 (Nat.le_of_ble_eq_true rfl) rfl ?_
              refine e_goto (tgt := 119) dX5_takeOne_116 (by decide) ?_
              refine e_iload_n dX5_takeOne_119 rfl rfl ?_
              first | ((with_reducible refine mk_b ?_); refine b_if_eq (tgt := 141) dX5_takeOne_120 (by decide) (fun h120 => ?_) (fun h120 => ?_)) | ((with_reducible refine mk_ll ?_); refine m_if_eq (tgt := 141) dX5_takeOne_120 (by decide) (by omega) (by omega) (fun h120 => ?_) (fun h120 => ?_)) | ((with_reducible refine mk_lc ?_); refine l_if_eq (tgt := 141) dX5_takeOne_120 (by decide) (fun h120 => ?_) (fun h120 => ?_)) | ((with_reducible refine mk_n ?_); refine n_if_eq (tgt := 141) dX5_takeOne_120 (by decide) (by omega) (fun h120 => ?_) (fun h120 => ?_)) | refine e_if_eq (tgt := 141) dX5_takeOne_120 (by decide) (fun h120 => ?_) (fun h120 => ?_)
              · try first | contradiction | omega | (simp only [decide_eq_true_eq, decide_eq_false_iff_not] at h120; omega)
                all_goals
                  contradiction
              · try first | contradiction | omega | (simp only [decide_eq_true_eq, decide_eq_false_iff_not] at h120; omega)
                all_goals
                  refine e_aload_n dX5_takeOne_123 rfl rfl ?_
                  refine e_iconst (v := nI 3) dX5_takeOne_124 rfl ?_
                  refine ky_V1 (M' := mX4_breakBy) dX5_takeOne_125 ml_X5_110 ok_X4_breakBy (by decide) rfl im_X4_breakBy se_X4_breakBy (ct_X4_breakBy cm bd hK (by omega)) (Nat.le_of_ble_eq_true rfl) (by decide) (Nat.le_of_ble_eq_true rfl) (fun fi ai hG hK => ?_)
                  have hF := FR1_tr hF hG
                  have bd := Bd_up (Bd_up bd (q := (7694 + 72 * m + 7)) (v := 1) (by omega)) (q := (7694 + 72 * m + 8)) (v := 3) (by omega)
                  refine e_aload_n dX5_takeOne_128 rfl rfl ?_
                  refine e_getR dX5_takeOne_129 fl_X5_15 rfl (cv_l cm) ?_
                  refine e_bipush (v := nI 12) dX5_takeOne_132 rfl ?_
                  refine e_iconst (v := nI 1) dX5_takeOne_134 rfl ?_
                  refine ky_V2 (M' := mX3_add) dX5_takeOne_135 ml_X5_66 ok_X3_add (by decide) rfl im_X3_add se_X3_add (ct_X3_add cm bd hK (by omega)) (Nat.le_of_ble_eq_true rfl) (by decide) (Nat.le_of_ble_eq_true rfl) (fun fi ai hG hK => ?_)
                  have hF := FR1_tr hF hG
                  refine e_goto (tgt := 157) dX5_takeOne_138 (by decide) ?_
                  refine e_ret none rfl (r_void dX5_takeOne_157 rfl) ?_
                  refine kq rfl hF (K_eq hK ?_)
                  rw [fa_gov ivS hmS, ← eF, S2]
          refine e_tableOut (tgt := 119) dX5_takeOne_56 (by omega) (by decide) ?_
          refine e_iload_n dX5_takeOne_119 rfl rfl ?_
          first | ((with_reducible refine mk_b ?_); refine b_if_eq (tgt := 141) dX5_takeOne_120 (by decide) (fun h120 => ?_) (fun h120 => ?_)) | ((with_reducible refine mk_ll ?_); refine m_if_eq (tgt := 141) dX5_takeOne_120 (by decide) (by omega) (by omega) (fun h120 => ?_) (fun h120 => ?_)) | ((with_reducible refine mk_lc ?_); refine l_if_eq (tgt := 141) dX5_takeOne_120 (by decide) (fun h120 => ?_) (fun h120 => ?_)) | ((with_reducible refine mk_n ?_); refine n_if_eq (tgt := 141) dX5_takeOne_120 (by decide) (by omega) (fun h120 => ?_) (fun h120 => ?_)) | refine e_if_eq (tgt := 141) dX5_takeOne_120 (by decide) (fun h120 => ?_) (fun h120 => ?_)
          · try first | contradiction | omega | (simp only [decide_eq_true_eq, decide_eq_false_iff_not] at h120; omega)
            all_goals
              contradiction
          · try first | contradiction | omega | (simp only [decide_eq_true_eq, decide_eq_false_iff_not] at h120; omega)
            all_goals
              refine e_aload_n dX5_takeOne_123 rfl rfl ?_
              refine e_iconst (v := nI 3) dX5_takeOne_124 rfl ?_
              refine ky_V1 (M' := mX4_breakBy) dX5_takeOne_125 ml_X5_110 ok_X4_breakBy (by decide) rfl im_X4_breakBy se_X4_breakBy (ct_X4_breakBy cm bd hK (by omega)) (Nat.le_of_ble_eq_true rfl) (by decide) (Nat.le_of_ble_eq_true rfl) (fun fi ai hG hK => ?_)
              have hF := FR1_tr hF hG
              have bd := Bd_up (Bd_up bd (q := (7694 + 72 * m + 7)) (v := 1) (by omega)) (q := (7694 + 72 * m + 8)) (v := 3) (by omega)
              refine e_aload_n dX5_takeOne_128 rfl rfl ?_
              refine e_getR dX5_takeOne_129 fl_X5_15 rfl (cv_l cm) ?_
              refine e_bipush (v := nI 12) dX5_takeOne_132 rfl ?_
              refine e_iconst (v := nI 1) dX5_takeOne_134 rfl ?_
              refine ky_V2 (M' := mX3_add) dX5_takeOne_135 ml_X5_66 ok_X3_add (by decide) rfl im_X3_add se_X3_add (ct_X3_add cm bd hK (by omega)) (Nat.le_of_ble_eq_true rfl) (by decide) (Nat.le_of_ble_eq_true rfl) (fun fi ai hG hK => ?_)
              have hF := FR1_tr hF hG
              refine e_goto (tgt := 157) dX5_takeOne_138 (by decide) ?_
              refine e_ret none rfl (r_void dX5_takeOne_157 rfl) ?_
              refine kq rfl hF (K_eq hK ?_)
              rw [fa_gov ivS hmS, ← eF, S2]
    · have eF : upN (catW (fa2 (so3 w m) m) m (so3 w m 2 / 2)) (7694 + 72 * m + 7) 1 = sonW w m := by
        rw [e1]; unfold faiW
        rw [St, if_pos hs]
      have G3 : catW (so3 w m) m (w 2 / 2) 3 = w 3 := (cat_fr ivS hmS (by omega) (by omega) (by omega) (by omega)).trans S3
      refine e_aload_n dX5_takeOne_0 rfl rfl ?_
      refine e_dup dX5_takeOne_1 rfl ?_
      refine e_getE dX5_takeOne_2 fl_X5_90 rfl (k_m10 hK (by first | omega | (simp (disch := omega) only [upN_n, upN_s]; omega))) ?_
      refine e_iconst (v := nI 1) dX5_takeOne_5 rfl ?_
      first | ((with_reducible refine mk_nn ?_); refine n_iadd dX5_takeOne_6 ?_) | refine e_iadd dX5_takeOne_6 ?_
      refine e_pm (f := 10) (dd := 9) dX5_takeOne_7 fl_X5_90 (by decide) rfl rfl rfl rfl rfl bd hK (by first | omega | (simp (disch := omega) only [upN_n, upN_s]; omega)) hF (fun fi hF hK => ?_)
      have bd := Bd_K bd hK (by omega)
      refine e_aload_n dX5_takeOne_10 rfl rfl ?_
      refine e_getR dX5_takeOne_11 fl_X5_15 rfl (cv_l cm) ?_
      refine e_bipush (v := nI 11) dX5_takeOne_14 rfl ?_
      refine e_iconst (v := nI 1) dX5_takeOne_16 rfl ?_
      refine ky_V2 (M' := mX3_add) dX5_takeOne_17 ml_X5_66 ok_X3_add (by decide) rfl im_X3_add se_X3_add (ct_X3_add cm bd hK (by omega)) (Nat.le_of_ble_eq_true rfl) (by decide) (Nat.le_of_ble_eq_true rfl) (fun fi ai hG hK => ?_)
      have hF := FR1_tr hF hG
      rw [eX] at hK
      have bd := bd2
      refine e_aload_n dX5_takeOne_20 rfl rfl ?_
      refine kx_V0 (M' := mX4_countDown) dX5_takeOne_21 ml_X5_93 ok_X4_countDown (by decide) rfl im_X4_countDown se_X4_countDown (ct_X4_countDown cm bd hK (by omega) (by omega)) (Nat.le_of_ble_eq_true rfl) (by decide) (Nat.le_of_ble_eq_true rfl) (fun fi ai hG hK => ?_)
      have hF := FR1_tr hF hG
      rw [s10] at hK
      rw [s10, hdt]
      change K _ _ (so3 w m) _ _ at hK
      have bd := bdS
      refine e_istore_n dX5_takeOne_24 rfl (Nat.le_of_ble_eq_true rfl) rfl ?_
      refine e_iload_n dX5_takeOne_25 rfl rfl ?_
      first | ((with_reducible refine mk_b ?_); refine b_if_eq (tgt := 41) dX5_takeOne_26 (by decide) (fun h26 => ?_) (fun h26 => ?_)) | ((with_reducible refine mk_ll ?_); refine m_if_eq (tgt := 41) dX5_takeOne_26 (by decide) (by omega) (by omega) (fun h26 => ?_) (fun h26 => ?_)) | ((with_reducible refine mk_lc ?_); refine l_if_eq (tgt := 41) dX5_takeOne_26 (by decide) (fun h26 => ?_) (fun h26 => ?_)) | ((with_reducible refine mk_n ?_); refine n_if_eq (tgt := 41) dX5_takeOne_26 (by decide) (by omega) (fun h26 => ?_) (fun h26 => ?_)) | refine e_if_eq (tgt := 41) dX5_takeOne_26 (by decide) (fun h26 => ?_) (fun h26 => ?_)
      · try first | contradiction | omega | (simp only [decide_eq_true_eq, decide_eq_false_iff_not] at h26; omega)
        all_goals
          contradiction
      · try first | contradiction | omega | (simp only [decide_eq_true_eq, decide_eq_false_iff_not] at h26; omega)
        all_goals
          refine e_aload_n dX5_takeOne_29 rfl rfl ?_
          refine e_getR dX5_takeOne_30 fl_X5_9 rfl (cv_w cm) ?_
          refine e_getE dX5_takeOne_33 fl_X5_96 rfl ((k_ch hK).trans (by rw [S2])) ?_
          refine e_iconst (v := nI 2) dX5_takeOne_36 rfl ?_
          first | ((with_reducible refine mk_nn ?_); refine n_idiv dX5_takeOne_37 (by omega) (by omega) (by omega) ?_) | refine e_idiv dX5_takeOne_37 (by decide) ?_
          refine e_goto (tgt := 48) dX5_takeOne_38 (by decide) ?_
          refine e_istore_n dX5_takeOne_48 rfl (Nat.le_of_ble_eq_true rfl) rfl ?_
          refine e_iconst (v := nI 0) dX5_takeOne_49 rfl ?_
          refine e_istore dX5_takeOne_50 (Nat.le_of_ble_eq_true rfl) rfl ?_
          refine e_aload_n dX5_takeOne_52 rfl rfl ?_
          refine e_getE dX5_takeOne_53 fl_X5_87 rfl ((k_m2 hK hmS).trans (by rw [St])) ?_
          refine e_swc (tgt := 88) 1 dX5_takeOne_56 (by decide) (by decide) rfl (by decide) (fun h56_0 => ?_) (fun h56_0 => ?_)
          · try first | contradiction | omega
            all_goals
              refine e_aload_n dX5_takeOne_88 rfl rfl ?_
              refine e_aload_n dX5_takeOne_89 rfl rfl ?_
              refine e_iload_n dX5_takeOne_90 rfl rfl ?_
              refine kx_V2 (M' := mX5_copySome) dX5_takeOne_91 ml_X5_99 ok_X5_copySome (by decide) rfl im_X5_copySome se_X5_copySome (ct_X5_copySome cm ivS hK hmS (by omega)) (Nat.le_of_ble_eq_true rfl) (by decide) (Nat.le_of_ble_eq_true rfl) (fun fi ai hG hK => ?_)
              have hF := FR1_tr hF hG
              have bd := Bd_gov ivS (ch := w 2 / 2) (cl := false) hmS
              refine e_istore dX5_takeOne_94 (Nat.le_of_ble_eq_true rfl) rfl ?_
              refine e_goto (tgt := 119) dX5_takeOne_96 (by decide) ?_
              refine e_iload_n dX5_takeOne_119 rfl rfl ?_
              first | ((with_reducible refine mk_b ?_); refine b_if_eq (tgt := 141) dX5_takeOne_120 (by decide) (fun h120 => ?_) (fun h120 => ?_)) | ((with_reducible refine mk_ll ?_); refine m_if_eq (tgt := 141) dX5_takeOne_120 (by decide) (by omega) (by omega) (fun h120 => ?_) (fun h120 => ?_)) | ((with_reducible refine mk_lc ?_); refine l_if_eq (tgt := 141) dX5_takeOne_120 (by decide) (fun h120 => ?_) (fun h120 => ?_)) | ((with_reducible refine mk_n ?_); refine n_if_eq (tgt := 141) dX5_takeOne_120 (by decide) (by omega) (fun h120 => ?_) (fun h120 => ?_)) | refine e_if_eq (tgt := 141) dX5_takeOne_120 (by decide) (fun h120 => ?_) (fun h120 => ?_)
              · try first | contradiction | omega | (simp only [decide_eq_true_eq, decide_eq_false_iff_not] at h120; omega)
                all_goals
                  contradiction
              · try first | contradiction | omega | (simp only [decide_eq_true_eq, decide_eq_false_iff_not] at h120; omega)
                all_goals
                  refine e_aload_n dX5_takeOne_123 rfl rfl ?_
                  refine e_iconst (v := nI 3) dX5_takeOne_124 rfl ?_
                  refine ky_V1 (M' := mX4_breakBy) dX5_takeOne_125 ml_X5_110 ok_X4_breakBy (by decide) rfl im_X4_breakBy se_X4_breakBy (ct_X4_breakBy cm bd hK (by omega)) (Nat.le_of_ble_eq_true rfl) (by decide) (Nat.le_of_ble_eq_true rfl) (fun fi ai hG hK => ?_)
                  have hF := FR1_tr hF hG
                  have bd := Bd_up (Bd_up bd (q := (7694 + 72 * m + 7)) (v := 1) (by omega)) (q := (7694 + 72 * m + 8)) (v := 3) (by omega)
                  refine e_aload_n dX5_takeOne_128 rfl rfl ?_
                  refine e_getR dX5_takeOne_129 fl_X5_15 rfl (cv_l cm) ?_
                  refine e_bipush (v := nI 12) dX5_takeOne_132 rfl ?_
                  refine e_iconst (v := nI 1) dX5_takeOne_134 rfl ?_
                  refine ky_V2 (M' := mX3_add) dX5_takeOne_135 ml_X5_66 ok_X3_add (by decide) rfl im_X3_add se_X3_add (ct_X3_add cm bd hK (by omega)) (Nat.le_of_ble_eq_true rfl) (by decide) (Nat.le_of_ble_eq_true rfl) (fun fi ai hG hK => ?_)
                  have hF := FR1_tr hF hG
                  refine e_goto (tgt := 157) dX5_takeOne_138 (by decide) ?_
                  refine e_ret none rfl (r_void dX5_takeOne_157 rfl) ?_
                  refine kq rfl hF (K_eq hK ?_)
                  rw [fa_cat ivS hmS, ← eF, S2]
          refine e_swc (tgt := 99) 2 dX5_takeOne_56 (by decide) (by decide) rfl (by decide) (fun h56_1 => ?_) (fun h56_1 => ?_)
          · try first | contradiction | omega
            all_goals
              refine e_aload_n dX5_takeOne_99 rfl rfl ?_
              refine e_aload_n dX5_takeOne_100 rfl rfl ?_
              refine e_iload_n dX5_takeOne_101 rfl rfl ?_
              refine ky_V2 (M' := mX5_catchUpSome) dX5_takeOne_102 ml_X5_103 ok_X5_catchUpSome (by decide) rfl im_X5_catchUpSome se_X5_catchUpSome (ct_X5_catchUpSome cm ivS hK hmS (by omega)) (Nat.le_of_ble_eq_true rfl) (by decide) (Nat.le_of_ble_eq_true rfl) (fun fi ai hG hK => ?_)
              have hF := FR1_tr hF hG
              have bd := Bd_cat ivS (ch := w 2 / 2) hmS
              refine e_goto (tgt := 119) dX5_takeOne_105 (by decide) ?_
              refine e_iload_n dX5_takeOne_119 rfl rfl ?_
              first | ((with_reducible refine mk_b ?_); refine b_if_eq (tgt := 141) dX5_takeOne_120 (by decide) (fun h120 => ?_) (fun h120 => ?_)) | ((with_reducible refine mk_ll ?_); refine m_if_eq (tgt := 141) dX5_takeOne_120 (by decide) (by omega) (by omega) (fun h120 => ?_) (fun h120 => ?_)) | ((with_reducible refine mk_lc ?_); refine l_if_eq (tgt := 141) dX5_takeOne_120 (by decide) (fun h120 => ?_) (fun h120 => ?_)) | ((with_reducible refine mk_n ?_); refine n_if_eq (tgt := 141) dX5_takeOne_120 (by decide) (by omega) (fun h120 => ?_) (fun h120 => ?_)) | refine e_if_eq (tgt := 141) dX5_takeOne_120 (by decide) (fun h120 => ?_) (fun h120 => ?_)
              · try first | contradiction | omega | (simp only [decide_eq_true_eq, decide_eq_false_iff_not] at h120; omega)
                all_goals
                  contradiction
              · try first | contradiction | omega | (simp only [decide_eq_true_eq, decide_eq_false_iff_not] at h120; omega)
                all_goals
                  refine e_aload_n dX5_takeOne_123 rfl rfl ?_
                  refine e_iconst (v := nI 3) dX5_takeOne_124 rfl ?_
                  refine ky_V1 (M' := mX4_breakBy) dX5_takeOne_125 ml_X5_110 ok_X4_breakBy (by decide) rfl im_X4_breakBy se_X4_breakBy (ct_X4_breakBy cm bd hK (by omega)) (Nat.le_of_ble_eq_true rfl) (by decide) (Nat.le_of_ble_eq_true rfl) (fun fi ai hG hK => ?_)
                  have hF := FR1_tr hF hG
                  have bd := Bd_up (Bd_up bd (q := (7694 + 72 * m + 7)) (v := 1) (by omega)) (q := (7694 + 72 * m + 8)) (v := 3) (by omega)
                  refine e_aload_n dX5_takeOne_128 rfl rfl ?_
                  refine e_getR dX5_takeOne_129 fl_X5_15 rfl (cv_l cm) ?_
                  refine e_bipush (v := nI 12) dX5_takeOne_132 rfl ?_
                  refine e_iconst (v := nI 1) dX5_takeOne_134 rfl ?_
                  refine ky_V2 (M' := mX3_add) dX5_takeOne_135 ml_X5_66 ok_X3_add (by decide) rfl im_X3_add se_X3_add (ct_X3_add cm bd hK (by omega)) (Nat.le_of_ble_eq_true rfl) (by decide) (Nat.le_of_ble_eq_true rfl) (fun fi ai hG hK => ?_)
                  have hF := FR1_tr hF hG
                  refine e_goto (tgt := 157) dX5_takeOne_138 (by decide) ?_
                  refine e_ret none rfl (r_void dX5_takeOne_157 rfl) ?_
                  refine kq rfl hF (K_eq hK ?_)
                  rw [fa_cat ivS hmS, ← eF, S2]
          refine e_swc (tgt := 119) 3 dX5_takeOne_56 (by decide) (by decide) rfl (by decide) (fun h56_2 => ?_) (fun h56_2 => ?_)
          · try first | contradiction | omega
            all_goals
              refine e_iload_n dX5_takeOne_119 rfl rfl ?_
              first | ((with_reducible refine mk_b ?_); refine b_if_eq (tgt := 141) dX5_takeOne_120 (by decide) (fun h120 => ?_) (fun h120 => ?_)) | ((with_reducible refine mk_ll ?_); refine m_if_eq (tgt := 141) dX5_takeOne_120 (by decide) (by omega) (by omega) (fun h120 => ?_) (fun h120 => ?_)) | ((with_reducible refine mk_lc ?_); refine l_if_eq (tgt := 141) dX5_takeOne_120 (by decide) (fun h120 => ?_) (fun h120 => ?_)) | ((with_reducible refine mk_n ?_); refine n_if_eq (tgt := 141) dX5_takeOne_120 (by decide) (by omega) (fun h120 => ?_) (fun h120 => ?_)) | refine e_if_eq (tgt := 141) dX5_takeOne_120 (by decide) (fun h120 => ?_) (fun h120 => ?_)
              · try first | contradiction | omega | (simp only [decide_eq_true_eq, decide_eq_false_iff_not] at h120; omega)
                all_goals
                  contradiction
              · try first | contradiction | omega | (simp only [decide_eq_true_eq, decide_eq_false_iff_not] at h120; omega)
                all_goals
                  refine e_aload_n dX5_takeOne_123 rfl rfl ?_
                  refine e_iconst (v := nI 3) dX5_takeOne_124 rfl ?_
                  refine ky_V1 (M' := mX4_breakBy) dX5_takeOne_125 ml_X5_110 ok_X4_breakBy (by decide) rfl im_X4_breakBy se_X4_breakBy (ct_X4_breakBy cm bd hK (by omega)) (Nat.le_of_ble_eq_true rfl) (by decide) (Nat.le_of_ble_eq_true rfl) (fun fi ai hG hK => ?_)
                  have hF := FR1_tr hF hG
                  have bd := Bd_up (Bd_up bd (q := (7694 + 72 * m + 7)) (v := 1) (by omega)) (q := (7694 + 72 * m + 8)) (v := 3) (by omega)
                  refine e_aload_n dX5_takeOne_128 rfl rfl ?_
                  refine e_getR dX5_takeOne_129 fl_X5_15 rfl (cv_l cm) ?_
                  refine e_bipush (v := nI 12) dX5_takeOne_132 rfl ?_
                  refine e_iconst (v := nI 1) dX5_takeOne_134 rfl ?_
                  refine ky_V2 (M' := mX3_add) dX5_takeOne_135 ml_X5_66 ok_X3_add (by decide) rfl im_X3_add se_X3_add (ct_X3_add cm bd hK (by omega)) (Nat.le_of_ble_eq_true rfl) (by decide) (Nat.le_of_ble_eq_true rfl) (fun fi ai hG hK => ?_)
                  have hF := FR1_tr hF hG
                  refine e_goto (tgt := 157) dX5_takeOne_138 (by decide) ?_
                  refine e_ret none rfl (r_void dX5_takeOne_157 rfl) ?_
                  refine kq rfl hF (K_eq hK ?_)
                  rw [fa_cat ivS hmS, ← eF, S2]
          refine e_swc (tgt := 108) 4 dX5_takeOne_56 (by decide) (by decide) rfl (by decide) (fun h56_3 => ?_) (fun h56_3 => ?_)
          · try first | contradiction | omega
            all_goals
              refine e_aload_n dX5_takeOne_108 rfl rfl ?_
              refine e_aload_n dX5_takeOne_109 rfl rfl ?_
              refine e_iload_n dX5_takeOne_110 rfl rfl ?_
              refine kx_V2 (M' := mX5_cleanSome) dX5_takeOne_111 ml_X5_107 ok_X5_cleanSome (by decide) rfl im_X5_cleanSome se_X5_cleanSome (ct_X5_cleanSome cm iv hK (by omega) (by omega)) (Nat.le_of_ble_eq_true rfl) (by decide) (Nat.le_of_ble_eq_true rfl) (fun fi ai hG hK => ?_)
              have hF := FR1_tr hF hG
              refine e_istore dX5_takeOne_114 (Nat.le_of_ble_eq_true rfl) rfl ?_
              refine e_goto (tgt := 119) dX5_takeOne_116 (by decide) ?_
              refine e_iload_n dX5_takeOne_119 rfl rfl ?_
              first | ((with_reducible refine mk_b ?_); refine b_if_eq (tgt := 141) dX5_takeOne_120 (by decide) (fun h120 => ?_) (fun h120 => ?_)) | ((with_reducible refine mk_ll ?_); refine m_if_eq (tgt := 141) dX5_takeOne_120 (by decide) (by omega) (by omega) (fun h120 => ?_) (fun h120 => ?_)) | ((with_reducible refine mk_lc ?_); refine l_if_eq (tgt := 141) dX5_takeOne_120 (by decide) (fun h120 => ?_) (fun h120 => ?_)) | ((with_reducible refine mk_n ?_); refine n_if_eq (tgt := 141) dX5_takeOne_120 (by decide) (by omega) (fun h120 => ?_) (fun h120 => ?_)) | refine e_if_eq (tgt := 141) dX5_takeOne_120 (by decide) (fun h120 => ?_) (fun h120 => ?_)
              · try first | contradiction | omega | (simp only [decide_eq_true_eq, decide_eq_false_iff_not] at h120; omega)
                all_goals
                  contradiction
              · try first | contradiction | omega | (simp only [decide_eq_true_eq, decide_eq_false_iff_not] at h120; omega)
                all_goals
                  refine e_aload_n dX5_takeOne_123 rfl rfl ?_
                  refine e_iconst (v := nI 3) dX5_takeOne_124 rfl ?_
                  refine ky_V1 (M' := mX4_breakBy) dX5_takeOne_125 ml_X5_110 ok_X4_breakBy (by decide) rfl im_X4_breakBy se_X4_breakBy (ct_X4_breakBy cm bd hK (by omega)) (Nat.le_of_ble_eq_true rfl) (by decide) (Nat.le_of_ble_eq_true rfl) (fun fi ai hG hK => ?_)
                  have hF := FR1_tr hF hG
                  have bd := Bd_up (Bd_up bd (q := (7694 + 72 * m + 7)) (v := 1) (by omega)) (q := (7694 + 72 * m + 8)) (v := 3) (by omega)
                  refine e_aload_n dX5_takeOne_128 rfl rfl ?_
                  refine e_getR dX5_takeOne_129 fl_X5_15 rfl (cv_l cm) ?_
                  refine e_bipush (v := nI 12) dX5_takeOne_132 rfl ?_
                  refine e_iconst (v := nI 1) dX5_takeOne_134 rfl ?_
                  refine ky_V2 (M' := mX3_add) dX5_takeOne_135 ml_X5_66 ok_X3_add (by decide) rfl im_X3_add se_X3_add (ct_X3_add cm bd hK (by omega)) (Nat.le_of_ble_eq_true rfl) (by decide) (Nat.le_of_ble_eq_true rfl) (fun fi ai hG hK => ?_)
                  have hF := FR1_tr hF hG
                  refine e_goto (tgt := 157) dX5_takeOne_138 (by decide) ?_
                  refine e_ret none rfl (r_void dX5_takeOne_157 rfl) ?_
                  refine kq rfl hF (K_eq hK ?_)
                  rw [fa_cat ivS hmS, ← eF, S2]
          refine e_tableOut (tgt := 119) dX5_takeOne_56 (by omega) (by decide) ?_
          refine e_iload_n dX5_takeOne_119 rfl rfl ?_
          first | ((with_reducible refine mk_b ?_); refine b_if_eq (tgt := 141) dX5_takeOne_120 (by decide) (fun h120 => ?_) (fun h120 => ?_)) | ((with_reducible refine mk_ll ?_); refine m_if_eq (tgt := 141) dX5_takeOne_120 (by decide) (by omega) (by omega) (fun h120 => ?_) (fun h120 => ?_)) | ((with_reducible refine mk_lc ?_); refine l_if_eq (tgt := 141) dX5_takeOne_120 (by decide) (fun h120 => ?_) (fun h120 => ?_)) | ((with_reducible refine mk_n ?_); refine n_if_eq (tgt := 141) dX5_takeOne_120 (by decide) (by omega) (fun h120 => ?_) (fun h120 => ?_)) | refine e_if_eq (tgt := 141) dX5_takeOne_120 (by decide) (fun h120 => ?_) (fun h120 => ?_)
          · try first | contradiction | omega | (simp only [decide_eq_true_eq, decide_eq_false_iff_not] at h120; omega)
            all_goals
              contradiction
          · try first | contradiction | omega | (simp only [decide_eq_true_eq, decide_eq_false_iff_not] at h120; omega)
            all_goals
              refine e_aload_n dX5_takeOne_123 rfl rfl ?_
              refine e_iconst (v := nI 3) dX5_takeOne_124 rfl ?_
              refine ky_V1 (M' := mX4_breakBy) dX5_takeOne_125 ml_X5_110 ok_X4_breakBy (by decide) rfl im_X4_breakBy se_X4_breakBy (ct_X4_breakBy cm bd hK (by omega)) (Nat.le_of_ble_eq_true rfl) (by decide) (Nat.le_of_ble_eq_true rfl) (fun fi ai hG hK => ?_)
              have hF := FR1_tr hF hG
              have bd := Bd_up (Bd_up bd (q := (7694 + 72 * m + 7)) (v := 1) (by omega)) (q := (7694 + 72 * m + 8)) (v := 3) (by omega)
              refine e_aload_n dX5_takeOne_128 rfl rfl ?_
              refine e_getR dX5_takeOne_129 fl_X5_15 rfl (cv_l cm) ?_
              refine e_bipush (v := nI 12) dX5_takeOne_132 rfl ?_
              refine e_iconst (v := nI 1) dX5_takeOne_134 rfl ?_
              refine ky_V2 (M' := mX3_add) dX5_takeOne_135 ml_X5_66 ok_X3_add (by decide) rfl im_X3_add se_X3_add (ct_X3_add cm bd hK (by omega)) (Nat.le_of_ble_eq_true rfl) (by decide) (Nat.le_of_ble_eq_true rfl) (fun fi ai hG hK => ?_)
              have hF := FR1_tr hF hG
              refine e_goto (tgt := 157) dX5_takeOne_138 (by decide) ?_
              refine e_ret none rfl (r_void dX5_takeOne_157 rfl) ?_
              refine kq rfl hF (K_eq hK ?_)
              rw [fa_cat ivS hmS, ← eF, S2]
    · have eF : upN (fa2 (so3 w m) m) (7694 + 72 * m + 7) 1 = sonW w m := by
        rw [e1]; unfold faiW
        rw [St, if_neg (by omega), if_neg (by omega), if_neg (by omega)]
      refine e_aload_n dX5_takeOne_0 rfl rfl ?_
      refine e_dup dX5_takeOne_1 rfl ?_
      refine e_getE dX5_takeOne_2 fl_X5_90 rfl (k_m10 hK (by first | omega | (simp (disch := omega) only [upN_n, upN_s]; omega))) ?_
      refine e_iconst (v := nI 1) dX5_takeOne_5 rfl ?_
      first | ((with_reducible refine mk_nn ?_); refine n_iadd dX5_takeOne_6 ?_) | refine e_iadd dX5_takeOne_6 ?_
      refine e_pm (f := 10) (dd := 9) dX5_takeOne_7 fl_X5_90 (by decide) rfl rfl rfl rfl rfl bd hK (by first | omega | (simp (disch := omega) only [upN_n, upN_s]; omega)) hF (fun fi hF hK => ?_)
      have bd := Bd_K bd hK (by omega)
      refine e_aload_n dX5_takeOne_10 rfl rfl ?_
      refine e_getR dX5_takeOne_11 fl_X5_15 rfl (cv_l cm) ?_
      refine e_bipush (v := nI 11) dX5_takeOne_14 rfl ?_
      refine e_iconst (v := nI 1) dX5_takeOne_16 rfl ?_
      refine ky_V2 (M' := mX3_add) dX5_takeOne_17 ml_X5_66 ok_X3_add (by decide) rfl im_X3_add se_X3_add (ct_X3_add cm bd hK (by omega)) (Nat.le_of_ble_eq_true rfl) (by decide) (Nat.le_of_ble_eq_true rfl) (fun fi ai hG hK => ?_)
      have hF := FR1_tr hF hG
      rw [eX] at hK
      have bd := bd2
      refine e_aload_n dX5_takeOne_20 rfl rfl ?_
      refine kx_V0 (M' := mX4_countDown) dX5_takeOne_21 ml_X5_93 ok_X4_countDown (by decide) rfl im_X4_countDown se_X4_countDown (ct_X4_countDown cm bd hK (by omega) (by omega)) (Nat.le_of_ble_eq_true rfl) (by decide) (Nat.le_of_ble_eq_true rfl) (fun fi ai hG hK => ?_)
      have hF := FR1_tr hF hG
      rw [s10] at hK
      rw [s10, hdt]
      change K _ _ (so3 w m) _ _ at hK
      have bd := bdS
      refine e_istore_n dX5_takeOne_24 rfl (Nat.le_of_ble_eq_true rfl) rfl ?_
      refine e_iload_n dX5_takeOne_25 rfl rfl ?_
      first | ((with_reducible refine mk_b ?_); refine b_if_eq (tgt := 41) dX5_takeOne_26 (by decide) (fun h26 => ?_) (fun h26 => ?_)) | ((with_reducible refine mk_ll ?_); refine m_if_eq (tgt := 41) dX5_takeOne_26 (by decide) (by omega) (by omega) (fun h26 => ?_) (fun h26 => ?_)) | ((with_reducible refine mk_lc ?_); refine l_if_eq (tgt := 41) dX5_takeOne_26 (by decide) (fun h26 => ?_) (fun h26 => ?_)) | ((with_reducible refine mk_n ?_); refine n_if_eq (tgt := 41) dX5_takeOne_26 (by decide) (by omega) (fun h26 => ?_) (fun h26 => ?_)) | refine e_if_eq (tgt := 41) dX5_takeOne_26 (by decide) (fun h26 => ?_) (fun h26 => ?_)
      · try first | contradiction | omega | (simp only [decide_eq_true_eq, decide_eq_false_iff_not] at h26; omega)
        all_goals
          contradiction
      · try first | contradiction | omega | (simp only [decide_eq_true_eq, decide_eq_false_iff_not] at h26; omega)
        all_goals
          refine e_aload_n dX5_takeOne_29 rfl rfl ?_
          refine e_getR dX5_takeOne_30 fl_X5_9 rfl (cv_w cm) ?_
          refine e_getE dX5_takeOne_33 fl_X5_96 rfl ((k_ch hK).trans (by rw [S2])) ?_
          refine e_iconst (v := nI 2) dX5_takeOne_36 rfl ?_
          first | ((with_reducible refine mk_nn ?_); refine n_idiv dX5_takeOne_37 (by omega) (by omega) (by omega) ?_) | refine e_idiv dX5_takeOne_37 (by decide) ?_
          refine e_goto (tgt := 48) dX5_takeOne_38 (by decide) ?_
          refine e_istore_n dX5_takeOne_48 rfl (Nat.le_of_ble_eq_true rfl) rfl ?_
          refine e_iconst (v := nI 0) dX5_takeOne_49 rfl ?_
          refine e_istore dX5_takeOne_50 (Nat.le_of_ble_eq_true rfl) rfl ?_
          refine e_aload_n dX5_takeOne_52 rfl rfl ?_
          refine e_getE dX5_takeOne_53 fl_X5_87 rfl ((k_m2 hK hmS).trans (by rw [St])) ?_
          refine e_swc (tgt := 88) 1 dX5_takeOne_56 (by decide) (by decide) rfl (by decide) (fun h56_0 => ?_) (fun h56_0 => ?_)
          · try first | contradiction | omega
            all_goals
              refine e_aload_n dX5_takeOne_88 rfl rfl ?_
              refine e_aload_n dX5_takeOne_89 rfl rfl ?_
              refine e_iload_n dX5_takeOne_90 rfl rfl ?_
              refine kx_V2 (M' := mX5_copySome) dX5_takeOne_91 ml_X5_99 ok_X5_copySome (by decide) rfl im_X5_copySome se_X5_copySome (ct_X5_copySome cm ivS hK hmS (by omega)) (Nat.le_of_ble_eq_true rfl) (by decide) (Nat.le_of_ble_eq_true rfl) (fun fi ai hG hK => ?_)
              have hF := FR1_tr hF hG
              have bd := Bd_gov ivS (ch := w 2 / 2) (cl := false) hmS
              refine e_istore dX5_takeOne_94 (Nat.le_of_ble_eq_true rfl) rfl ?_
              refine e_goto (tgt := 119) dX5_takeOne_96 (by decide) ?_
              refine e_iload_n dX5_takeOne_119 rfl rfl ?_
              first | ((with_reducible refine mk_b ?_); refine b_if_eq (tgt := 141) dX5_takeOne_120 (by decide) (fun h120 => ?_) (fun h120 => ?_)) | ((with_reducible refine mk_ll ?_); refine m_if_eq (tgt := 141) dX5_takeOne_120 (by decide) (by omega) (by omega) (fun h120 => ?_) (fun h120 => ?_)) | ((with_reducible refine mk_lc ?_); refine l_if_eq (tgt := 141) dX5_takeOne_120 (by decide) (fun h120 => ?_) (fun h120 => ?_)) | ((with_reducible refine mk_n ?_); refine n_if_eq (tgt := 141) dX5_takeOne_120 (by decide) (by omega) (fun h120 => ?_) (fun h120 => ?_)) | refine e_if_eq (tgt := 141) dX5_takeOne_120 (by decide) (fun h120 => ?_) (fun h120 => ?_)
              · try first | contradiction | omega | (simp only [decide_eq_true_eq, decide_eq_false_iff_not] at h120; omega)
                all_goals
                  contradiction
              · try first | contradiction | omega | (simp only [decide_eq_true_eq, decide_eq_false_iff_not] at h120; omega)
                all_goals
                  refine e_aload_n dX5_takeOne_123 rfl rfl ?_
                  refine e_iconst (v := nI 3) dX5_takeOne_124 rfl ?_
                  refine ky_V1 (M' := mX4_breakBy) dX5_takeOne_125 ml_X5_110 ok_X4_breakBy (by decide) rfl im_X4_breakBy se_X4_breakBy (ct_X4_breakBy cm bd hK (by omega)) (Nat.le_of_ble_eq_true rfl) (by decide) (Nat.le_of_ble_eq_true rfl) (fun fi ai hG hK => ?_)
                  have hF := FR1_tr hF hG
                  have bd := Bd_up (Bd_up bd (q := (7694 + 72 * m + 7)) (v := 1) (by omega)) (q := (7694 + 72 * m + 8)) (v := 3) (by omega)
                  refine e_aload_n dX5_takeOne_128 rfl rfl ?_
                  refine e_getR dX5_takeOne_129 fl_X5_15 rfl (cv_l cm) ?_
                  refine e_bipush (v := nI 12) dX5_takeOne_132 rfl ?_
                  refine e_iconst (v := nI 1) dX5_takeOne_134 rfl ?_
                  refine ky_V2 (M' := mX3_add) dX5_takeOne_135 ml_X5_66 ok_X3_add (by decide) rfl im_X3_add se_X3_add (ct_X3_add cm bd hK (by omega)) (Nat.le_of_ble_eq_true rfl) (by decide) (Nat.le_of_ble_eq_true rfl) (fun fi ai hG hK => ?_)
                  have hF := FR1_tr hF hG
                  refine e_goto (tgt := 157) dX5_takeOne_138 (by decide) ?_
                  refine e_ret none rfl (r_void dX5_takeOne_157 rfl) ?_
                  refine kq rfl hF (K_eq hK ?_)
                  rw [← eF]
                  unfold fa2
                  rw [upN_n (q := 8558 + 12) (by omega), upN_n (q := 8558 + 12) (by omega), upN_cm (a := (7694 + 72 * m + 7)) (b := (7694 + 72 * m + 8)) (by omega), upN_cm (a := (7694 + 72 * m + 7)) (b := 8558 + 12) (by omega)]
          refine e_swc (tgt := 99) 2 dX5_takeOne_56 (by decide) (by decide) rfl (by decide) (fun h56_1 => ?_) (fun h56_1 => ?_)
          · try first | contradiction | omega
            all_goals
              refine e_aload_n dX5_takeOne_99 rfl rfl ?_
              refine e_aload_n dX5_takeOne_100 rfl rfl ?_
              refine e_iload_n dX5_takeOne_101 rfl rfl ?_
              refine ky_V2 (M' := mX5_catchUpSome) dX5_takeOne_102 ml_X5_103 ok_X5_catchUpSome (by decide) rfl im_X5_catchUpSome se_X5_catchUpSome (ct_X5_catchUpSome cm ivS hK hmS (by omega)) (Nat.le_of_ble_eq_true rfl) (by decide) (Nat.le_of_ble_eq_true rfl) (fun fi ai hG hK => ?_)
              have hF := FR1_tr hF hG
              have bd := Bd_cat ivS (ch := w 2 / 2) hmS
              refine e_goto (tgt := 119) dX5_takeOne_105 (by decide) ?_
              refine e_iload_n dX5_takeOne_119 rfl rfl ?_
              first | ((with_reducible refine mk_b ?_); refine b_if_eq (tgt := 141) dX5_takeOne_120 (by decide) (fun h120 => ?_) (fun h120 => ?_)) | ((with_reducible refine mk_ll ?_); refine m_if_eq (tgt := 141) dX5_takeOne_120 (by decide) (by omega) (by omega) (fun h120 => ?_) (fun h120 => ?_)) | ((with_reducible refine mk_lc ?_); refine l_if_eq (tgt := 141) dX5_takeOne_120 (by decide) (fun h120 => ?_) (fun h120 => ?_)) | ((with_reducible refine mk_n ?_); refine n_if_eq (tgt := 141) dX5_takeOne_120 (by decide) (by omega) (fun h120 => ?_) (fun h120 => ?_)) | refine e_if_eq (tgt := 141) dX5_takeOne_120 (by decide) (fun h120 => ?_) (fun h120 => ?_)
              · try first | contradiction | omega | (simp only [decide_eq_true_eq, decide_eq_false_iff_not] at h120; omega)
                all_goals
                  contradiction
              · try first | contradiction | omega | (simp only [decide_eq_true_eq, decide_eq_false_iff_not] at h120; omega)
                all_goals
                  refine e_aload_n dX5_takeOne_123 rfl rfl ?_
                  refine e_iconst (v := nI 3) dX5_takeOne_124 rfl ?_
                  refine ky_V1 (M' := mX4_breakBy) dX5_takeOne_125 ml_X5_110 ok_X4_breakBy (by decide) rfl im_X4_breakBy se_X4_breakBy (ct_X4_breakBy cm bd hK (by omega)) (Nat.le_of_ble_eq_true rfl) (by decide) (Nat.le_of_ble_eq_true rfl) (fun fi ai hG hK => ?_)
                  have hF := FR1_tr hF hG
                  have bd := Bd_up (Bd_up bd (q := (7694 + 72 * m + 7)) (v := 1) (by omega)) (q := (7694 + 72 * m + 8)) (v := 3) (by omega)
                  refine e_aload_n dX5_takeOne_128 rfl rfl ?_
                  refine e_getR dX5_takeOne_129 fl_X5_15 rfl (cv_l cm) ?_
                  refine e_bipush (v := nI 12) dX5_takeOne_132 rfl ?_
                  refine e_iconst (v := nI 1) dX5_takeOne_134 rfl ?_
                  refine ky_V2 (M' := mX3_add) dX5_takeOne_135 ml_X5_66 ok_X3_add (by decide) rfl im_X3_add se_X3_add (ct_X3_add cm bd hK (by omega)) (Nat.le_of_ble_eq_true rfl) (by decide) (Nat.le_of_ble_eq_true rfl) (fun fi ai hG hK => ?_)
                  have hF := FR1_tr hF hG
                  refine e_goto (tgt := 157) dX5_takeOne_138 (by decide) ?_
                  refine e_ret none rfl (r_void dX5_takeOne_157 rfl) ?_
                  refine kq rfl hF (K_eq hK ?_)
                  rw [← eF]
                  unfold fa2
                  rw [upN_n (q := 8558 + 12) (by omega), upN_n (q := 8558 + 12) (by omega), upN_cm (a := (7694 + 72 * m + 7)) (b := (7694 + 72 * m + 8)) (by omega), upN_cm (a := (7694 + 72 * m + 7)) (b := 8558 + 12) (by omega)]
          refine e_swc (tgt := 119) 3 dX5_takeOne_56 (by decide) (by decide) rfl (by decide) (fun h56_2 => ?_) (fun h56_2 => ?_)
          · try first | contradiction | omega
            all_goals
              refine e_iload_n dX5_takeOne_119 rfl rfl ?_
              first | ((with_reducible refine mk_b ?_); refine b_if_eq (tgt := 141) dX5_takeOne_120 (by decide) (fun h120 => ?_) (fun h120 => ?_)) | ((with_reducible refine mk_ll ?_); refine m_if_eq (tgt := 141) dX5_takeOne_120 (by decide) (by omega) (by omega) (fun h120 => ?_) (fun h120 => ?_)) | ((with_reducible refine mk_lc ?_); refine l_if_eq (tgt := 141) dX5_takeOne_120 (by decide) (fun h120 => ?_) (fun h120 => ?_)) | ((with_reducible refine mk_n ?_); refine n_if_eq (tgt := 141) dX5_takeOne_120 (by decide) (by omega) (fun h120 => ?_) (fun h120 => ?_)) | refine e_if_eq (tgt := 141) dX5_takeOne_120 (by decide) (fun h120 => ?_) (fun h120 => ?_)
              · try first | contradiction | omega | (simp only [decide_eq_true_eq, decide_eq_false_iff_not] at h120; omega)
                all_goals
                  contradiction
              · try first | contradiction | omega | (simp only [decide_eq_true_eq, decide_eq_false_iff_not] at h120; omega)
                all_goals
                  refine e_aload_n dX5_takeOne_123 rfl rfl ?_
                  refine e_iconst (v := nI 3) dX5_takeOne_124 rfl ?_
                  refine ky_V1 (M' := mX4_breakBy) dX5_takeOne_125 ml_X5_110 ok_X4_breakBy (by decide) rfl im_X4_breakBy se_X4_breakBy (ct_X4_breakBy cm bd hK (by omega)) (Nat.le_of_ble_eq_true rfl) (by decide) (Nat.le_of_ble_eq_true rfl) (fun fi ai hG hK => ?_)
                  have hF := FR1_tr hF hG
                  have bd := Bd_up (Bd_up bd (q := (7694 + 72 * m + 7)) (v := 1) (by omega)) (q := (7694 + 72 * m + 8)) (v := 3) (by omega)
                  refine e_aload_n dX5_takeOne_128 rfl rfl ?_
                  refine e_getR dX5_takeOne_129 fl_X5_15 rfl (cv_l cm) ?_
                  refine e_bipush (v := nI 12) dX5_takeOne_132 rfl ?_
                  refine e_iconst (v := nI 1) dX5_takeOne_134 rfl ?_
                  refine ky_V2 (M' := mX3_add) dX5_takeOne_135 ml_X5_66 ok_X3_add (by decide) rfl im_X3_add se_X3_add (ct_X3_add cm bd hK (by omega)) (Nat.le_of_ble_eq_true rfl) (by decide) (Nat.le_of_ble_eq_true rfl) (fun fi ai hG hK => ?_)
                  have hF := FR1_tr hF hG
                  refine e_goto (tgt := 157) dX5_takeOne_138 (by decide) ?_
                  refine e_ret none rfl (r_void dX5_takeOne_157 rfl) ?_
                  refine kq rfl hF (K_eq hK ?_)
                  rw [← eF]
                  unfold fa2
                  rw [upN_n (q := 8558 + 12) (by omega), upN_n (q := 8558 + 12) (by omega), upN_cm (a := (7694 + 72 * m + 7)) (b := (7694 + 72 * m + 8)) (by omega), upN_cm (a := (7694 + 72 * m + 7)) (b := 8558 + 12) (by omega)]
          refine e_swc (tgt := 108) 4 dX5_takeOne_56 (by decide) (by decide) rfl (by decide) (fun h56_3 => ?_) (fun h56_3 => ?_)
          · try first | contradiction | omega
            all_goals
              refine e_aload_n dX5_takeOne_108 rfl rfl ?_
              refine e_aload_n dX5_takeOne_109 rfl rfl ?_
              refine e_iload_n dX5_takeOne_110 rfl rfl ?_
              refine kx_V2 (M' := mX5_cleanSome) dX5_takeOne_111 ml_X5_107 ok_X5_cleanSome (by decide) rfl im_X5_cleanSome se_X5_cleanSome (ct_X5_cleanSome cm iv hK (by omega) (by omega)) (Nat.le_of_ble_eq_true rfl) (by decide) (Nat.le_of_ble_eq_true rfl) (fun fi ai hG hK => ?_)
              have hF := FR1_tr hF hG
              refine e_istore dX5_takeOne_114 (Nat.le_of_ble_eq_true rfl) rfl ?_
              refine e_goto (tgt := 119) dX5_takeOne_116 (by decide) ?_
              refine e_iload_n dX5_takeOne_119 rfl rfl ?_
              first | ((with_reducible refine mk_b ?_); refine b_if_eq (tgt := 141) dX5_takeOne_120 (by decide) (fun h120 => ?_) (fun h120 => ?_)) | ((with_reducible refine mk_ll ?_); refine m_if_eq (tgt := 141) dX5_takeOne_120 (by decide) (by omega) (by omega) (fun h120 => ?_) (fun h120 => ?_)) | ((with_reducible refine mk_lc ?_); refine l_if_eq (tgt := 141) dX5_takeOne_120 (by decide) (fun h120 => ?_) (fun h120 => ?_)) | ((with_reducible refine mk_n ?_); refine n_if_eq (tgt := 141) dX5_takeOne_120 (by decide) (by omega) (fun h120 => ?_) (fun h120 => ?_)) | refine e_if_eq (tgt := 141) dX5_takeOne_120 (by decide) (fun h120 => ?_) (fun h120 => ?_)
              · try first | contradiction | omega | (simp only [decide_eq_true_eq, decide_eq_false_iff_not] at h120; omega)
                all_goals
                  contradiction
              · try first | contradiction | omega | (simp only [decide_eq_true_eq, decide_eq_false_iff_not] at h120; omega)
                all_goals
                  refine e_aload_n dX5_takeOne_123 rfl rfl ?_
                  refine e_iconst (v := nI 3) dX5_takeOne_124 rfl ?_
                  refine ky_V1 (M' := mX4_breakBy) dX5_takeOne_125 ml_X5_110 ok_X4_breakBy (by decide) rfl im_X4_breakBy se_X4_breakBy (ct_X4_breakBy cm bd hK (by omega)) (Nat.le_of_ble_eq_true rfl) (by decide) (Nat.le_of_ble_eq_true rfl) (fun fi ai hG hK => ?_)
                  have hF := FR1_tr hF hG
                  have bd := Bd_up (Bd_up bd (q := (7694 + 72 * m + 7)) (v := 1) (by omega)) (q := (7694 + 72 * m + 8)) (v := 3) (by omega)
                  refine e_aload_n dX5_takeOne_128 rfl rfl ?_
                  refine e_getR dX5_takeOne_129 fl_X5_15 rfl (cv_l cm) ?_
                  refine e_bipush (v := nI 12) dX5_takeOne_132 rfl ?_
                  refine e_iconst (v := nI 1) dX5_takeOne_134 rfl ?_
                  refine ky_V2 (M' := mX3_add) dX5_takeOne_135 ml_X5_66 ok_X3_add (by decide) rfl im_X3_add se_X3_add (ct_X3_add cm bd hK (by omega)) (Nat.le_of_ble_eq_true rfl) (by decide) (Nat.le_of_ble_eq_true rfl) (fun fi ai hG hK => ?_)
                  have hF := FR1_tr hF hG
                  refine e_goto (tgt := 157) dX5_takeOne_138 (by decide) ?_
                  refine e_ret none rfl (r_void dX5_takeOne_157 rfl) ?_
                  refine kq rfl hF (K_eq hK ?_)
                  rw [← eF]
                  unfold fa2
                  rw [upN_n (q := 8558 + 12) (by omega), upN_n (q := 8558 + 12) (by omega), upN_cm (a := (7694 + 72 * m + 7)) (b := (7694 + 72 * m + 8)) (by omega), upN_cm (a := (7694 + 72 * m + 7)) (b := 8558 + 12) (by omega)]
          refine e_tableOut (tgt := 119) dX5_takeOne_56 (by omega) (by decide) ?_
          refine e_iload_n dX5_takeOne_119 rfl rfl ?_
          first | ((with_reducible refine mk_b ?_); refine b_if_eq (tgt := 141) dX5_takeOne_120 (by decide) (fun h120 => ?_) (fun h120 => ?_)) | ((with_reducible refine mk_ll ?_); refine m_if_eq (tgt := 141) dX5_takeOne_120 (by decide) (by omega) (by omega) (fun h120 => ?_) (fun h120 => ?_)) | ((with_reducible refine mk_lc ?_); refine l_if_eq (tgt := 141) dX5_takeOne_120 (by decide) (fun h120 => ?_) (fun h120 => ?_)) | ((with_reducible refine mk_n ?_); refine n_if_eq (tgt := 141) dX5_takeOne_120 (by decide) (by omega) (fun h120 => ?_) (fun h120 => ?_)) | refine e_if_eq (tgt := 141) dX5_takeOne_120 (by decide) (fun h120 => ?_) (fun h120 => ?_)
          · try first | contradiction | omega | (simp only [decide_eq_true_eq, decide_eq_false_iff_not] at h120; omega)
            all_goals
              contradiction
          · try first | contradiction | omega | (simp only [decide_eq_true_eq, decide_eq_false_iff_not] at h120; omega)
            all_goals
              refine e_aload_n dX5_takeOne_123 rfl rfl ?_
              refine e_iconst (v := nI 3) dX5_takeOne_124 rfl ?_
              refine ky_V1 (M' := mX4_breakBy) dX5_takeOne_125 ml_X5_110 ok_X4_breakBy (by decide) rfl im_X4_breakBy se_X4_breakBy (ct_X4_breakBy cm bd hK (by omega)) (Nat.le_of_ble_eq_true rfl) (by decide) (Nat.le_of_ble_eq_true rfl) (fun fi ai hG hK => ?_)
              have hF := FR1_tr hF hG
              have bd := Bd_up (Bd_up bd (q := (7694 + 72 * m + 7)) (v := 1) (by omega)) (q := (7694 + 72 * m + 8)) (v := 3) (by omega)
              refine e_aload_n dX5_takeOne_128 rfl rfl ?_
              refine e_getR dX5_takeOne_129 fl_X5_15 rfl (cv_l cm) ?_
              refine e_bipush (v := nI 12) dX5_takeOne_132 rfl ?_
              refine e_iconst (v := nI 1) dX5_takeOne_134 rfl ?_
              refine ky_V2 (M' := mX3_add) dX5_takeOne_135 ml_X5_66 ok_X3_add (by decide) rfl im_X3_add se_X3_add (ct_X3_add cm bd hK (by omega)) (Nat.le_of_ble_eq_true rfl) (by decide) (Nat.le_of_ble_eq_true rfl) (fun fi ai hG hK => ?_)
              have hF := FR1_tr hF hG
              refine e_goto (tgt := 157) dX5_takeOne_138 (by decide) ?_
              refine e_ret none rfl (r_void dX5_takeOne_157 rfl) ?_
              refine kq rfl hF (K_eq hK ?_)
              rw [← eF]
              unfold fa2
              rw [upN_n (q := 8558 + 12) (by omega), upN_n (q := 8558 + 12) (by omega), upN_cm (a := (7694 + 72 * m + 7)) (b := (7694 + 72 * m + 8)) (by omega), upN_cm (a := (7694 + 72 * m + 7)) (b := 8558 + 12) (by omega)]
    
    · have eF : upN (govW (fa2 (so3 w m) m) m (so3 w m 2 / 2) true) (7694 + 72 * m + 7) 1 = sonW w m := by
        rw [e1]; unfold faiW
        rw [St, if_neg (by omega), if_neg (by omega), if_pos hs]
      have hle : govN (so3 w m) m (w 2 / 2) true ≤ w 2 / 2 := (goS_in ivS (ch := w 2 / 2) (cl := true) hmS (govL (so3 w m) m) (by unfold govL; have := iv_mv ivS hmS; omega)).2.2.2.1
      have G3 : govW (so3 w m) m (w 2 / 2) true 3 = w 3 := (govW_g ivS hmS (by omega) (by omega) (by omega)).trans S3
      refine e_aload_n dX5_takeOne_0 rfl rfl ?_
      refine e_dup dX5_takeOne_1 rfl ?_
      refine e_getE dX5_takeOne_2 fl_X5_90 rfl (k_m10 hK (by first | omega | (simp (disch := omega) only [upN_n, upN_s]; omega))) ?_
      refine e_iconst (v := nI 1) dX5_takeOne_5 rfl ?_
      first | ((with_reducible refine mk_nn ?_); refine n_iadd dX5_takeOne_6 ?_) | refine e_iadd dX5_takeOne_6 ?_
      refine e_pm (f := 10) (dd := 9) dX5_takeOne_7 fl_X5_90 (by decide) rfl rfl rfl rfl rfl bd hK (by first | omega | (simp (disch := omega) only [upN_n, upN_s]; omega)) hF (fun fi hF hK => ?_)
      have bd := Bd_K bd hK (by omega)
      refine e_aload_n dX5_takeOne_10 rfl rfl ?_
      refine e_getR dX5_takeOne_11 fl_X5_15 rfl (cv_l cm) ?_
      refine e_bipush (v := nI 11) dX5_takeOne_14 rfl ?_
      refine e_iconst (v := nI 1) dX5_takeOne_16 rfl ?_
      refine ky_V2 (M' := mX3_add) dX5_takeOne_17 ml_X5_66 ok_X3_add (by decide) rfl im_X3_add se_X3_add (ct_X3_add cm bd hK (by omega)) (Nat.le_of_ble_eq_true rfl) (by decide) (Nat.le_of_ble_eq_true rfl) (fun fi ai hG hK => ?_)
      have hF := FR1_tr hF hG
      rw [eX] at hK
      have bd := bd2
      refine e_aload_n dX5_takeOne_20 rfl rfl ?_
      refine kx_V0 (M' := mX4_countDown) dX5_takeOne_21 ml_X5_93 ok_X4_countDown (by decide) rfl im_X4_countDown se_X4_countDown (ct_X4_countDown cm bd hK (by omega) (by omega)) (Nat.le_of_ble_eq_true rfl) (by decide) (Nat.le_of_ble_eq_true rfl) (fun fi ai hG hK => ?_)
      have hF := FR1_tr hF hG
      rw [s10] at hK
      rw [s10, hdt]
      change K _ _ (so3 w m) _ _ at hK
      have bd := bdS
      refine e_istore_n dX5_takeOne_24 rfl (Nat.le_of_ble_eq_true rfl) rfl ?_
      refine e_iload_n dX5_takeOne_25 rfl rfl ?_
      first | ((with_reducible refine mk_b ?_); refine b_if_eq (tgt := 41) dX5_takeOne_26 (by decide) (fun h26 => ?_) (fun h26 => ?_)) | ((with_reducible refine mk_ll ?_); refine m_if_eq (tgt := 41) dX5_takeOne_26 (by decide) (by omega) (by omega) (fun h26 => ?_) (fun h26 => ?_)) | ((with_reducible refine mk_lc ?_); refine l_if_eq (tgt := 41) dX5_takeOne_26 (by decide) (fun h26 => ?_) (fun h26 => ?_)) | ((with_reducible refine mk_n ?_); refine n_if_eq (tgt := 41) dX5_takeOne_26 (by decide) (by omega) (fun h26 => ?_) (fun h26 => ?_)) | refine e_if_eq (tgt := 41) dX5_takeOne_26 (by decide) (fun h26 => ?_) (fun h26 => ?_)
      · try first | contradiction | omega | (simp only [decide_eq_true_eq, decide_eq_false_iff_not] at h26; omega)
        all_goals
          contradiction
      · try first | contradiction | omega | (simp only [decide_eq_true_eq, decide_eq_false_iff_not] at h26; omega)
        all_goals
          refine e_aload_n dX5_takeOne_29 rfl rfl ?_
          refine e_getR dX5_takeOne_30 fl_X5_9 rfl (cv_w cm) ?_
          refine e_getE dX5_takeOne_33 fl_X5_96 rfl ((k_ch hK).trans (by rw [S2])) ?_
          refine e_iconst (v := nI 2) dX5_takeOne_36 rfl ?_
          first | ((with_reducible refine mk_nn ?_); refine n_idiv dX5_takeOne_37 (by omega) (by omega) (by omega) ?_) | refine e_idiv dX5_takeOne_37 (by decide) ?_
          refine e_goto (tgt := 48) dX5_takeOne_38 (by decide) ?_
          refine e_istore_n dX5_takeOne_48 rfl (Nat.le_of_ble_eq_true rfl) rfl ?_
          refine e_iconst (v := nI 0) dX5_takeOne_49 rfl ?_
          refine e_istore dX5_takeOne_50 (Nat.le_of_ble_eq_true rfl) rfl ?_
          refine e_aload_n dX5_takeOne_52 rfl rfl ?_
          refine e_getE dX5_takeOne_53 fl_X5_87 rfl ((k_m2 hK hmS).trans (by rw [St])) ?_
          refine e_swc (tgt := 88) 1 dX5_takeOne_56 (by decide) (by decide) rfl (by decide) (fun h56_0 => ?_) (fun h56_0 => ?_)
          · try first | contradiction | omega
            all_goals
              refine e_aload_n dX5_takeOne_88 rfl rfl ?_
              refine e_aload_n dX5_takeOne_89 rfl rfl ?_
              refine e_iload_n dX5_takeOne_90 rfl rfl ?_
              refine kx_V2 (M' := mX5_copySome) dX5_takeOne_91 ml_X5_99 ok_X5_copySome (by decide) rfl im_X5_copySome se_X5_copySome (ct_X5_copySome cm ivS hK hmS (by omega)) (Nat.le_of_ble_eq_true rfl) (by decide) (Nat.le_of_ble_eq_true rfl) (fun fi ai hG hK => ?_)
              have hF := FR1_tr hF hG
              have bd := Bd_gov ivS (ch := w 2 / 2) (cl := false) hmS
              refine e_istore dX5_takeOne_94 (Nat.le_of_ble_eq_true rfl) rfl ?_
              refine e_goto (tgt := 119) dX5_takeOne_96 (by decide) ?_
              refine e_iload_n dX5_takeOne_119 rfl rfl ?_
              first | ((with_reducible refine mk_b ?_); refine b_if_eq (tgt := 141) dX5_takeOne_120 (by decide) (fun h120 => ?_) (fun h120 => ?_)) | ((with_reducible refine mk_ll ?_); refine m_if_eq (tgt := 141) dX5_takeOne_120 (by decide) (by omega) (by omega) (fun h120 => ?_) (fun h120 => ?_)) | ((with_reducible refine mk_lc ?_); refine l_if_eq (tgt := 141) dX5_takeOne_120 (by decide) (fun h120 => ?_) (fun h120 => ?_)) | ((with_reducible refine mk_n ?_); refine n_if_eq (tgt := 141) dX5_takeOne_120 (by decide) (by omega) (fun h120 => ?_) (fun h120 => ?_)) | refine e_if_eq (tgt := 141) dX5_takeOne_120 (by decide) (fun h120 => ?_) (fun h120 => ?_)
              · try first | contradiction | omega | (simp only [decide_eq_true_eq, decide_eq_false_iff_not] at h120; omega)
                all_goals
                  contradiction
              · try first | contradiction | omega | (simp only [decide_eq_true_eq, decide_eq_false_iff_not] at h120; omega)
                all_goals
                  refine e_aload_n dX5_takeOne_123 rfl rfl ?_
                  refine e_iconst (v := nI 3) dX5_takeOne_124 rfl ?_
                  refine ky_V1 (M' := mX4_breakBy) dX5_takeOne_125 ml_X5_110 ok_X4_breakBy (by decide) rfl im_X4_breakBy se_X4_breakBy (ct_X4_breakBy cm bd hK (by omega)) (Nat.le_of_ble_eq_true rfl) (by decide) (Nat.le_of_ble_eq_true rfl) (fun fi ai hG hK => ?_)
                  have hF := FR1_tr hF hG
                  have bd := Bd_up (Bd_up bd (q := (7694 + 72 * m + 7)) (v := 1) (by omega)) (q := (7694 + 72 * m + 8)) (v := 3) (by omega)
                  refine e_aload_n dX5_takeOne_128 rfl rfl ?_
                  refine e_getR dX5_takeOne_129 fl_X5_15 rfl (cv_l cm) ?_
                  refine e_bipush (v := nI 12) dX5_takeOne_132 rfl ?_
                  refine e_iconst (v := nI 1) dX5_takeOne_134 rfl ?_
                  refine ky_V2 (M' := mX3_add) dX5_takeOne_135 ml_X5_66 ok_X3_add (by decide) rfl im_X3_add se_X3_add (ct_X3_add cm bd hK (by omega)) (Nat.le_of_ble_eq_true rfl) (by decide) (Nat.le_of_ble_eq_true rfl) (fun fi ai hG hK => ?_)
                  have hF := FR1_tr hF hG
                  refine e_goto (tgt := 157) dX5_takeOne_138 (by decide) ?_
                  refine e_ret none rfl (r_void dX5_takeOne_157 rfl) ?_
                  refine kq rfl hF (K_eq hK ?_)
                  rw [fa_gov ivS hmS, ← eF, S2]
          refine e_swc (tgt := 99) 2 dX5_takeOne_56 (by decide) (by decide) rfl (by decide) (fun h56_1 => ?_) (fun h56_1 => ?_)
          · try first | contradiction | omega
            all_goals
              refine e_aload_n dX5_takeOne_99 rfl rfl ?_
              refine e_aload_n dX5_takeOne_100 rfl rfl ?_
              refine e_iload_n dX5_takeOne_101 rfl rfl ?_
              refine ky_V2 (M' := mX5_catchUpSome) dX5_takeOne_102 ml_X5_103 ok_X5_catchUpSome (by decide) rfl im_X5_catchUpSome se_X5_catchUpSome (ct_X5_catchUpSome cm ivS hK hmS (by omega)) (Nat.le_of_ble_eq_true rfl) (by decide) (Nat.le_of_ble_eq_true rfl) (fun fi ai hG hK => ?_)
              have hF := FR1_tr hF hG
              have bd := Bd_cat ivS (ch := w 2 / 2) hmS
              refine e_goto (tgt := 119) dX5_takeOne_105 (by decide) ?_
              refine e_iload_n dX5_takeOne_119 rfl rfl ?_
              first | ((with_reducible refine mk_b ?_); refine b_if_eq (tgt := 141) dX5_takeOne_120 (by decide) (fun h120 => ?_) (fun h120 => ?_)) | ((with_reducible refine mk_ll ?_); refine m_if_eq (tgt := 141) dX5_takeOne_120 (by decide) (by omega) (by omega) (fun h120 => ?_) (fun h120 => ?_)) | ((with_reducible refine mk_lc ?_); refine l_if_eq (tgt := 141) dX5_takeOne_120 (by decide) (fun h120 => ?_) (fun h120 => ?_)) | ((with_reducible refine mk_n ?_); refine n_if_eq (tgt := 141) dX5_takeOne_120 (by decide) (by omega) (fun h120 => ?_) (fun h120 => ?_)) | refine e_if_eq (tgt := 141) dX5_takeOne_120 (by decide) (fun h120 => ?_) (fun h120 => ?_)
              · try first | contradiction | omega | (simp only [decide_eq_true_eq, decide_eq_false_iff_not] at h120; omega)
                all_goals
                  contradiction
              · try first | contradiction | omega | (simp only [decide_eq_true_eq, decide_eq_false_iff_not] at h120; omega)
                all_goals
                  refine e_aload_n dX5_takeOne_123 rfl rfl ?_
                  refine e_iconst (v := nI 3) dX5_takeOne_124 rfl ?_
                  refine ky_V1 (M' := mX4_breakBy) dX5_takeOne_125 ml_X5_110 ok_X4_breakBy (by decide) rfl im_X4_breakBy se_X4_breakBy (ct_X4_breakBy cm bd hK (by omega)) (Nat.le_of_ble_eq_true rfl) (by decide) (Nat.le_of_ble_eq_true rfl) (fun fi ai hG hK => ?_)
                  have hF := FR1_tr hF hG
                  have bd := Bd_up (Bd_up bd (q := (7694 + 72 * m + 7)) (v := 1) (by omega)) (q := (7694 + 72 * m + 8)) (v := 3) (by omega)
                  refine e_aload_n dX5_takeOne_128 rfl rfl ?_
                  refine e_getR dX5_takeOne_129 fl_X5_15 rfl (cv_l cm) ?_
                  refine e_bipush (v := nI 12) dX5_takeOne_132 rfl ?_
                  refine e_iconst (v := nI 1) dX5_takeOne_134 rfl ?_
                  refine ky_V2 (M' := mX3_add) dX5_takeOne_135 ml_X5_66 ok_X3_add (by decide) rfl im_X3_add se_X3_add (ct_X3_add cm bd hK (by omega)) (Nat.le_of_ble_eq_true rfl) (by decide) (Nat.le_of_ble_eq_true rfl) (fun fi ai hG hK => ?_)
                  have hF := FR1_tr hF hG
                  refine e_goto (tgt := 157) dX5_takeOne_138 (by decide) ?_
                  refine e_ret none rfl (r_void dX5_takeOne_157 rfl) ?_
                  refine kq rfl hF (K_eq hK ?_)
                  rw [fa_gov ivS hmS, ← eF, S2]
          refine e_swc (tgt := 119) 3 dX5_takeOne_56 (by decide) (by decide) rfl (by decide) (fun h56_2 => ?_) (fun h56_2 => ?_)
          · try first | contradiction | omega
            all_goals
              refine e_iload_n dX5_takeOne_119 rfl rfl ?_
              first | ((with_reducible refine mk_b ?_); refine b_if_eq (tgt := 141) dX5_takeOne_120 (by decide) (fun h120 => ?_) (fun h120 => ?_)) | ((with_reducible refine mk_ll ?_); refine m_if_eq (tgt := 141) dX5_takeOne_120 (by decide) (by omega) (by omega) (fun h120 => ?_) (fun h120 => ?_)) | ((with_reducible refine mk_lc ?_); refine l_if_eq (tgt := 141) dX5_takeOne_120 (by decide) (fun h120 => ?_) (fun h120 => ?_)) | ((with_reducible refine mk_n ?_); refine n_if_eq (tgt := 141) dX5_takeOne_120 (by decide) (by omega) (fun h120 => ?_) (fun h120 => ?_)) | refine e_if_eq (tgt := 141) dX5_takeOne_120 (by decide) (fun h120 => ?_) (fun h120 => ?_)
              · try first | contradiction | omega | (simp only [decide_eq_true_eq, decide_eq_false_iff_not] at h120; omega)
                all_goals
                  contradiction
              · try first | contradiction | omega | (simp only [decide_eq_true_eq, decide_eq_false_iff_not] at h120; omega)
                all_goals
                  refine e_aload_n dX5_takeOne_123 rfl rfl ?_
                  refine e_iconst (v := nI 3) dX5_takeOne_124 rfl ?_
                  refine ky_V1 (M' := mX4_breakBy) dX5_takeOne_125 ml_X5_110 ok_X4_breakBy (by decide) rfl im_X4_breakBy se_X4_breakBy (ct_X4_breakBy cm bd hK (by omega)) (Nat.le_of_ble_eq_true rfl) (by decide) (Nat.le_of_ble_eq_true rfl) (fun fi ai hG hK => ?_)
                  have hF := FR1_tr hF hG
                  have bd := Bd_up (Bd_up bd (q := (7694 + 72 * m + 7)) (v := 1) (by omega)) (q := (7694 + 72 * m + 8)) (v := 3) (by omega)
                  refine e_aload_n dX5_takeOne_128 rfl rfl ?_
                  refine e_getR dX5_takeOne_129 fl_X5_15 rfl (cv_l cm) ?_
                  refine e_bipush (v := nI 12) dX5_takeOne_132 rfl ?_
                  refine e_iconst (v := nI 1) dX5_takeOne_134 rfl ?_
                  refine ky_V2 (M' := mX3_add) dX5_takeOne_135 ml_X5_66 ok_X3_add (by decide) rfl im_X3_add se_X3_add (ct_X3_add cm bd hK (by omega)) (Nat.le_of_ble_eq_true rfl) (by decide) (Nat.le_of_ble_eq_true rfl) (fun fi ai hG hK => ?_)
                  have hF := FR1_tr hF hG
                  refine e_goto (tgt := 157) dX5_takeOne_138 (by decide) ?_
                  refine e_ret none rfl (r_void dX5_takeOne_157 rfl) ?_
                  refine kq rfl hF (K_eq hK ?_)
                  rw [fa_gov ivS hmS, ← eF, S2]
          refine e_swc (tgt := 108) 4 dX5_takeOne_56 (by decide) (by decide) rfl (by decide) (fun h56_3 => ?_) (fun h56_3 => ?_)
          · try first | contradiction | omega
            all_goals
              refine e_aload_n dX5_takeOne_108 rfl rfl ?_
              refine e_aload_n dX5_takeOne_109 rfl rfl ?_
              refine e_iload_n dX5_takeOne_110 rfl rfl ?_
              refine kx_V2 (M' := mX5_cleanSome) dX5_takeOne_111 ml_X5_107 ok_X5_cleanSome (by decide) rfl im_X5_cleanSome se_X5_cleanSome (ct_X5_cleanSome cm ivS hK hmS (by omega)) (Nat.le_of_ble_eq_true rfl) (by decide) (Nat.le_of_ble_eq_true rfl) (fun fi ai hG hK => ?_)
              have hF := FR1_tr hF hG
              have bd := Bd_gov ivS (ch := w 2 / 2) (cl := true) hmS
              refine e_istore dX5_takeOne_114 (Nat.le_of_ble_eq_true rfl) rfl ?_
              refine e_goto (tgt := 119) dX5_takeOne_116 (by decide) ?_
              refine e_iload_n dX5_takeOne_119 rfl rfl ?_
              first | ((with_reducible refine mk_b ?_); refine b_if_eq (tgt := 141) dX5_takeOne_120 (by decide) (fun h120 => ?_) (fun h120 => ?_)) | ((with_reducible refine mk_ll ?_); refine m_if_eq (tgt := 141) dX5_takeOne_120 (by decide) (by omega) (by omega) (fun h120 => ?_) (fun h120 => ?_)) | ((with_reducible refine mk_lc ?_); refine l_if_eq (tgt := 141) dX5_takeOne_120 (by decide) (fun h120 => ?_) (fun h120 => ?_)) | ((with_reducible refine mk_n ?_); refine n_if_eq (tgt := 141) dX5_takeOne_120 (by decide) (by omega) (fun h120 => ?_) (fun h120 => ?_)) | refine e_if_eq (tgt := 141) dX5_takeOne_120 (by decide) (fun h120 => ?_) (fun h120 => ?_)
              · try first | contradiction | omega | (simp only [decide_eq_true_eq, decide_eq_false_iff_not] at h120; omega)
                all_goals
                  contradiction
              · try first | contradiction | omega | (simp only [decide_eq_true_eq, decide_eq_false_iff_not] at h120; omega)
                all_goals
                  refine e_aload_n dX5_takeOne_123 rfl rfl ?_
                  refine e_iconst (v := nI 3) dX5_takeOne_124 rfl ?_
                  refine ky_V1 (M' := mX4_breakBy) dX5_takeOne_125 ml_X5_110 ok_X4_breakBy (by decide) rfl im_X4_breakBy se_X4_breakBy (ct_X4_breakBy cm bd hK (by omega)) (Nat.le_of_ble_eq_true rfl) (by decide) (Nat.le_of_ble_eq_true rfl) (fun fi ai hG hK => ?_)
                  have hF := FR1_tr hF hG
                  have bd := Bd_up (Bd_up bd (q := (7694 + 72 * m + 7)) (v := 1) (by omega)) (q := (7694 + 72 * m + 8)) (v := 3) (by omega)
                  refine e_aload_n dX5_takeOne_128 rfl rfl ?_
                  refine e_getR dX5_takeOne_129 fl_X5_15 rfl (cv_l cm) ?_
                  refine e_bipush (v := nI 12) dX5_takeOne_132 rfl ?_
                  refine e_iconst (v := nI 1) dX5_takeOne_134 rfl ?_
                  refine ky_V2 (M' := mX3_add) dX5_takeOne_135 ml_X5_66 ok_X3_add (by decide) rfl im_X3_add se_X3_add (ct_X3_add cm bd hK (by omega)) (Nat.le_of_ble_eq_true rfl) (by decide) (Nat.le_of_ble_eq_true rfl) (fun fi ai hG hK => ?_)
                  have hF := FR1_tr hF hG
                  refine e_goto (tgt := 157) dX5_takeOne_138 (by decide) ?_
                  refine e_ret none rfl (r_void dX5_takeOne_157 rfl) ?_
                  refine kq rfl hF (K_eq hK ?_)
                  rw [fa_gov ivS hmS, ← eF, S2]
          refine e_tableOut (tgt := 119) dX5_takeOne_56 (by omega) (by decide) ?_
          refine e_iload_n dX5_takeOne_119 rfl rfl ?_
          first | ((with_reducible refine mk_b ?_); refine b_if_eq (tgt := 141) dX5_takeOne_120 (by decide) (fun h120 => ?_) (fun h120 => ?_)) | ((with_reducible refine mk_ll ?_); refine m_if_eq (tgt := 141) dX5_takeOne_120 (by decide) (by omega) (by omega) (fun h120 => ?_) (fun h120 => ?_)) | ((with_reducible refine mk_lc ?_); refine l_if_eq (tgt := 141) dX5_takeOne_120 (by decide) (fun h120 => ?_) (fun h120 => ?_)) | ((with_reducible refine mk_n ?_); refine n_if_eq (tgt := 141) dX5_takeOne_120 (by decide) (by omega) (fun h120 => ?_) (fun h120 => ?_)) | refine e_if_eq (tgt := 141) dX5_takeOne_120 (by decide) (fun h120 => ?_) (fun h120 => ?_)
          · try first | contradiction | omega | (simp only [decide_eq_true_eq, decide_eq_false_iff_not] at h120; omega)
            all_goals
              contradiction
          · try first | contradiction | omega | (simp only [decide_eq_true_eq, decide_eq_false_iff_not] at h120; omega)
            all_goals
              refine e_aload_n dX5_takeOne_123 rfl rfl ?_
              refine e_iconst (v := nI 3) dX5_takeOne_124 rfl ?_
              refine ky_V1 (M' := mX4_breakBy) dX5_takeOne_125 ml_X5_110 ok_X4_breakBy (by decide) rfl im_X4_breakBy se_X4_breakBy (ct_X4_breakBy cm bd hK (by omega)) (Nat.le_of_ble_eq_true rfl) (by decide) (Nat.le_of_ble_eq_true rfl) (fun fi ai hG hK => ?_)
              have hF := FR1_tr hF hG
              have bd := Bd_up (Bd_up bd (q := (7694 + 72 * m + 7)) (v := 1) (by omega)) (q := (7694 + 72 * m + 8)) (v := 3) (by omega)
              refine e_aload_n dX5_takeOne_128 rfl rfl ?_
              refine e_getR dX5_takeOne_129 fl_X5_15 rfl (cv_l cm) ?_
              refine e_bipush (v := nI 12) dX5_takeOne_132 rfl ?_
              refine e_iconst (v := nI 1) dX5_takeOne_134 rfl ?_
              refine ky_V2 (M' := mX3_add) dX5_takeOne_135 ml_X5_66 ok_X3_add (by decide) rfl im_X3_add se_X3_add (ct_X3_add cm bd hK (by omega)) (Nat.le_of_ble_eq_true rfl) (by decide) (Nat.le_of_ble_eq_true rfl) (fun fi ai hG hK => ?_)
              have hF := FR1_tr hF hG
              refine e_goto (tgt := 157) dX5_takeOne_138 (by decide) ?_
              refine e_ret none rfl (r_void dX5_takeOne_157 rfl) ?_
              refine kq rfl hF (K_eq hK ?_)
              rw [fa_gov ivS hmS, ← eF, S2]
  · have hdt : decide (w (7694 + 72 * m + 10) = 1) = false := decide_eq_false ht
    have e1 : sonW w m = steW (so3 w m) m := if_neg ht
    rcases (show w (7694 + 72 * m + 0) = 1 ∨ w (7694 + 72 * m + 0) = 2 ∨ w (7694 + 72 * m + 0) = 3 ∨ w (7694 + 72 * m + 0) = 4 by omega) with hs | hs | hs | hs
    · have eL : sonL lg w m = lg := by unfold sonL; rw [if_neg ht, if_neg (by omega)]
      have e0 := o1 (Or.inr (by omega))
      rw [eL, e0, e1]
      have hle : govN (so3 w m) m (w 2) false ≤ w 2 := (goS_in ivS (ch := w 2) (cl := false) hmS (govL (so3 w m) m) (by unfold govL; have := iv_mv ivS hmS; omega)).2.2.2.1
      have G3 : govW (so3 w m) m (w 2) false 3 = w 3 := (govW_g ivS hmS (by omega) (by omega) (by omega)).trans S3
      have Gs : govW (so3 w m) m (w 2) false (7694 + 72 * m + 0) = w (7694 + 72 * m + 0) := (govW_g ivS hmS (by omega) (by omega) (by omega)).trans St
      have eE : ∀ bb, (bb = 0 ∧ w 2 ≤ govN (so3 w m) m (w 2) false) ∨ (bb = 1 ∧ govN (so3 w m) m (w 2) false < w 2) → gfW (govW (so3 w m) m (w 2) false) m bb = steW (so3 w m) m := fun bb hb => by
        have := ste1 ivS (bb := bb) hmS (St.trans hs) (by rw [S2]; exact hb)
        rw [S2] at this
        exact this
      refine e_aload_n dX5_takeOne_0 rfl rfl ?_
      refine e_dup dX5_takeOne_1 rfl ?_
      refine e_getE dX5_takeOne_2 fl_X5_90 rfl (k_m10 hK (by first | omega | (simp (disch := omega) only [upN_n, upN_s]; omega))) ?_
      refine e_iconst (v := nI 1) dX5_takeOne_5 rfl ?_
      first | ((with_reducible refine mk_nn ?_); refine n_iadd dX5_takeOne_6 ?_) | refine e_iadd dX5_takeOne_6 ?_
      refine e_pm (f := 10) (dd := 9) dX5_takeOne_7 fl_X5_90 (by decide) rfl rfl rfl rfl rfl bd hK (by first | omega | (simp (disch := omega) only [upN_n, upN_s]; omega)) hF (fun fi hF hK => ?_)
      have bd := Bd_K bd hK (by omega)
      refine e_aload_n dX5_takeOne_10 rfl rfl ?_
      refine e_getR dX5_takeOne_11 fl_X5_15 rfl (cv_l cm) ?_
      refine e_bipush (v := nI 11) dX5_takeOne_14 rfl ?_
      refine e_iconst (v := nI 1) dX5_takeOne_16 rfl ?_
      refine ky_V2 (M' := mX3_add) dX5_takeOne_17 ml_X5_66 ok_X3_add (by decide) rfl im_X3_add se_X3_add (ct_X3_add cm bd hK (by omega)) (Nat.le_of_ble_eq_true rfl) (by decide) (Nat.le_of_ble_eq_true rfl) (fun fi ai hG hK => ?_)
      have hF := FR1_tr hF hG
      rw [eX] at hK
      have bd := bd2
      refine e_aload_n dX5_takeOne_20 rfl rfl ?_
      refine kx_V0 (M' := mX4_countDown) dX5_takeOne_21 ml_X5_93 ok_X4_countDown (by decide) rfl im_X4_countDown se_X4_countDown (ct_X4_countDown cm bd hK (by omega) (by omega)) (Nat.le_of_ble_eq_true rfl) (by decide) (Nat.le_of_ble_eq_true rfl) (fun fi ai hG hK => ?_)
      have hF := FR1_tr hF hG
      rw [s10] at hK
      rw [s10, hdt]
      change K _ _ (so3 w m) _ _ at hK
      have bd := bdS
      refine e_istore_n dX5_takeOne_24 rfl (Nat.le_of_ble_eq_true rfl) rfl ?_
      refine e_iload_n dX5_takeOne_25 rfl rfl ?_
      first | ((with_reducible refine mk_b ?_); refine b_if_eq (tgt := 41) dX5_takeOne_26 (by decide) (fun h26 => ?_) (fun h26 => ?_)) | ((with_reducible refine mk_ll ?_); refine m_if_eq (tgt := 41) dX5_takeOne_26 (by decide) (by omega) (by omega) (fun h26 => ?_) (fun h26 => ?_)) | ((with_reducible refine mk_lc ?_); refine l_if_eq (tgt := 41) dX5_takeOne_26 (by decide) (fun h26 => ?_) (fun h26 => ?_)) | ((with_reducible refine mk_n ?_); refine n_if_eq (tgt := 41) dX5_takeOne_26 (by decide) (by omega) (fun h26 => ?_) (fun h26 => ?_)) | refine e_if_eq (tgt := 41) dX5_takeOne_26 (by decide) (fun h26 => ?_) (fun h26 => ?_)
      · try first | contradiction | omega | (simp only [decide_eq_true_eq, decide_eq_false_iff_not] at h26; omega)
        all_goals
          refine e_aload_n dX5_takeOne_41 rfl rfl ?_
          refine e_getR dX5_takeOne_42 fl_X5_9 rfl (cv_w cm) ?_
          refine e_getE dX5_takeOne_45 fl_X5_96 rfl ((k_ch hK).trans (by rw [S2])) ?_
          refine e_istore_n dX5_takeOne_48 rfl (Nat.le_of_ble_eq_true rfl) rfl ?_
          refine e_iconst (v := nI 0) dX5_takeOne_49 rfl ?_
          refine e_istore dX5_takeOne_50 (Nat.le_of_ble_eq_true rfl) rfl ?_
          refine e_aload_n dX5_takeOne_52 rfl rfl ?_
          refine e_getE dX5_takeOne_53 fl_X5_87 rfl ((k_m2 hK hmS).trans (by rw [St])) ?_
          refine e_swc (tgt := 88) 1 dX5_takeOne_56 (by decide) (by decide) rfl (by decide) (fun h56_0 => ?_) (fun h56_0 => ?_)
          · try first | contradiction | omega
            all_goals
              refine e_aload_n dX5_takeOne_88 rfl rfl ?_
              refine e_aload_n dX5_takeOne_89 rfl rfl ?_
              refine e_iload_n dX5_takeOne_90 rfl rfl ?_
              refine kx_V2 (M' := mX5_copySome) dX5_takeOne_91 ml_X5_99 ok_X5_copySome (by decide) rfl im_X5_copySome se_X5_copySome (ct_X5_copySome cm ivS hK hmS (by omega)) (Nat.le_of_ble_eq_true rfl) (by decide) (Nat.le_of_ble_eq_true rfl) (fun fi ai hG hK => ?_)
              have hF := FR1_tr hF hG
              have bd := Bd_gov ivS (ch := w 2) (cl := false) hmS
              refine e_istore dX5_takeOne_94 (Nat.le_of_ble_eq_true rfl) rfl ?_
              refine e_goto (tgt := 119) dX5_takeOne_96 (by decide) ?_
              refine e_iload_n dX5_takeOne_119 rfl rfl ?_
              first | ((with_reducible refine mk_b ?_); refine b_if_eq (tgt := 141) dX5_takeOne_120 (by decide) (fun h120 => ?_) (fun h120 => ?_)) | ((with_reducible refine mk_ll ?_); refine m_if_eq (tgt := 141) dX5_takeOne_120 (by decide) (by omega) (by omega) (fun h120 => ?_) (fun h120 => ?_)) | ((with_reducible refine mk_lc ?_); refine l_if_eq (tgt := 141) dX5_takeOne_120 (by decide) (fun h120 => ?_) (fun h120 => ?_)) | ((with_reducible refine mk_n ?_); refine n_if_eq (tgt := 141) dX5_takeOne_120 (by decide) (by omega) (fun h120 => ?_) (fun h120 => ?_)) | refine e_if_eq (tgt := 141) dX5_takeOne_120 (by decide) (fun h120 => ?_) (fun h120 => ?_)
              · try first | contradiction | omega | (simp only [decide_eq_true_eq, decide_eq_false_iff_not] at h120; omega)
                all_goals
                  refine e_aload_n dX5_takeOne_141 rfl rfl ?_
                  refine e_aload_n dX5_takeOne_142 rfl rfl ?_
                  refine e_iload dX5_takeOne_143 rfl ?_
                  refine e_iload_n dX5_takeOne_145 rfl rfl ?_
                  first | ((with_reducible refine mk_nn ?_); refine n_icmp_ge (tgt := 153) dX5_takeOne_146 (by decide) (by omega) (by omega) (fun h146 => ?_) (fun h146 => ?_)) | refine e_icmp_ge (tgt := 153) dX5_takeOne_146 (by decide) (fun h146 => ?_) (fun h146 => ?_)
                  · try first | contradiction | omega
                    all_goals
                      refine e_iconst (v := nI 0) dX5_takeOne_153 rfl ?_
                      refine ky_V2 (M' := mX5_goFurther) dX5_takeOne_154 ml_X5_114 ok_X5_goFurther (by decide) rfl im_X5_goFurther se_X5_goFurther (ct_gfN cm bd hK (by omega) (by omega) (by omega) (by omega)) (Nat.le_of_ble_eq_true rfl) (by decide) (Nat.le_of_ble_eq_true rfl) (fun fi ai hG hK => ?_)
                      have hF := FR1_tr hF hG
                      refine e_ret none rfl (r_void dX5_takeOne_157 rfl) ?_
                      refine kq rfl hF (K_eq hK ?_)
                      first | exact eE 0 (Or.inl ⟨rfl, by omega⟩) | exact eE 1 (Or.inr ⟨rfl, by omega⟩)
                  · try first | contradiction | omega
                    all_goals
                      refine e_iconst (v := nI 1) dX5_takeOne_149 rfl ?_
                      refine e_goto (tgt := 154) dX5_takeOne_150 (by decide) ?_
                      refine ky_V2 (M' := mX5_goFurther) dX5_takeOne_154 ml_X5_114 ok_X5_goFurther (by decide) rfl im_X5_goFurther se_X5_goFurther (ct_gfN cm bd hK (by omega) (by omega) (by omega) (by omega)) (Nat.le_of_ble_eq_true rfl) (by decide) (Nat.le_of_ble_eq_true rfl) (fun fi ai hG hK => ?_)
                      have hF := FR1_tr hF hG
                      refine e_ret none rfl (r_void dX5_takeOne_157 rfl) ?_
                      refine kq rfl hF (K_eq hK ?_)
                      first | exact eE 0 (Or.inl ⟨rfl, by omega⟩) | exact eE 1 (Or.inr ⟨rfl, by omega⟩)
              · try first | contradiction | omega | (simp only [decide_eq_true_eq, decide_eq_false_iff_not] at h120; omega)
                all_goals
                  contradiction
          refine e_swc (tgt := 99) 2 dX5_takeOne_56 (by decide) (by decide) rfl (by decide) (fun h56_1 => ?_) (fun h56_1 => ?_)
          · try first | contradiction | omega
            all_goals
              refine e_aload_n dX5_takeOne_99 rfl rfl ?_
              refine e_aload_n dX5_takeOne_100 rfl rfl ?_
              refine e_iload_n dX5_takeOne_101 rfl rfl ?_
              refine ky_V2 (M' := mX5_catchUpSome) dX5_takeOne_102 ml_X5_103 ok_X5_catchUpSome (by decide) rfl im_X5_catchUpSome se_X5_catchUpSome (ct_X5_catchUpSome cm ivS hK hmS (by omega)) (Nat.le_of_ble_eq_true rfl) (by decide) (Nat.le_of_ble_eq_true rfl) (fun fi ai hG hK => ?_)
              have hF := FR1_tr hF hG
              have bd := Bd_cat ivS (ch := w 2 / 2) hmS
              refine e_goto (tgt := 119) dX5_takeOne_105 (by decide) ?_
              refine e_iload_n dX5_takeOne_119 rfl rfl ?_
              first | ((with_reducible refine mk_b ?_); refine b_if_eq (tgt := 141) dX5_takeOne_120 (by decide) (fun h120 => ?_) (fun h120 => ?_)) | ((with_reducible refine mk_ll ?_); refine m_if_eq (tgt := 141) dX5_takeOne_120 (by decide) (by omega) (by omega) (fun h120 => ?_) (fun h120 => ?_)) | ((with_reducible refine mk_lc ?_); refine l_if_eq (tgt := 141) dX5_takeOne_120 (by decide) (fun h120 => ?_) (fun h120 => ?_)) | ((with_reducible refine mk_n ?_); refine n_if_eq (tgt := 141) dX5_takeOne_120 (by decide) (by omega) (fun h120 => ?_) (fun h120 => ?_)) | refine e_if_eq (tgt := 141) dX5_takeOne_120 (by decide) (fun h120 => ?_) (fun h120 => ?_)
              · try first | contradiction | omega | (simp only [decide_eq_true_eq, decide_eq_false_iff_not] at h120; omega)
                all_goals
                  refine e_aload_n dX5_takeOne_141 rfl rfl ?_
                  refine e_aload_n dX5_takeOne_142 rfl rfl ?_
                  refine e_iload dX5_takeOne_143 rfl ?_
                  refine e_iload_n dX5_takeOne_145 rfl rfl ?_
                  first | ((with_reducible refine mk_nn ?_); refine n_icmp_ge (tgt := 153) dX5_takeOne_146 (by decide) (by omega) (by omega) (fun h146 => ?_) (fun h146 => ?_)) | refine e_icmp_ge (tgt := 153) dX5_takeOne_146 (by decide) (fun h146 => ?_) (fun h146 => ?_)
                  · try first | contradiction | omega
                    all_goals
                      refine e_iconst (v := nI 0) dX5_takeOne_153 rfl ?_
                      refine ky_V2 (M' := mX5_goFurther) dX5_takeOne_154 ml_X5_114 ok_X5_goFurther (by decide) rfl im_X5_goFurther se_X5_goFurther (ct_gfN cm bd hK (by omega) (by omega) (by omega) (by omega)) (Nat.le_of_ble_eq_true rfl) (by decide) (Nat.le_of_ble_eq_true rfl) (fun fi ai hG hK => ?_)
                      have hF := FR1_tr hF hG
                      refine e_ret none rfl (r_void dX5_takeOne_157 rfl) ?_
                      refine kq rfl hF (K_eq hK ?_)
                      first | exact eE 0 (Or.inl ⟨rfl, by omega⟩) | exact eE 1 (Or.inr ⟨rfl, by omega⟩)
                  · try first | contradiction | omega
                    all_goals
                      refine e_iconst (v := nI 1) dX5_takeOne_149 rfl ?_
                      refine e_goto (tgt := 154) dX5_takeOne_150 (by decide) ?_
                      refine ky_V2 (M' := mX5_goFurther) dX5_takeOne_154 ml_X5_114 ok_X5_goFurther (by decide) rfl im_X5_goFurther se_X5_goFurther (ct_gfN cm bd hK (by omega) (by omega) (by omega) (by omega)) (Nat.le_of_ble_eq_true rfl) (by decide) (Nat.le_of_ble_eq_true rfl) (fun fi ai hG hK => ?_)
                      have hF := FR1_tr hF hG
                      refine e_ret none rfl (r_void dX5_takeOne_157 rfl) ?_
                      refine kq rfl hF (K_eq hK ?_)
                      first | exact eE 0 (Or.inl ⟨rfl, by omega⟩) | exact eE 1 (Or.inr ⟨rfl, by omega⟩)
              · try first | contradiction | omega | (simp only [decide_eq_true_eq, decide_eq_false_iff_not] at h120; omega)
                all_goals
                  contradiction
          refine e_swc (tgt := 119) 3 dX5_takeOne_56 (by decide) (by decide) rfl (by decide) (fun h56_2 => ?_) (fun h56_2 => ?_)
          · try first | contradiction | omega
            all_goals
              refine e_iload_n dX5_takeOne_119 rfl rfl ?_
              first | ((with_reducible refine mk_b ?_); refine b_if_eq (tgt := 141) dX5_takeOne_120 (by decide) (fun h120 => ?_) (fun h120 => ?_)) | ((with_reducible refine mk_ll ?_); refine m_if_eq (tgt := 141) dX5_takeOne_120 (by decide) (by omega) (by omega) (fun h120 => ?_) (fun h120 => ?_)) | ((with_reducible refine mk_lc ?_); refine l_if_eq (tgt := 141) dX5_takeOne_120 (by decide) (fun h120 => ?_) (fun h120 => ?_)) | ((with_reducible refine mk_n ?_); refine n_if_eq (tgt := 141) dX5_takeOne_120 (by decide) (by omega) (fun h120 => ?_) (fun h120 => ?_)) | refine e_if_eq (tgt := 141) dX5_takeOne_120 (by decide) (fun h120 => ?_) (fun h120 => ?_)
              · try first | contradiction | omega | (simp only [decide_eq_true_eq, decide_eq_false_iff_not] at h120; omega)
                all_goals
                  refine e_aload_n dX5_takeOne_141 rfl rfl ?_
                  refine e_aload_n dX5_takeOne_142 rfl rfl ?_
                  refine e_iload dX5_takeOne_143 rfl ?_
                  refine e_iload_n dX5_takeOne_145 rfl rfl ?_
                  first | ((with_reducible refine mk_nn ?_); refine n_icmp_ge (tgt := 153) dX5_takeOne_146 (by decide) (by omega) (by omega) (fun h146 => ?_) (fun h146 => ?_)) | refine e_icmp_ge (tgt := 153) dX5_takeOne_146 (by decide) (fun h146 => ?_) (fun h146 => ?_)
                  · try first | contradiction | omega
                    all_goals
                      refine e_iconst (v := nI 0) dX5_takeOne_153 rfl ?_
                      refine ky_V2 (M' := mX5_goFurther) dX5_takeOne_154 ml_X5_114 ok_X5_goFurther (by decide) rfl im_X5_goFurther se_X5_goFurther (ct_gfN cm bd hK (by omega) (by omega) (by omega) (by omega)) (Nat.le_of_ble_eq_true rfl) (by decide) (Nat.le_of_ble_eq_true rfl) (fun fi ai hG hK => ?_)
                      have hF := FR1_tr hF hG
                      refine e_ret none rfl (r_void dX5_takeOne_157 rfl) ?_
                      refine kq rfl hF (K_eq hK ?_)
                      first | exact eE 0 (Or.inl ⟨rfl, by omega⟩) | exact eE 1 (Or.inr ⟨rfl, by omega⟩)
                  · try first | contradiction | omega
                    all_goals
                      refine e_iconst (v := nI 1) dX5_takeOne_149 rfl ?_
                      refine e_goto (tgt := 154) dX5_takeOne_150 (by decide) ?_
                      refine ky_V2 (M' := mX5_goFurther) dX5_takeOne_154 ml_X5_114 ok_X5_goFurther (by decide) rfl im_X5_goFurther se_X5_goFurther (ct_gfN cm bd hK (by omega) (by omega) (by omega) (by omega)) (Nat.le_of_ble_eq_true rfl) (by decide) (Nat.le_of_ble_eq_true rfl) (fun fi ai hG hK => ?_)
                      have hF := FR1_tr hF hG
                      refine e_ret none rfl (r_void dX5_takeOne_157 rfl) ?_
                      refine kq rfl hF (K_eq hK ?_)
                      first | exact eE 0 (Or.inl ⟨rfl, by omega⟩) | exact eE 1 (Or.inr ⟨rfl, by omega⟩)
              · try first | contradiction | omega | (simp only [decide_eq_true_eq, decide_eq_false_iff_not] at h120; omega)
                all_goals
                  contradiction
          refine e_swc (tgt := 108) 4 dX5_takeOne_56 (by decide) (by decide) rfl (by decide) (fun h56_3 => ?_) (fun h56_3 => ?_)
          · try first | contradiction | omega
            all_goals
              refine e_aload_n dX5_takeOne_108 rfl rfl ?_
              refine e_aload_n dX5_takeOne_109 rfl rfl ?_
              refine e_iload_n dX5_takeOne_110 rfl rfl ?_
              refine kx_V2 (M' := mX5_cleanSome) dX5_takeOne_111 ml_X5_107 ok_X5_cleanSome (by decide) rfl im_X5_cleanSome se_X5_cleanSome (ct_X5_cleanSome cm ivS hK hmS (by omega)) (Nat.le_of_ble_eq_true rfl) (by decide) (Nat.le_of_ble_eq_true rfl) (fun fi ai hG hK => ?_)
              have hF := FR1_tr hF hG
              have bd := Bd_gov ivS (ch := w 2 / 2) (cl := true) hmS
              refine e_istore dX5_takeOne_114 (Nat.le_of_ble_eq_true rfl) rfl ?_
              refine e_goto (tgt := 119) dX5_takeOne_116 (by decide) ?_
              refine e_iload_n dX5_takeOne_119 rfl rfl ?_
              first | ((with_reducible refine mk_b ?_); refine b_if_eq (tgt := 141) dX5_takeOne_120 (by decide) (fun h120 => ?_) (fun h120 => ?_)) | ((with_reducible refine mk_ll ?_); refine m_if_eq (tgt := 141) dX5_takeOne_120 (by decide) (by omega) (by omega) (fun h120 => ?_) (fun h120 => ?_)) | ((with_reducible refine mk_lc ?_); refine l_if_eq (tgt := 141) dX5_takeOne_120 (by decide) (fun h120 => ?_) (fun h120 => ?_)) | ((with_reducible refine mk_n ?_); refine n_if_eq (tgt := 141) dX5_takeOne_120 (by decide) (by omega) (fun h120 => ?_) (fun h120 => ?_)) | refine e_if_eq (tgt := 141) dX5_takeOne_120 (by decide) (fun h120 => ?_) (fun h120 => ?_)
              · try first | contradiction | omega | (simp only [decide_eq_true_eq, decide_eq_false_iff_not] at h120; omega)
                all_goals
                  refine e_aload_n dX5_takeOne_141 rfl rfl ?_
                  refine e_aload_n dX5_takeOne_142 rfl rfl ?_
                  refine e_iload dX5_takeOne_143 rfl ?_
                  refine e_iload_n dX5_takeOne_145 rfl rfl ?_
                  first | ((with_reducible refine mk_nn ?_); refine n_icmp_ge (tgt := 153) dX5_takeOne_146 (by decide) (by omega) (by omega) (fun h146 => ?_) (fun h146 => ?_)) | refine e_icmp_ge (tgt := 153) dX5_takeOne_146 (by decide) (fun h146 => ?_) (fun h146 => ?_)
                  · try first | contradiction | omega
                    all_goals
                      refine e_iconst (v := nI 0) dX5_takeOne_153 rfl ?_
                      refine ky_V2 (M' := mX5_goFurther) dX5_takeOne_154 ml_X5_114 ok_X5_goFurther (by decide) rfl im_X5_goFurther se_X5_goFurther (ct_gfN cm bd hK (by omega) (by omega) (by omega) (by omega)) (Nat.le_of_ble_eq_true rfl) (by decide) (Nat.le_of_ble_eq_true rfl) (fun fi ai hG hK => ?_)
                      have hF := FR1_tr hF hG
                      refine e_ret none rfl (r_void dX5_takeOne_157 rfl) ?_
                      refine kq rfl hF (K_eq hK ?_)
                      first | exact eE 0 (Or.inl ⟨rfl, by omega⟩) | exact eE 1 (Or.inr ⟨rfl, by omega⟩)
                  · try first | contradiction | omega
                    all_goals
                      refine e_iconst (v := nI 1) dX5_takeOne_149 rfl ?_
                      refine e_goto (tgt := 154) dX5_takeOne_150 (by decide) ?_
                      refine ky_V2 (M' := mX5_goFurther) dX5_takeOne_154 ml_X5_114 ok_X5_goFurther (by decide) rfl im_X5_goFurther se_X5_goFurther (ct_gfN cm bd hK (by omega) (by omega) (by omega) (by omega)) (Nat.le_of_ble_eq_true rfl) (by decide) (Nat.le_of_ble_eq_true rfl) (fun fi ai hG hK => ?_)
                      have hF := FR1_tr hF hG
                      refine e_ret none rfl (r_void dX5_takeOne_157 rfl) ?_
                      refine kq rfl hF (K_eq hK ?_)
                      first | exact eE 0 (Or.inl ⟨rfl, by omega⟩) | exact eE 1 (Or.inr ⟨rfl, by omega⟩)
              · try first | contradiction | omega | (simp only [decide_eq_true_eq, decide_eq_false_iff_not] at h120; omega)
                all_goals
                  contradiction
          refine e_tableOut (tgt := 119) dX5_takeOne_56 (by omega) (by decide) ?_
          refine e_iload_n dX5_takeOne_119 rfl rfl ?_
          first | ((with_reducible refine mk_b ?_); refine b_if_eq (tgt := 141) dX5_takeOne_120 (by decide) (fun h120 => ?_) (fun h120 => ?_)) | ((with_reducible refine mk_ll ?_); refine m_if_eq (tgt := 141) dX5_takeOne_120 (by decide) (by omega) (by omega) (fun h120 => ?_) (fun h120 => ?_)) | ((with_reducible refine mk_lc ?_); refine l_if_eq (tgt := 141) dX5_takeOne_120 (by decide) (fun h120 => ?_) (fun h120 => ?_)) | ((with_reducible refine mk_n ?_); refine n_if_eq (tgt := 141) dX5_takeOne_120 (by decide) (by omega) (fun h120 => ?_) (fun h120 => ?_)) | refine e_if_eq (tgt := 141) dX5_takeOne_120 (by decide) (fun h120 => ?_) (fun h120 => ?_)
          · try first | contradiction | omega | (simp only [decide_eq_true_eq, decide_eq_false_iff_not] at h120; omega)
            all_goals
              refine e_aload_n dX5_takeOne_141 rfl rfl ?_
              refine e_aload_n dX5_takeOne_142 rfl rfl ?_
              refine e_iload dX5_takeOne_143 rfl ?_
              refine e_iload_n dX5_takeOne_145 rfl rfl ?_
              first | ((with_reducible refine mk_nn ?_); refine n_icmp_ge (tgt := 153) dX5_takeOne_146 (by decide) (by omega) (by omega) (fun h146 => ?_) (fun h146 => ?_)) | refine e_icmp_ge (tgt := 153) dX5_takeOne_146 (by decide) (fun h146 => ?_) (fun h146 => ?_)
              · try first | contradiction | omega
                all_goals
                  refine e_iconst (v := nI 0) dX5_takeOne_153 rfl ?_
                  refine ky_V2 (M' := mX5_goFurther) dX5_takeOne_154 ml_X5_114 ok_X5_goFurther (by decide) rfl im_X5_goFurther se_X5_goFurther (ct_gfN cm bd hK (by omega) (by omega) (by omega) (by omega)) (Nat.le_of_ble_eq_true rfl) (by decide) (Nat.le_of_ble_eq_true rfl) (fun fi ai hG hK => ?_)
                  have hF := FR1_tr hF hG
                  refine e_ret none rfl (r_void dX5_takeOne_157 rfl) ?_
                  refine kq rfl hF (K_eq hK ?_)
                  first | exact eE 0 (Or.inl ⟨rfl, by omega⟩) | exact eE 1 (Or.inr ⟨rfl, by omega⟩)
              · try first | contradiction | omega
                all_goals
                  refine e_iconst (v := nI 1) dX5_takeOne_149 rfl ?_
                  refine e_goto (tgt := 154) dX5_takeOne_150 (by decide) ?_
                  refine ky_V2 (M' := mX5_goFurther) dX5_takeOne_154 ml_X5_114 ok_X5_goFurther (by decide) rfl im_X5_goFurther se_X5_goFurther (ct_gfN cm bd hK (by omega) (by omega) (by omega) (by omega)) (Nat.le_of_ble_eq_true rfl) (by decide) (Nat.le_of_ble_eq_true rfl) (fun fi ai hG hK => ?_)
                  have hF := FR1_tr hF hG
                  refine e_ret none rfl (r_void dX5_takeOne_157 rfl) ?_
                  refine kq rfl hF (K_eq hK ?_)
                  first | exact eE 0 (Or.inl ⟨rfl, by omega⟩) | exact eE 1 (Or.inr ⟨rfl, by omega⟩)
          · try first | contradiction | omega | (simp only [decide_eq_true_eq, decide_eq_false_iff_not] at h120; omega)
            all_goals
              contradiction
      · try first | contradiction | omega | (simp only [decide_eq_true_eq, decide_eq_false_iff_not] at h26; omega)
        all_goals
          contradiction
    · have eL : sonL lg w m = lg := by unfold sonL; rw [if_neg ht, if_neg (by omega)]
      have e0 := o1 (Or.inr (by omega))
      rw [eL, e0, e1]
      have G3 : catW (so3 w m) m (w 2) 3 = w 3 := (cat_fr ivS hmS (by omega) (by omega) (by omega) (by omega)).trans S3
      have Gs : catW (so3 w m) m (w 2) (7694 + 72 * m + 0) = w (7694 + 72 * m + 0) := (cat_fr ivS hmS (by omega) (by omega) (by omega) (by omega)).trans St
      have eE : ∀ bb, gfW (catW (so3 w m) m (w 2)) m bb = steW (so3 w m) m := fun bb => by
        have := ste2 ivS (bb := bb) hmS (St.trans hs)
        rw [S2] at this
        exact this
      refine e_aload_n dX5_takeOne_0 rfl rfl ?_
      refine e_dup dX5_takeOne_1 rfl ?_
      refine e_getE dX5_takeOne_2 fl_X5_90 rfl (k_m10 hK (by first | omega | (simp (disch := omega) only [upN_n, upN_s]; omega))) ?_
      refine e_iconst (v := nI 1) dX5_takeOne_5 rfl ?_
      first | ((with_reducible refine mk_nn ?_); refine n_iadd dX5_takeOne_6 ?_) | refine e_iadd dX5_takeOne_6 ?_
      refine e_pm (f := 10) (dd := 9) dX5_takeOne_7 fl_X5_90 (by decide) rfl rfl rfl rfl rfl bd hK (by first | omega | (simp (disch := omega) only [upN_n, upN_s]; omega)) hF (fun fi hF hK => ?_)
      have bd := Bd_K bd hK (by omega)
      refine e_aload_n dX5_takeOne_10 rfl rfl ?_
      refine e_getR dX5_takeOne_11 fl_X5_15 rfl (cv_l cm) ?_
      refine e_bipush (v := nI 11) dX5_takeOne_14 rfl ?_
      refine e_iconst (v := nI 1) dX5_takeOne_16 rfl ?_
      refine ky_V2 (M' := mX3_add) dX5_takeOne_17 ml_X5_66 ok_X3_add (by decide) rfl im_X3_add se_X3_add (ct_X3_add cm bd hK (by omega)) (Nat.le_of_ble_eq_true rfl) (by decide) (Nat.le_of_ble_eq_true rfl) (fun fi ai hG hK => ?_)
      have hF := FR1_tr hF hG
      rw [eX] at hK
      have bd := bd2
      refine e_aload_n dX5_takeOne_20 rfl rfl ?_
      refine kx_V0 (M' := mX4_countDown) dX5_takeOne_21 ml_X5_93 ok_X4_countDown (by decide) rfl im_X4_countDown se_X4_countDown (ct_X4_countDown cm bd hK (by omega) (by omega)) (Nat.le_of_ble_eq_true rfl) (by decide) (Nat.le_of_ble_eq_true rfl) (fun fi ai hG hK => ?_)
      have hF := FR1_tr hF hG
      rw [s10] at hK
      rw [s10, hdt]
      change K _ _ (so3 w m) _ _ at hK
      have bd := bdS
      refine e_istore_n dX5_takeOne_24 rfl (Nat.le_of_ble_eq_true rfl) rfl ?_
      refine e_iload_n dX5_takeOne_25 rfl rfl ?_
      first | ((with_reducible refine mk_b ?_); refine b_if_eq (tgt := 41) dX5_takeOne_26 (by decide) (fun h26 => ?_) (fun h26 => ?_)) | ((with_reducible refine mk_ll ?_); refine m_if_eq (tgt := 41) dX5_takeOne_26 (by decide) (by omega) (by omega) (fun h26 => ?_) (fun h26 => ?_)) | ((with_reducible refine mk_lc ?_); refine l_if_eq (tgt := 41) dX5_takeOne_26 (by decide) (fun h26 => ?_) (fun h26 => ?_)) | ((with_reducible refine mk_n ?_); refine n_if_eq (tgt := 41) dX5_takeOne_26 (by decide) (by omega) (fun h26 => ?_) (fun h26 => ?_)) | refine e_if_eq (tgt := 41) dX5_takeOne_26 (by decide) (fun h26 => ?_) (fun h26 => ?_)
      · try first | contradiction | omega | (simp only [decide_eq_true_eq, decide_eq_false_iff_not] at h26; omega)
        all_goals
          refine e_aload_n dX5_takeOne_41 rfl rfl ?_
          refine e_getR dX5_takeOne_42 fl_X5_9 rfl (cv_w cm) ?_
          refine e_getE dX5_takeOne_45 fl_X5_96 rfl ((k_ch hK).trans (by rw [S2])) ?_
          refine e_istore_n dX5_takeOne_48 rfl (Nat.le_of_ble_eq_true rfl) rfl ?_
          refine e_iconst (v := nI 0) dX5_takeOne_49 rfl ?_
          refine e_istore dX5_takeOne_50 (Nat.le_of_ble_eq_true rfl) rfl ?_
          refine e_aload_n dX5_takeOne_52 rfl rfl ?_
          refine e_getE dX5_takeOne_53 fl_X5_87 rfl ((k_m2 hK hmS).trans (by rw [St])) ?_
          refine e_swc (tgt := 88) 1 dX5_takeOne_56 (by decide) (by decide) rfl (by decide) (fun h56_0 => ?_) (fun h56_0 => ?_)
          · try first | contradiction | omega
            all_goals
              refine e_aload_n dX5_takeOne_88 rfl rfl ?_
              refine e_aload_n dX5_takeOne_89 rfl rfl ?_
              refine e_iload_n dX5_takeOne_90 rfl rfl ?_
              refine kx_V2 (M' := mX5_copySome) dX5_takeOne_91 ml_X5_99 ok_X5_copySome (by decide) rfl im_X5_copySome se_X5_copySome (ct_X5_copySome cm ivS hK hmS (by omega)) (Nat.le_of_ble_eq_true rfl) (by decide) (Nat.le_of_ble_eq_true rfl) (fun fi ai hG hK => ?_)
              have hF := FR1_tr hF hG
              have bd := Bd_gov ivS (ch := w 2) (cl := false) hmS
              refine e_istore dX5_takeOne_94 (Nat.le_of_ble_eq_true rfl) rfl ?_
              refine e_goto (tgt := 119) dX5_takeOne_96 (by decide) ?_
              refine e_iload_n dX5_takeOne_119 rfl rfl ?_
              first | ((with_reducible refine mk_b ?_); refine b_if_eq (tgt := 141) dX5_takeOne_120 (by decide) (fun h120 => ?_) (fun h120 => ?_)) | ((with_reducible refine mk_ll ?_); refine m_if_eq (tgt := 141) dX5_takeOne_120 (by decide) (by omega) (by omega) (fun h120 => ?_) (fun h120 => ?_)) | ((with_reducible refine mk_lc ?_); refine l_if_eq (tgt := 141) dX5_takeOne_120 (by decide) (fun h120 => ?_) (fun h120 => ?_)) | ((with_reducible refine mk_n ?_); refine n_if_eq (tgt := 141) dX5_takeOne_120 (by decide) (by omega) (fun h120 => ?_) (fun h120 => ?_)) | refine e_if_eq (tgt := 141) dX5_takeOne_120 (by decide) (fun h120 => ?_) (fun h120 => ?_)
              · try first | contradiction | omega | (simp only [decide_eq_true_eq, decide_eq_false_iff_not] at h120; omega)
                all_goals
                  refine e_aload_n dX5_takeOne_141 rfl rfl ?_
                  refine e_aload_n dX5_takeOne_142 rfl rfl ?_
                  refine e_iload dX5_takeOne_143 rfl ?_
                  refine e_iload_n dX5_takeOne_145 rfl rfl ?_
                  first | ((with_reducible refine mk_nn ?_); refine n_icmp_ge (tgt := 153) dX5_takeOne_146 (by decide) (by omega) (by omega) (fun h146 => ?_) (fun h146 => ?_)) | refine e_icmp_ge (tgt := 153) dX5_takeOne_146 (by decide) (fun h146 => ?_) (fun h146 => ?_)
                  · try first | contradiction | omega
                    all_goals
                      refine e_iconst (v := nI 0) dX5_takeOne_153 rfl ?_
                      refine ky_V2 (M' := mX5_goFurther) dX5_takeOne_154 ml_X5_114 ok_X5_goFurther (by decide) rfl im_X5_goFurther se_X5_goFurther (ct_gfN cm bd hK (by omega) (by omega) (by omega) (by omega)) (Nat.le_of_ble_eq_true rfl) (by decide) (Nat.le_of_ble_eq_true rfl) (fun fi ai hG hK => ?_)
                      have hF := FR1_tr hF hG
                      refine e_ret none rfl (r_void dX5_takeOne_157 rfl) ?_
                      refine kq rfl hF (K_eq hK (eE _))
                  · try first | contradiction | omega
                    all_goals
                      refine e_iconst (v := nI 1) dX5_takeOne_149 rfl ?_
                      refine e_goto (tgt := 154) dX5_takeOne_150 (by decide) ?_
                      refine ky_V2 (M' := mX5_goFurther) dX5_takeOne_154 ml_X5_114 ok_X5_goFurther (by decide) rfl im_X5_goFurther se_X5_goFurther (ct_gfN cm bd hK (by omega) (by omega) (by omega) (by omega)) (Nat.le_of_ble_eq_true rfl) (by decide) (Nat.le_of_ble_eq_true rfl) (fun fi ai hG hK => ?_)
                      have hF := FR1_tr hF hG
                      refine e_ret none rfl (r_void dX5_takeOne_157 rfl) ?_
                      refine kq rfl hF (K_eq hK (eE _))
              · try first | contradiction | omega | (simp only [decide_eq_true_eq, decide_eq_false_iff_not] at h120; omega)
                all_goals
                  contradiction
          refine e_swc (tgt := 99) 2 dX5_takeOne_56 (by decide) (by decide) rfl (by decide) (fun h56_1 => ?_) (fun h56_1 => ?_)
          · try first | contradiction | omega
            all_goals
              refine e_aload_n dX5_takeOne_99 rfl rfl ?_
              refine e_aload_n dX5_takeOne_100 rfl rfl ?_
              refine e_iload_n dX5_takeOne_101 rfl rfl ?_
              refine ky_V2 (M' := mX5_catchUpSome) dX5_takeOne_102 ml_X5_103 ok_X5_catchUpSome (by decide) rfl im_X5_catchUpSome se_X5_catchUpSome (ct_X5_catchUpSome cm ivS hK hmS (by omega)) (Nat.le_of_ble_eq_true rfl) (by decide) (Nat.le_of_ble_eq_true rfl) (fun fi ai hG hK => ?_)
              have hF := FR1_tr hF hG
              have bd := Bd_cat ivS (ch := w 2) hmS
              refine e_goto (tgt := 119) dX5_takeOne_105 (by decide) ?_
              refine e_iload_n dX5_takeOne_119 rfl rfl ?_
              first | ((with_reducible refine mk_b ?_); refine b_if_eq (tgt := 141) dX5_takeOne_120 (by decide) (fun h120 => ?_) (fun h120 => ?_)) | ((with_reducible refine mk_ll ?_); refine m_if_eq (tgt := 141) dX5_takeOne_120 (by decide) (by omega) (by omega) (fun h120 => ?_) (fun h120 => ?_)) | ((with_reducible refine mk_lc ?_); refine l_if_eq (tgt := 141) dX5_takeOne_120 (by decide) (fun h120 => ?_) (fun h120 => ?_)) | ((with_reducible refine mk_n ?_); refine n_if_eq (tgt := 141) dX5_takeOne_120 (by decide) (by omega) (fun h120 => ?_) (fun h120 => ?_)) | refine e_if_eq (tgt := 141) dX5_takeOne_120 (by decide) (fun h120 => ?_) (fun h120 => ?_)
              · try first | contradiction | omega | (simp only [decide_eq_true_eq, decide_eq_false_iff_not] at h120; omega)
                all_goals
                  refine e_aload_n dX5_takeOne_141 rfl rfl ?_
                  refine e_aload_n dX5_takeOne_142 rfl rfl ?_
                  refine e_iload dX5_takeOne_143 rfl ?_
                  refine e_iload_n dX5_takeOne_145 rfl rfl ?_
                  first | ((with_reducible refine mk_nn ?_); refine n_icmp_ge (tgt := 153) dX5_takeOne_146 (by decide) (by omega) (by omega) (fun h146 => ?_) (fun h146 => ?_)) | refine e_icmp_ge (tgt := 153) dX5_takeOne_146 (by decide) (fun h146 => ?_) (fun h146 => ?_)
                  · try first | contradiction | omega
                    all_goals
                      refine e_iconst (v := nI 0) dX5_takeOne_153 rfl ?_
                      refine ky_V2 (M' := mX5_goFurther) dX5_takeOne_154 ml_X5_114 ok_X5_goFurther (by decide) rfl im_X5_goFurther se_X5_goFurther (ct_gfN cm bd hK (by omega) (by omega) (by omega) (by omega)) (Nat.le_of_ble_eq_true rfl) (by decide) (Nat.le_of_ble_eq_true rfl) (fun fi ai hG hK => ?_)
                      have hF := FR1_tr hF hG
                      refine e_ret none rfl (r_void dX5_takeOne_157 rfl) ?_
                      refine kq rfl hF (K_eq hK (eE _))
                  · try first | contradiction | omega
                    all_goals
                      refine e_iconst (v := nI 1) dX5_takeOne_149 rfl ?_
                      refine e_goto (tgt := 154) dX5_takeOne_150 (by decide) ?_
                      refine ky_V2 (M' := mX5_goFurther) dX5_takeOne_154 ml_X5_114 ok_X5_goFurther (by decide) rfl im_X5_goFurther se_X5_goFurther (ct_gfN cm bd hK (by omega) (by omega) (by omega) (by omega)) (Nat.le_of_ble_eq_true rfl) (by decide) (Nat.le_of_ble_eq_true rfl) (fun fi ai hG hK => ?_)
                      have hF := FR1_tr hF hG
                      refine e_ret none rfl (r_void dX5_takeOne_157 rfl) ?_
                      refine kq rfl hF (K_eq hK (eE _))
              · try first | contradiction | omega | (simp only [decide_eq_true_eq, decide_eq_false_iff_not] at h120; omega)
                all_goals
                  contradiction
          refine e_swc (tgt := 119) 3 dX5_takeOne_56 (by decide) (by decide) rfl (by decide) (fun h56_2 => ?_) (fun h56_2 => ?_)
          · try first | contradiction | omega
            all_goals
              refine e_iload_n dX5_takeOne_119 rfl rfl ?_
              first | ((with_reducible refine mk_b ?_); refine b_if_eq (tgt := 141) dX5_takeOne_120 (by decide) (fun h120 => ?_) (fun h120 => ?_)) | ((with_reducible refine mk_ll ?_); refine m_if_eq (tgt := 141) dX5_takeOne_120 (by decide) (by omega) (by omega) (fun h120 => ?_) (fun h120 => ?_)) | ((with_reducible refine mk_lc ?_); refine l_if_eq (tgt := 141) dX5_takeOne_120 (by decide) (fun h120 => ?_) (fun h120 => ?_)) | ((with_reducible refine mk_n ?_); refine n_if_eq (tgt := 141) dX5_takeOne_120 (by decide) (by omega) (fun h120 => ?_) (fun h120 => ?_)) | refine e_if_eq (tgt := 141) dX5_takeOne_120 (by decide) (fun h120 => ?_) (fun h120 => ?_)
              · try first | contradiction | omega | (simp only [decide_eq_true_eq, decide_eq_false_iff_not] at h120; omega)
                all_goals
                  refine e_aload_n dX5_takeOne_141 rfl rfl ?_
                  refine e_aload_n dX5_takeOne_142 rfl rfl ?_
                  refine e_iload dX5_takeOne_143 rfl ?_
                  refine e_iload_n dX5_takeOne_145 rfl rfl ?_
                  first | ((with_reducible refine mk_nn ?_); refine n_icmp_ge (tgt := 153) dX5_takeOne_146 (by decide) (by omega) (by omega) (fun h146 => ?_) (fun h146 => ?_)) | refine e_icmp_ge (tgt := 153) dX5_takeOne_146 (by decide) (fun h146 => ?_) (fun h146 => ?_)
                  · try first | contradiction | omega
                    all_goals
                      refine e_iconst (v := nI 0) dX5_takeOne_153 rfl ?_
                      refine ky_V2 (M' := mX5_goFurther) dX5_takeOne_154 ml_X5_114 ok_X5_goFurther (by decide) rfl im_X5_goFurther se_X5_goFurther (ct_gfN cm bd hK (by omega) (by omega) (by omega) (by omega)) (Nat.le_of_ble_eq_true rfl) (by decide) (Nat.le_of_ble_eq_true rfl) (fun fi ai hG hK => ?_)
                      have hF := FR1_tr hF hG
                      refine e_ret none rfl (r_void dX5_takeOne_157 rfl) ?_
                      refine kq rfl hF (K_eq hK (eE _))
                  · try first | contradiction | omega
                    all_goals
                      refine e_iconst (v := nI 1) dX5_takeOne_149 rfl ?_
                      refine e_goto (tgt := 154) dX5_takeOne_150 (by decide) ?_
                      refine ky_V2 (M' := mX5_goFurther) dX5_takeOne_154 ml_X5_114 ok_X5_goFurther (by decide) rfl im_X5_goFurther se_X5_goFurther (ct_gfN cm bd hK (by omega) (by omega) (by omega) (by omega)) (Nat.le_of_ble_eq_true rfl) (by decide) (Nat.le_of_ble_eq_true rfl) (fun fi ai hG hK => ?_)
                      have hF := FR1_tr hF hG
                      refine e_ret none rfl (r_void dX5_takeOne_157 rfl) ?_
                      refine kq rfl hF (K_eq hK (eE _))
              · try first | contradiction | omega | (simp only [decide_eq_true_eq, decide_eq_false_iff_not] at h120; omega)
                all_goals
                  contradiction
          refine e_swc (tgt := 108) 4 dX5_takeOne_56 (by decide) (by decide) rfl (by decide) (fun h56_3 => ?_) (fun h56_3 => ?_)
          · try first | contradiction | omega
            all_goals
              refine e_aload_n dX5_takeOne_108 rfl rfl ?_
              refine e_aload_n dX5_takeOne_109 rfl rfl ?_
              refine e_iload_n dX5_takeOne_110 rfl rfl ?_
              refine kx_V2 (M' := mX5_cleanSome) dX5_takeOne_111 ml_X5_107 ok_X5_cleanSome (by decide) rfl im_X5_cleanSome se_X5_cleanSome (ct_X5_cleanSome cm ivS hK hmS (by omega)) (Nat.le_of_ble_eq_true rfl) (by decide) (Nat.le_of_ble_eq_true rfl) (fun fi ai hG hK => ?_)
              have hF := FR1_tr hF hG
              have bd := Bd_gov ivS (ch := w 2 / 2) (cl := true) hmS
              refine e_istore dX5_takeOne_114 (Nat.le_of_ble_eq_true rfl) rfl ?_
              refine e_goto (tgt := 119) dX5_takeOne_116 (by decide) ?_
              refine e_iload_n dX5_takeOne_119 rfl rfl ?_
              first | ((with_reducible refine mk_b ?_); refine b_if_eq (tgt := 141) dX5_takeOne_120 (by decide) (fun h120 => ?_) (fun h120 => ?_)) | ((with_reducible refine mk_ll ?_); refine m_if_eq (tgt := 141) dX5_takeOne_120 (by decide) (by omega) (by omega) (fun h120 => ?_) (fun h120 => ?_)) | ((with_reducible refine mk_lc ?_); refine l_if_eq (tgt := 141) dX5_takeOne_120 (by decide) (fun h120 => ?_) (fun h120 => ?_)) | ((with_reducible refine mk_n ?_); refine n_if_eq (tgt := 141) dX5_takeOne_120 (by decide) (by omega) (fun h120 => ?_) (fun h120 => ?_)) | refine e_if_eq (tgt := 141) dX5_takeOne_120 (by decide) (fun h120 => ?_) (fun h120 => ?_)
              · try first | contradiction | omega | (simp only [decide_eq_true_eq, decide_eq_false_iff_not] at h120; omega)
                all_goals
                  refine e_aload_n dX5_takeOne_141 rfl rfl ?_
                  refine e_aload_n dX5_takeOne_142 rfl rfl ?_
                  refine e_iload dX5_takeOne_143 rfl ?_
                  refine e_iload_n dX5_takeOne_145 rfl rfl ?_
                  first | ((with_reducible refine mk_nn ?_); refine n_icmp_ge (tgt := 153) dX5_takeOne_146 (by decide) (by omega) (by omega) (fun h146 => ?_) (fun h146 => ?_)) | refine e_icmp_ge (tgt := 153) dX5_takeOne_146 (by decide) (fun h146 => ?_) (fun h146 => ?_)
                  · try first | contradiction | omega
                    all_goals
                      refine e_iconst (v := nI 0) dX5_takeOne_153 rfl ?_
                      refine ky_V2 (M' := mX5_goFurther) dX5_takeOne_154 ml_X5_114 ok_X5_goFurther (by decide) rfl im_X5_goFurther se_X5_goFurther (ct_gfN cm bd hK (by omega) (by omega) (by omega) (by omega)) (Nat.le_of_ble_eq_true rfl) (by decide) (Nat.le_of_ble_eq_true rfl) (fun fi ai hG hK => ?_)
                      have hF := FR1_tr hF hG
                      refine e_ret none rfl (r_void dX5_takeOne_157 rfl) ?_
                      refine kq rfl hF (K_eq hK (eE _))
                  · try first | contradiction | omega
                    all_goals
                      refine e_iconst (v := nI 1) dX5_takeOne_149 rfl ?_
                      refine e_goto (tgt := 154) dX5_takeOne_150 (by decide) ?_
                      refine ky_V2 (M' := mX5_goFurther) dX5_takeOne_154 ml_X5_114 ok_X5_goFurther (by decide) rfl im_X5_goFurther se_X5_goFurther (ct_gfN cm bd hK (by omega) (by omega) (by omega) (by omega)) (Nat.le_of_ble_eq_true rfl) (by decide) (Nat.le_of_ble_eq_true rfl) (fun fi ai hG hK => ?_)
                      have hF := FR1_tr hF hG
                      refine e_ret none rfl (r_void dX5_takeOne_157 rfl) ?_
                      refine kq rfl hF (K_eq hK (eE _))
              · try first | contradiction | omega | (simp only [decide_eq_true_eq, decide_eq_false_iff_not] at h120; omega)
                all_goals
                  contradiction
          refine e_tableOut (tgt := 119) dX5_takeOne_56 (by omega) (by decide) ?_
          refine e_iload_n dX5_takeOne_119 rfl rfl ?_
          first | ((with_reducible refine mk_b ?_); refine b_if_eq (tgt := 141) dX5_takeOne_120 (by decide) (fun h120 => ?_) (fun h120 => ?_)) | ((with_reducible refine mk_ll ?_); refine m_if_eq (tgt := 141) dX5_takeOne_120 (by decide) (by omega) (by omega) (fun h120 => ?_) (fun h120 => ?_)) | ((with_reducible refine mk_lc ?_); refine l_if_eq (tgt := 141) dX5_takeOne_120 (by decide) (fun h120 => ?_) (fun h120 => ?_)) | ((with_reducible refine mk_n ?_); refine n_if_eq (tgt := 141) dX5_takeOne_120 (by decide) (by omega) (fun h120 => ?_) (fun h120 => ?_)) | refine e_if_eq (tgt := 141) dX5_takeOne_120 (by decide) (fun h120 => ?_) (fun h120 => ?_)
          · try first | contradiction | omega | (simp only [decide_eq_true_eq, decide_eq_false_iff_not] at h120; omega)
            all_goals
              refine e_aload_n dX5_takeOne_141 rfl rfl ?_
              refine e_aload_n dX5_takeOne_142 rfl rfl ?_
              refine e_iload dX5_takeOne_143 rfl ?_
              refine e_iload_n dX5_takeOne_145 rfl rfl ?_
              first | ((with_reducible refine mk_nn ?_); refine n_icmp_ge (tgt := 153) dX5_takeOne_146 (by decide) (by omega) (by omega) (fun h146 => ?_) (fun h146 => ?_)) | refine e_icmp_ge (tgt := 153) dX5_takeOne_146 (by decide) (fun h146 => ?_) (fun h146 => ?_)
              · try first | contradiction | omega
                all_goals
                  refine e_iconst (v := nI 0) dX5_takeOne_153 rfl ?_
                  refine ky_V2 (M' := mX5_goFurther) dX5_takeOne_154 ml_X5_114 ok_X5_goFurther (by decide) rfl im_X5_goFurther se_X5_goFurther (ct_gfN cm bd hK (by omega) (by omega) (by omega) (by omega)) (Nat.le_of_ble_eq_true rfl) (by decide) (Nat.le_of_ble_eq_true rfl) (fun fi ai hG hK => ?_)
                  have hF := FR1_tr hF hG
                  refine e_ret none rfl (r_void dX5_takeOne_157 rfl) ?_
                  refine kq rfl hF (K_eq hK (eE _))
              · try first | contradiction | omega
                all_goals
                  refine e_iconst (v := nI 1) dX5_takeOne_149 rfl ?_
                  refine e_goto (tgt := 154) dX5_takeOne_150 (by decide) ?_
                  refine ky_V2 (M' := mX5_goFurther) dX5_takeOne_154 ml_X5_114 ok_X5_goFurther (by decide) rfl im_X5_goFurther se_X5_goFurther (ct_gfN cm bd hK (by omega) (by omega) (by omega) (by omega)) (Nat.le_of_ble_eq_true rfl) (by decide) (Nat.le_of_ble_eq_true rfl) (fun fi ai hG hK => ?_)
                  have hF := FR1_tr hF hG
                  refine e_ret none rfl (r_void dX5_takeOne_157 rfl) ?_
                  refine kq rfl hF (K_eq hK (eE _))
          · try first | contradiction | omega | (simp only [decide_eq_true_eq, decide_eq_false_iff_not] at h120; omega)
            all_goals
              contradiction
      · try first | contradiction | omega | (simp only [decide_eq_true_eq, decide_eq_false_iff_not] at h26; omega)
        all_goals
          contradiction
    · have eL : sonL lg w m = lgN lg (w 0 + 1) 3 (w (7694 + 72 * m + 1)) (w (7694 + 72 * m + 4)) := by unfold sonL; rw [if_neg ht, if_pos hs]
      have e0 := o2 ht hs
      have eE : steW (so3 w m) m = swiW (so3 w m) m := by unfold steW; rw [St, if_neg (by omega), if_neg (by omega), if_pos hs]
      rw [eL, e0, e1, eE]
      refine e_aload_n dX5_takeOne_0 rfl rfl ?_
      refine e_dup dX5_takeOne_1 rfl ?_
      refine e_getE dX5_takeOne_2 fl_X5_90 rfl (k_m10 hK (by first | omega | (simp (disch := omega) only [upN_n, upN_s]; omega))) ?_
      refine e_iconst (v := nI 1) dX5_takeOne_5 rfl ?_
      first | ((with_reducible refine mk_nn ?_); refine n_iadd dX5_takeOne_6 ?_) | refine e_iadd dX5_takeOne_6 ?_
      refine e_pm (f := 10) (dd := 9) dX5_takeOne_7 fl_X5_90 (by decide) rfl rfl rfl rfl rfl bd hK (by first | omega | (simp (disch := omega) only [upN_n, upN_s]; omega)) hF (fun fi hF hK => ?_)
      have bd := Bd_K bd hK (by omega)
      refine e_aload_n dX5_takeOne_10 rfl rfl ?_
      refine e_getR dX5_takeOne_11 fl_X5_15 rfl (cv_l cm) ?_
      refine e_bipush (v := nI 11) dX5_takeOne_14 rfl ?_
      refine e_iconst (v := nI 1) dX5_takeOne_16 rfl ?_
      refine ky_V2 (M' := mX3_add) dX5_takeOne_17 ml_X5_66 ok_X3_add (by decide) rfl im_X3_add se_X3_add (ct_X3_add cm bd hK (by omega)) (Nat.le_of_ble_eq_true rfl) (by decide) (Nat.le_of_ble_eq_true rfl) (fun fi ai hG hK => ?_)
      have hF := FR1_tr hF hG
      rw [eX] at hK
      have bd := bd2
      refine e_aload_n dX5_takeOne_20 rfl rfl ?_
      refine kx_V0 (M' := mX4_countDown) dX5_takeOne_21 ml_X5_93 ok_X4_countDown (by decide) rfl im_X4_countDown se_X4_countDown (ct_X4_countDown cm bd hK (by omega) (by omega)) (Nat.le_of_ble_eq_true rfl) (by decide) (Nat.le_of_ble_eq_true rfl) (fun fi ai hG hK => ?_)
      have hF := FR1_tr hF hG
      rw [s10] at hK
      rw [s10, hdt]
      change K _ _ (so3 w m) _ _ at hK
      have bd := bdS
      refine e_istore_n dX5_takeOne_24 rfl (Nat.le_of_ble_eq_true rfl) rfl ?_
      refine e_iload_n dX5_takeOne_25 rfl rfl ?_
      first | ((with_reducible refine mk_b ?_); refine b_if_eq (tgt := 41) dX5_takeOne_26 (by decide) (fun h26 => ?_) (fun h26 => ?_)) | ((with_reducible refine mk_ll ?_); refine m_if_eq (tgt := 41) dX5_takeOne_26 (by decide) (by omega) (by omega) (fun h26 => ?_) (fun h26 => ?_)) | ((with_reducible refine mk_lc ?_); refine l_if_eq (tgt := 41) dX5_takeOne_26 (by decide) (fun h26 => ?_) (fun h26 => ?_)) | ((with_reducible refine mk_n ?_); refine n_if_eq (tgt := 41) dX5_takeOne_26 (by decide) (by omega) (fun h26 => ?_) (fun h26 => ?_)) | refine e_if_eq (tgt := 41) dX5_takeOne_26 (by decide) (fun h26 => ?_) (fun h26 => ?_)
      · try first | contradiction | omega | (simp only [decide_eq_true_eq, decide_eq_false_iff_not] at h26; omega)
        all_goals
          refine e_aload_n dX5_takeOne_41 rfl rfl ?_
          refine e_getR dX5_takeOne_42 fl_X5_9 rfl (cv_w cm) ?_
          refine e_getE dX5_takeOne_45 fl_X5_96 rfl ((k_ch hK).trans (by rw [S2])) ?_
          refine e_istore_n dX5_takeOne_48 rfl (Nat.le_of_ble_eq_true rfl) rfl ?_
          refine e_iconst (v := nI 0) dX5_takeOne_49 rfl ?_
          refine e_istore dX5_takeOne_50 (Nat.le_of_ble_eq_true rfl) rfl ?_
          refine e_aload_n dX5_takeOne_52 rfl rfl ?_
          refine e_getE dX5_takeOne_53 fl_X5_87 rfl ((k_m2 hK hmS).trans (by rw [St])) ?_
          refine e_swc (tgt := 88) 1 dX5_takeOne_56 (by decide) (by decide) rfl (by decide) (fun h56_0 => ?_) (fun h56_0 => ?_)
          · try first | contradiction | omega
            all_goals
              refine e_aload_n dX5_takeOne_88 rfl rfl ?_
              refine e_aload_n dX5_takeOne_89 rfl rfl ?_
              refine e_iload_n dX5_takeOne_90 rfl rfl ?_
              refine kx_V2 (M' := mX5_copySome) dX5_takeOne_91 ml_X5_99 ok_X5_copySome (by decide) rfl im_X5_copySome se_X5_copySome (ct_X5_copySome cm ivS hK hmS (by omega)) (Nat.le_of_ble_eq_true rfl) (by decide) (Nat.le_of_ble_eq_true rfl) (fun fi ai hG hK => ?_)
              have hF := FR1_tr hF hG
              have bd := Bd_gov ivS (ch := w 2) (cl := false) hmS
              refine e_istore dX5_takeOne_94 (Nat.le_of_ble_eq_true rfl) rfl ?_
              refine e_goto (tgt := 119) dX5_takeOne_96 (by decide) ?_
              refine e_iload_n dX5_takeOne_119 rfl rfl ?_
              first | ((with_reducible refine mk_b ?_); refine b_if_eq (tgt := 141) dX5_takeOne_120 (by decide) (fun h120 => ?_) (fun h120 => ?_)) | ((with_reducible refine mk_ll ?_); refine m_if_eq (tgt := 141) dX5_takeOne_120 (by decide) (by omega) (by omega) (fun h120 => ?_) (fun h120 => ?_)) | ((with_reducible refine mk_lc ?_); refine l_if_eq (tgt := 141) dX5_takeOne_120 (by decide) (fun h120 => ?_) (fun h120 => ?_)) | ((with_reducible refine mk_n ?_); refine n_if_eq (tgt := 141) dX5_takeOne_120 (by decide) (by omega) (fun h120 => ?_) (fun h120 => ?_)) | refine e_if_eq (tgt := 141) dX5_takeOne_120 (by decide) (fun h120 => ?_) (fun h120 => ?_)
              · try first | contradiction | omega | (simp only [decide_eq_true_eq, decide_eq_false_iff_not] at h120; omega)
                all_goals
                  refine e_aload_n dX5_takeOne_141 rfl rfl ?_
                  refine e_aload_n dX5_takeOne_142 rfl rfl ?_
                  refine e_iload dX5_takeOne_143 rfl ?_
                  refine e_iload_n dX5_takeOne_145 rfl rfl ?_
                  first | ((with_reducible refine mk_nn ?_); refine n_icmp_ge (tgt := 153) dX5_takeOne_146 (by decide) (by omega) (by omega) (fun h146 => ?_) (fun h146 => ?_)) | refine e_icmp_ge (tgt := 153) dX5_takeOne_146 (by decide) (fun h146 => ?_) (fun h146 => ?_)
                  · try first | contradiction | omega
                    all_goals
                      refine e_iconst (v := nI 0) dX5_takeOne_153 rfl ?_
                      refine ky_V2 (M' := mX5_goFurther) dX5_takeOne_154 ml_X5_114 ok_X5_goFurther (by decide) rfl im_X5_goFurther se_X5_goFurther (ct_gf3 cm ivS i2S (K_E hK S0.symm) hmS (by omega) (by omega) (by omega)) (Nat.le_of_ble_eq_true rfl) (by decide) (Nat.le_of_ble_eq_true rfl) (fun fi ai hG hK => ?_)
                      have hF := FR1_tr hF hG
                      rw [S0, S (7694 + 72 * m + 1) (by omega) (by omega) (by omega), S (7694 + 72 * m + 4) (by omega) (by omega) (by omega)] at hK
                      refine e_ret none rfl (r_void dX5_takeOne_157 rfl) ?_
                      exact kq rfl hF hK
                  · try first | contradiction | omega
                    all_goals
                      refine e_iconst (v := nI 1) dX5_takeOne_149 rfl ?_
                      refine e_goto (tgt := 154) dX5_takeOne_150 (by decide) ?_
                      refine ky_V2 (M' := mX5_goFurther) dX5_takeOne_154 ml_X5_114 ok_X5_goFurther (by decide) rfl im_X5_goFurther se_X5_goFurther (ct_gf3 cm ivS i2S (K_E hK S0.symm) hmS (by omega) (by omega) (by omega)) (Nat.le_of_ble_eq_true rfl) (by decide) (Nat.le_of_ble_eq_true rfl) (fun fi ai hG hK => ?_)
                      have hF := FR1_tr hF hG
                      rw [S0, S (7694 + 72 * m + 1) (by omega) (by omega) (by omega), S (7694 + 72 * m + 4) (by omega) (by omega) (by omega)] at hK
                      refine e_ret none rfl (r_void dX5_takeOne_157 rfl) ?_
                      exact kq rfl hF hK
              · try first | contradiction | omega | (simp only [decide_eq_true_eq, decide_eq_false_iff_not] at h120; omega)
                all_goals
                  contradiction
          refine e_swc (tgt := 99) 2 dX5_takeOne_56 (by decide) (by decide) rfl (by decide) (fun h56_1 => ?_) (fun h56_1 => ?_)
          · try first | contradiction | omega
            all_goals
              refine e_aload_n dX5_takeOne_99 rfl rfl ?_
              refine e_aload_n dX5_takeOne_100 rfl rfl ?_
              refine e_iload_n dX5_takeOne_101 rfl rfl ?_
              refine ky_V2 (M' := mX5_catchUpSome) dX5_takeOne_102 ml_X5_103 ok_X5_catchUpSome (by decide) rfl im_X5_catchUpSome se_X5_catchUpSome (ct_X5_catchUpSome cm ivS hK hmS (by omega)) (Nat.le_of_ble_eq_true rfl) (by decide) (Nat.le_of_ble_eq_true rfl) (fun fi ai hG hK => ?_)
              have hF := FR1_tr hF hG
              have bd := Bd_cat ivS (ch := w 2) hmS
              refine e_goto (tgt := 119) dX5_takeOne_105 (by decide) ?_
              refine e_iload_n dX5_takeOne_119 rfl rfl ?_
              first | ((with_reducible refine mk_b ?_); refine b_if_eq (tgt := 141) dX5_takeOne_120 (by decide) (fun h120 => ?_) (fun h120 => ?_)) | ((with_reducible refine mk_ll ?_); refine m_if_eq (tgt := 141) dX5_takeOne_120 (by decide) (by omega) (by omega) (fun h120 => ?_) (fun h120 => ?_)) | ((with_reducible refine mk_lc ?_); refine l_if_eq (tgt := 141) dX5_takeOne_120 (by decide) (fun h120 => ?_) (fun h120 => ?_)) | ((with_reducible refine mk_n ?_); refine n_if_eq (tgt := 141) dX5_takeOne_120 (by decide) (by omega) (fun h120 => ?_) (fun h120 => ?_)) | refine e_if_eq (tgt := 141) dX5_takeOne_120 (by decide) (fun h120 => ?_) (fun h120 => ?_)
              · try first | contradiction | omega | (simp only [decide_eq_true_eq, decide_eq_false_iff_not] at h120; omega)
                all_goals
                  refine e_aload_n dX5_takeOne_141 rfl rfl ?_
                  refine e_aload_n dX5_takeOne_142 rfl rfl ?_
                  refine e_iload dX5_takeOne_143 rfl ?_
                  refine e_iload_n dX5_takeOne_145 rfl rfl ?_
                  first | ((with_reducible refine mk_nn ?_); refine n_icmp_ge (tgt := 153) dX5_takeOne_146 (by decide) (by omega) (by omega) (fun h146 => ?_) (fun h146 => ?_)) | refine e_icmp_ge (tgt := 153) dX5_takeOne_146 (by decide) (fun h146 => ?_) (fun h146 => ?_)
                  · try first | contradiction | omega
                    all_goals
                      refine e_iconst (v := nI 0) dX5_takeOne_153 rfl ?_
                      refine ky_V2 (M' := mX5_goFurther) dX5_takeOne_154 ml_X5_114 ok_X5_goFurther (by decide) rfl im_X5_goFurther se_X5_goFurther (ct_gf3 cm ivS i2S (K_E hK S0.symm) hmS (by omega) (by omega) (by omega)) (Nat.le_of_ble_eq_true rfl) (by decide) (Nat.le_of_ble_eq_true rfl) (fun fi ai hG hK => ?_)
                      have hF := FR1_tr hF hG
                      rw [S0, S (7694 + 72 * m + 1) (by omega) (by omega) (by omega), S (7694 + 72 * m + 4) (by omega) (by omega) (by omega)] at hK
                      refine e_ret none rfl (r_void dX5_takeOne_157 rfl) ?_
                      exact kq rfl hF hK
                  · try first | contradiction | omega
                    all_goals
                      refine e_iconst (v := nI 1) dX5_takeOne_149 rfl ?_
                      refine e_goto (tgt := 154) dX5_takeOne_150 (by decide) ?_
                      refine ky_V2 (M' := mX5_goFurther) dX5_takeOne_154 ml_X5_114 ok_X5_goFurther (by decide) rfl im_X5_goFurther se_X5_goFurther (ct_gf3 cm ivS i2S (K_E hK S0.symm) hmS (by omega) (by omega) (by omega)) (Nat.le_of_ble_eq_true rfl) (by decide) (Nat.le_of_ble_eq_true rfl) (fun fi ai hG hK => ?_)
                      have hF := FR1_tr hF hG
                      rw [S0, S (7694 + 72 * m + 1) (by omega) (by omega) (by omega), S (7694 + 72 * m + 4) (by omega) (by omega) (by omega)] at hK
                      refine e_ret none rfl (r_void dX5_takeOne_157 rfl) ?_
                      exact kq rfl hF hK
              · try first | contradiction | omega | (simp only [decide_eq_true_eq, decide_eq_false_iff_not] at h120; omega)
                all_goals
                  contradiction
          refine e_swc (tgt := 119) 3 dX5_takeOne_56 (by decide) (by decide) rfl (by decide) (fun h56_2 => ?_) (fun h56_2 => ?_)
          · try first | contradiction | omega
            all_goals
              refine e_iload_n dX5_takeOne_119 rfl rfl ?_
              first | ((with_reducible refine mk_b ?_); refine b_if_eq (tgt := 141) dX5_takeOne_120 (by decide) (fun h120 => ?_) (fun h120 => ?_)) | ((with_reducible refine mk_ll ?_); refine m_if_eq (tgt := 141) dX5_takeOne_120 (by decide) (by omega) (by omega) (fun h120 => ?_) (fun h120 => ?_)) | ((with_reducible refine mk_lc ?_); refine l_if_eq (tgt := 141) dX5_takeOne_120 (by decide) (fun h120 => ?_) (fun h120 => ?_)) | ((with_reducible refine mk_n ?_); refine n_if_eq (tgt := 141) dX5_takeOne_120 (by decide) (by omega) (fun h120 => ?_) (fun h120 => ?_)) | refine e_if_eq (tgt := 141) dX5_takeOne_120 (by decide) (fun h120 => ?_) (fun h120 => ?_)
              · try first | contradiction | omega | (simp only [decide_eq_true_eq, decide_eq_false_iff_not] at h120; omega)
                all_goals
                  refine e_aload_n dX5_takeOne_141 rfl rfl ?_
                  refine e_aload_n dX5_takeOne_142 rfl rfl ?_
                  refine e_iload dX5_takeOne_143 rfl ?_
                  refine e_iload_n dX5_takeOne_145 rfl rfl ?_
                  first | ((with_reducible refine mk_nn ?_); refine n_icmp_ge (tgt := 153) dX5_takeOne_146 (by decide) (by omega) (by omega) (fun h146 => ?_) (fun h146 => ?_)) | refine e_icmp_ge (tgt := 153) dX5_takeOne_146 (by decide) (fun h146 => ?_) (fun h146 => ?_)
                  · try first | contradiction | omega
                    all_goals
                      refine e_iconst (v := nI 0) dX5_takeOne_153 rfl ?_
                      refine ky_V2 (M' := mX5_goFurther) dX5_takeOne_154 ml_X5_114 ok_X5_goFurther (by decide) rfl im_X5_goFurther se_X5_goFurther (ct_gf3 cm ivS i2S (K_E hK S0.symm) hmS (by omega) (by omega) (by omega)) (Nat.le_of_ble_eq_true rfl) (by decide) (Nat.le_of_ble_eq_true rfl) (fun fi ai hG hK => ?_)
                      have hF := FR1_tr hF hG
                      rw [S0, S (7694 + 72 * m + 1) (by omega) (by omega) (by omega), S (7694 + 72 * m + 4) (by omega) (by omega) (by omega)] at hK
                      refine e_ret none rfl (r_void dX5_takeOne_157 rfl) ?_
                      exact kq rfl hF hK
                  · try first | contradiction | omega
                    all_goals
                      refine e_iconst (v := nI 1) dX5_takeOne_149 rfl ?_
                      refine e_goto (tgt := 154) dX5_takeOne_150 (by decide) ?_
                      refine ky_V2 (M' := mX5_goFurther) dX5_takeOne_154 ml_X5_114 ok_X5_goFurther (by decide) rfl im_X5_goFurther se_X5_goFurther (ct_gf3 cm ivS i2S (K_E hK S0.symm) hmS (by omega) (by omega) (by omega)) (Nat.le_of_ble_eq_true rfl) (by decide) (Nat.le_of_ble_eq_true rfl) (fun fi ai hG hK => ?_)
                      have hF := FR1_tr hF hG
                      rw [S0, S (7694 + 72 * m + 1) (by omega) (by omega) (by omega), S (7694 + 72 * m + 4) (by omega) (by omega) (by omega)] at hK
                      refine e_ret none rfl (r_void dX5_takeOne_157 rfl) ?_
                      exact kq rfl hF hK
              · try first | contradiction | omega | (simp only [decide_eq_true_eq, decide_eq_false_iff_not] at h120; omega)
                all_goals
                  contradiction
          refine e_swc (tgt := 108) 4 dX5_takeOne_56 (by decide) (by decide) rfl (by decide) (fun h56_3 => ?_) (fun h56_3 => ?_)
          · try first | contradiction | omega
            all_goals
              refine e_aload_n dX5_takeOne_108 rfl rfl ?_
              refine e_aload_n dX5_takeOne_109 rfl rfl ?_
              refine e_iload_n dX5_takeOne_110 rfl rfl ?_
              refine kx_V2 (M' := mX5_cleanSome) dX5_takeOne_111 ml_X5_107 ok_X5_cleanSome (by decide) rfl im_X5_cleanSome se_X5_cleanSome (ct_X5_cleanSome cm ivS hK hmS (by omega)) (Nat.le_of_ble_eq_true rfl) (by decide) (Nat.le_of_ble_eq_true rfl) (fun fi ai hG hK => ?_)
              have hF := FR1_tr hF hG
              have bd := Bd_gov ivS (ch := w 2 / 2) (cl := true) hmS
              refine e_istore dX5_takeOne_114 (Nat.le_of_ble_eq_true rfl) rfl ?_
              refine e_goto (tgt := 119) dX5_takeOne_116 (by decide) ?_
              refine e_iload_n dX5_takeOne_119 rfl rfl ?_
              first | ((with_reducible refine mk_b ?_); refine b_if_eq (tgt := 141) dX5_takeOne_120 (by decide) (fun h120 => ?_) (fun h120 => ?_)) | ((with_reducible refine mk_ll ?_); refine m_if_eq (tgt := 141) dX5_takeOne_120 (by decide) (by omega) (by omega) (fun h120 => ?_) (fun h120 => ?_)) | ((with_reducible refine mk_lc ?_); refine l_if_eq (tgt := 141) dX5_takeOne_120 (by decide) (fun h120 => ?_) (fun h120 => ?_)) | ((with_reducible refine mk_n ?_); refine n_if_eq (tgt := 141) dX5_takeOne_120 (by decide) (by omega) (fun h120 => ?_) (fun h120 => ?_)) | refine e_if_eq (tgt := 141) dX5_takeOne_120 (by decide) (fun h120 => ?_) (fun h120 => ?_)
              · try first | contradiction | omega | (simp only [decide_eq_true_eq, decide_eq_false_iff_not] at h120; omega)
                all_goals
                  refine e_aload_n dX5_takeOne_141 rfl rfl ?_
                  refine e_aload_n dX5_takeOne_142 rfl rfl ?_
                  refine e_iload dX5_takeOne_143 rfl ?_
                  refine e_iload_n dX5_takeOne_145 rfl rfl ?_
                  first | ((with_reducible refine mk_nn ?_); refine n_icmp_ge (tgt := 153) dX5_takeOne_146 (by decide) (by omega) (by omega) (fun h146 => ?_) (fun h146 => ?_)) | refine e_icmp_ge (tgt := 153) dX5_takeOne_146 (by decide) (fun h146 => ?_) (fun h146 => ?_)
                  · try first | contradiction | omega
                    all_goals
                      refine e_iconst (v := nI 0) dX5_takeOne_153 rfl ?_
                      refine ky_V2 (M' := mX5_goFurther) dX5_takeOne_154 ml_X5_114 ok_X5_goFurther (by decide) rfl im_X5_goFurther se_X5_goFurther (ct_gf3 cm ivS i2S (K_E hK S0.symm) hmS (by omega) (by omega) (by omega)) (Nat.le_of_ble_eq_true rfl) (by decide) (Nat.le_of_ble_eq_true rfl) (fun fi ai hG hK => ?_)
                      have hF := FR1_tr hF hG
                      rw [S0, S (7694 + 72 * m + 1) (by omega) (by omega) (by omega), S (7694 + 72 * m + 4) (by omega) (by omega) (by omega)] at hK
                      refine e_ret none rfl (r_void dX5_takeOne_157 rfl) ?_
                      exact kq rfl hF hK
                  · try first | contradiction | omega
                    all_goals
                      refine e_iconst (v := nI 1) dX5_takeOne_149 rfl ?_
                      refine e_goto (tgt := 154) dX5_takeOne_150 (by decide) ?_
                      refine ky_V2 (M' := mX5_goFurther) dX5_takeOne_154 ml_X5_114 ok_X5_goFurther (by decide) rfl im_X5_goFurther se_X5_goFurther (ct_gf3 cm ivS i2S (K_E hK S0.symm) hmS (by omega) (by omega) (by omega)) (Nat.le_of_ble_eq_true rfl) (by decide) (Nat.le_of_ble_eq_true rfl) (fun fi ai hG hK => ?_)
                      have hF := FR1_tr hF hG
                      rw [S0, S (7694 + 72 * m + 1) (by omega) (by omega) (by omega), S (7694 + 72 * m + 4) (by omega) (by omega) (by omega)] at hK
                      refine e_ret none rfl (r_void dX5_takeOne_157 rfl) ?_
                      exact kq rfl hF hK
              · try first | contradiction | omega | (simp only [decide_eq_true_eq, decide_eq_false_iff_not] at h120; omega)
                all_goals
                  contradiction
          refine e_tableOut (tgt := 119) dX5_takeOne_56 (by omega) (by decide) ?_
          refine e_iload_n dX5_takeOne_119 rfl rfl ?_
          first | ((with_reducible refine mk_b ?_); refine b_if_eq (tgt := 141) dX5_takeOne_120 (by decide) (fun h120 => ?_) (fun h120 => ?_)) | ((with_reducible refine mk_ll ?_); refine m_if_eq (tgt := 141) dX5_takeOne_120 (by decide) (by omega) (by omega) (fun h120 => ?_) (fun h120 => ?_)) | ((with_reducible refine mk_lc ?_); refine l_if_eq (tgt := 141) dX5_takeOne_120 (by decide) (fun h120 => ?_) (fun h120 => ?_)) | ((with_reducible refine mk_n ?_); refine n_if_eq (tgt := 141) dX5_takeOne_120 (by decide) (by omega) (fun h120 => ?_) (fun h120 => ?_)) | refine e_if_eq (tgt := 141) dX5_takeOne_120 (by decide) (fun h120 => ?_) (fun h120 => ?_)
          · try first | contradiction | omega | (simp only [decide_eq_true_eq, decide_eq_false_iff_not] at h120; omega)
            all_goals
              refine e_aload_n dX5_takeOne_141 rfl rfl ?_
              refine e_aload_n dX5_takeOne_142 rfl rfl ?_
              refine e_iload dX5_takeOne_143 rfl ?_
              refine e_iload_n dX5_takeOne_145 rfl rfl ?_
              first | ((with_reducible refine mk_nn ?_); refine n_icmp_ge (tgt := 153) dX5_takeOne_146 (by decide) (by omega) (by omega) (fun h146 => ?_) (fun h146 => ?_)) | refine e_icmp_ge (tgt := 153) dX5_takeOne_146 (by decide) (fun h146 => ?_) (fun h146 => ?_)
              · try first | contradiction | omega
                all_goals
                  refine e_iconst (v := nI 0) dX5_takeOne_153 rfl ?_
                  refine ky_V2 (M' := mX5_goFurther) dX5_takeOne_154 ml_X5_114 ok_X5_goFurther (by decide) rfl im_X5_goFurther se_X5_goFurther (ct_gf3 cm ivS i2S (K_E hK S0.symm) hmS (by omega) (by omega) (by omega)) (Nat.le_of_ble_eq_true rfl) (by decide) (Nat.le_of_ble_eq_true rfl) (fun fi ai hG hK => ?_)
                  have hF := FR1_tr hF hG
                  rw [S0, S (7694 + 72 * m + 1) (by omega) (by omega) (by omega), S (7694 + 72 * m + 4) (by omega) (by omega) (by omega)] at hK
                  refine e_ret none rfl (r_void dX5_takeOne_157 rfl) ?_
                  exact kq rfl hF hK
              · try first | contradiction | omega
                all_goals
                  refine e_iconst (v := nI 1) dX5_takeOne_149 rfl ?_
                  refine e_goto (tgt := 154) dX5_takeOne_150 (by decide) ?_
                  refine ky_V2 (M' := mX5_goFurther) dX5_takeOne_154 ml_X5_114 ok_X5_goFurther (by decide) rfl im_X5_goFurther se_X5_goFurther (ct_gf3 cm ivS i2S (K_E hK S0.symm) hmS (by omega) (by omega) (by omega)) (Nat.le_of_ble_eq_true rfl) (by decide) (Nat.le_of_ble_eq_true rfl) (fun fi ai hG hK => ?_)
                  have hF := FR1_tr hF hG
                  rw [S0, S (7694 + 72 * m + 1) (by omega) (by omega) (by omega), S (7694 + 72 * m + 4) (by omega) (by omega) (by omega)] at hK
                  refine e_ret none rfl (r_void dX5_takeOne_157 rfl) ?_
                  exact kq rfl hF hK
          · try first | contradiction | omega | (simp only [decide_eq_true_eq, decide_eq_false_iff_not] at h120; omega)
            all_goals
              contradiction
      · try first | contradiction | omega | (simp only [decide_eq_true_eq, decide_eq_false_iff_not] at h26; omega)
        all_goals
          contradiction
    · have eL : sonL lg w m = lg := by unfold sonL; rw [if_neg ht, if_neg (by omega)]
      have e0 := o1 (Or.inr (by omega))
      rw [eL, e0, e1]
      have hle : govN (so3 w m) m (w 2) true ≤ w 2 := (goS_in ivS (ch := w 2) (cl := true) hmS (govL (so3 w m) m) (by unfold govL; have := iv_mv ivS hmS; omega)).2.2.2.1
      have G3 : govW (so3 w m) m (w 2) true 3 = w 3 := (govW_g ivS hmS (by omega) (by omega) (by omega)).trans S3
      have Gs : govW (so3 w m) m (w 2) true (7694 + 72 * m + 0) = w (7694 + 72 * m + 0) := (govW_g ivS hmS (by omega) (by omega) (by omega)).trans St
      have eE : ∀ bb, (bb = 0 ∧ w 2 ≤ govN (so3 w m) m (w 2) true) ∨ (bb = 1 ∧ govN (so3 w m) m (w 2) true < w 2) → gfW (govW (so3 w m) m (w 2) true) m bb = steW (so3 w m) m := fun bb hb => by
        have := ste4 ivS (bb := bb) hmS (St.trans hs) (by rw [S2]; exact hb)
        rw [S2] at this
        exact this
      refine e_aload_n dX5_takeOne_0 rfl rfl ?_
      refine e_dup dX5_takeOne_1 rfl ?_
      refine e_getE dX5_takeOne_2 fl_X5_90 rfl (k_m10 hK (by first | omega | (simp (disch := omega) only [upN_n, upN_s]; omega))) ?_
      refine e_iconst (v := nI 1) dX5_takeOne_5 rfl ?_
      first | ((with_reducible refine mk_nn ?_); refine n_iadd dX5_takeOne_6 ?_) | refine e_iadd dX5_takeOne_6 ?_
      refine e_pm (f := 10) (dd := 9) dX5_takeOne_7 fl_X5_90 (by decide) rfl rfl rfl rfl rfl bd hK (by first | omega | (simp (disch := omega) only [upN_n, upN_s]; omega)) hF (fun fi hF hK => ?_)
      have bd := Bd_K bd hK (by omega)
      refine e_aload_n dX5_takeOne_10 rfl rfl ?_
      refine e_getR dX5_takeOne_11 fl_X5_15 rfl (cv_l cm) ?_
      refine e_bipush (v := nI 11) dX5_takeOne_14 rfl ?_
      refine e_iconst (v := nI 1) dX5_takeOne_16 rfl ?_
      refine ky_V2 (M' := mX3_add) dX5_takeOne_17 ml_X5_66 ok_X3_add (by decide) rfl im_X3_add se_X3_add (ct_X3_add cm bd hK (by omega)) (Nat.le_of_ble_eq_true rfl) (by decide) (Nat.le_of_ble_eq_true rfl) (fun fi ai hG hK => ?_)
      have hF := FR1_tr hF hG
      rw [eX] at hK
      have bd := bd2
      refine e_aload_n dX5_takeOne_20 rfl rfl ?_
      refine kx_V0 (M' := mX4_countDown) dX5_takeOne_21 ml_X5_93 ok_X4_countDown (by decide) rfl im_X4_countDown se_X4_countDown (ct_X4_countDown cm bd hK (by omega) (by omega)) (Nat.le_of_ble_eq_true rfl) (by decide) (Nat.le_of_ble_eq_true rfl) (fun fi ai hG hK => ?_)
      have hF := FR1_tr hF hG
      rw [s10] at hK
      rw [s10, hdt]
      change K _ _ (so3 w m) _ _ at hK
      have bd := bdS
      refine e_istore_n dX5_takeOne_24 rfl (Nat.le_of_ble_eq_true rfl) rfl ?_
      refine e_iload_n dX5_takeOne_25 rfl rfl ?_
      first | ((with_reducible refine mk_b ?_); refine b_if_eq (tgt := 41) dX5_takeOne_26 (by decide) (fun h26 => ?_) (fun h26 => ?_)) | ((with_reducible refine mk_ll ?_); refine m_if_eq (tgt := 41) dX5_takeOne_26 (by decide) (by omega) (by omega) (fun h26 => ?_) (fun h26 => ?_)) | ((with_reducible refine mk_lc ?_); refine l_if_eq (tgt := 41) dX5_takeOne_26 (by decide) (fun h26 => ?_) (fun h26 => ?_)) | ((with_reducible refine mk_n ?_); refine n_if_eq (tgt := 41) dX5_takeOne_26 (by decide) (by omega) (fun h26 => ?_) (fun h26 => ?_)) | refine e_if_eq (tgt := 41) dX5_takeOne_26 (by decide) (fun h26 => ?_) (fun h26 => ?_)
      · try first | contradiction | omega | (simp only [decide_eq_true_eq, decide_eq_false_iff_not] at h26; omega)
        all_goals
          refine e_aload_n dX5_takeOne_41 rfl rfl ?_
          refine e_getR dX5_takeOne_42 fl_X5_9 rfl (cv_w cm) ?_
          refine e_getE dX5_takeOne_45 fl_X5_96 rfl ((k_ch hK).trans (by rw [S2])) ?_
          refine e_istore_n dX5_takeOne_48 rfl (Nat.le_of_ble_eq_true rfl) rfl ?_
          refine e_iconst (v := nI 0) dX5_takeOne_49 rfl ?_
          refine e_istore dX5_takeOne_50 (Nat.le_of_ble_eq_true rfl) rfl ?_
          refine e_aload_n dX5_takeOne_52 rfl rfl ?_
          refine e_getE dX5_takeOne_53 fl_X5_87 rfl ((k_m2 hK hmS).trans (by rw [St])) ?_
          refine e_swc (tgt := 88) 1 dX5_takeOne_56 (by decide) (by decide) rfl (by decide) (fun h56_0 => ?_) (fun h56_0 => ?_)
          · try first | contradiction | omega
            all_goals
              refine e_aload_n dX5_takeOne_88 rfl rfl ?_
              refine e_aload_n dX5_takeOne_89 rfl rfl ?_
              refine e_iload_n dX5_takeOne_90 rfl rfl ?_
              refine kx_V2 (M' := mX5_copySome) dX5_takeOne_91 ml_X5_99 ok_X5_copySome (by decide) rfl im_X5_copySome se_X5_copySome (ct_X5_copySome cm ivS hK hmS (by omega)) (Nat.le_of_ble_eq_true rfl) (by decide) (Nat.le_of_ble_eq_true rfl) (fun fi ai hG hK => ?_)
              have hF := FR1_tr hF hG
              have bd := Bd_gov ivS (ch := w 2) (cl := false) hmS
              refine e_istore dX5_takeOne_94 (Nat.le_of_ble_eq_true rfl) rfl ?_
              refine e_goto (tgt := 119) dX5_takeOne_96 (by decide) ?_
              refine e_iload_n dX5_takeOne_119 rfl rfl ?_
              first | ((with_reducible refine mk_b ?_); refine b_if_eq (tgt := 141) dX5_takeOne_120 (by decide) (fun h120 => ?_) (fun h120 => ?_)) | ((with_reducible refine mk_ll ?_); refine m_if_eq (tgt := 141) dX5_takeOne_120 (by decide) (by omega) (by omega) (fun h120 => ?_) (fun h120 => ?_)) | ((with_reducible refine mk_lc ?_); refine l_if_eq (tgt := 141) dX5_takeOne_120 (by decide) (fun h120 => ?_) (fun h120 => ?_)) | ((with_reducible refine mk_n ?_); refine n_if_eq (tgt := 141) dX5_takeOne_120 (by decide) (by omega) (fun h120 => ?_) (fun h120 => ?_)) | refine e_if_eq (tgt := 141) dX5_takeOne_120 (by decide) (fun h120 => ?_) (fun h120 => ?_)
              · try first | contradiction | omega | (simp only [decide_eq_true_eq, decide_eq_false_iff_not] at h120; omega)
                all_goals
                  refine e_aload_n dX5_takeOne_141 rfl rfl ?_
                  refine e_aload_n dX5_takeOne_142 rfl rfl ?_
                  refine e_iload dX5_takeOne_143 rfl ?_
                  refine e_iload_n dX5_takeOne_145 rfl rfl ?_
                  first | ((with_reducible refine mk_nn ?_); refine n_icmp_ge (tgt := 153) dX5_takeOne_146 (by decide) (by omega) (by omega) (fun h146 => ?_) (fun h146 => ?_)) | refine e_icmp_ge (tgt := 153) dX5_takeOne_146 (by decide) (fun h146 => ?_) (fun h146 => ?_)
                  · try first | contradiction | omega
                    all_goals
                      refine e_iconst (v := nI 0) dX5_takeOne_153 rfl ?_
                      refine ky_V2 (M' := mX5_goFurther) dX5_takeOne_154 ml_X5_114 ok_X5_goFurther (by decide) rfl im_X5_goFurther se_X5_goFurther (ct_gfN cm bd hK (by omega) (by omega) (by omega) (by omega)) (Nat.le_of_ble_eq_true rfl) (by decide) (Nat.le_of_ble_eq_true rfl) (fun fi ai hG hK => ?_)
                      have hF := FR1_tr hF hG
                      refine e_ret none rfl (r_void dX5_takeOne_157 rfl) ?_
                      refine kq rfl hF (K_eq hK ?_)
                      first | exact eE 0 (Or.inl ⟨rfl, by omega⟩) | exact eE 1 (Or.inr ⟨rfl, by omega⟩)
                  · try first | contradiction | omega
                    all_goals
                      refine e_iconst (v := nI 1) dX5_takeOne_149 rfl ?_
                      refine e_goto (tgt := 154) dX5_takeOne_150 (by decide) ?_
                      refine ky_V2 (M' := mX5_goFurther) dX5_takeOne_154 ml_X5_114 ok_X5_goFurther (by decide) rfl im_X5_goFurther se_X5_goFurther (ct_gfN cm bd hK (by omega) (by omega) (by omega) (by omega)) (Nat.le_of_ble_eq_true rfl) (by decide) (Nat.le_of_ble_eq_true rfl) (fun fi ai hG hK => ?_)
                      have hF := FR1_tr hF hG
                      refine e_ret none rfl (r_void dX5_takeOne_157 rfl) ?_
                      refine kq rfl hF (K_eq hK ?_)
                      first | exact eE 0 (Or.inl ⟨rfl, by omega⟩) | exact eE 1 (Or.inr ⟨rfl, by omega⟩)
              · try first | contradiction | omega | (simp only [decide_eq_true_eq, decide_eq_false_iff_not] at h120; omega)
                all_goals
                  contradiction
          refine e_swc (tgt := 99) 2 dX5_takeOne_56 (by decide) (by decide) rfl (by decide) (fun h56_1 => ?_) (fun h56_1 => ?_)
          · try first | contradiction | omega
            all_goals
              refine e_aload_n dX5_takeOne_99 rfl rfl ?_
              refine e_aload_n dX5_takeOne_100 rfl rfl ?_
              refine e_iload_n dX5_takeOne_101 rfl rfl ?_
              refine ky_V2 (M' := mX5_catchUpSome) dX5_takeOne_102 ml_X5_103 ok_X5_catchUpSome (by decide) rfl im_X5_catchUpSome se_X5_catchUpSome (ct_X5_catchUpSome cm ivS hK hmS (by omega)) (Nat.le_of_ble_eq_true rfl) (by decide) (Nat.le_of_ble_eq_true rfl) (fun fi ai hG hK => ?_)
              have hF := FR1_tr hF hG
              have bd := Bd_cat ivS (ch := w 2) hmS
              refine e_goto (tgt := 119) dX5_takeOne_105 (by decide) ?_
              refine e_iload_n dX5_takeOne_119 rfl rfl ?_
              first | ((with_reducible refine mk_b ?_); refine b_if_eq (tgt := 141) dX5_takeOne_120 (by decide) (fun h120 => ?_) (fun h120 => ?_)) | ((with_reducible refine mk_ll ?_); refine m_if_eq (tgt := 141) dX5_takeOne_120 (by decide) (by omega) (by omega) (fun h120 => ?_) (fun h120 => ?_)) | ((with_reducible refine mk_lc ?_); refine l_if_eq (tgt := 141) dX5_takeOne_120 (by decide) (fun h120 => ?_) (fun h120 => ?_)) | ((with_reducible refine mk_n ?_); refine n_if_eq (tgt := 141) dX5_takeOne_120 (by decide) (by omega) (fun h120 => ?_) (fun h120 => ?_)) | refine e_if_eq (tgt := 141) dX5_takeOne_120 (by decide) (fun h120 => ?_) (fun h120 => ?_)
              · try first | contradiction | omega | (simp only [decide_eq_true_eq, decide_eq_false_iff_not] at h120; omega)
                all_goals
                  refine e_aload_n dX5_takeOne_141 rfl rfl ?_
                  refine e_aload_n dX5_takeOne_142 rfl rfl ?_
                  refine e_iload dX5_takeOne_143 rfl ?_
                  refine e_iload_n dX5_takeOne_145 rfl rfl ?_
                  first | ((with_reducible refine mk_nn ?_); refine n_icmp_ge (tgt := 153) dX5_takeOne_146 (by decide) (by omega) (by omega) (fun h146 => ?_) (fun h146 => ?_)) | refine e_icmp_ge (tgt := 153) dX5_takeOne_146 (by decide) (fun h146 => ?_) (fun h146 => ?_)
                  · try first | contradiction | omega
                    all_goals
                      refine e_iconst (v := nI 0) dX5_takeOne_153 rfl ?_
                      refine ky_V2 (M' := mX5_goFurther) dX5_takeOne_154 ml_X5_114 ok_X5_goFurther (by decide) rfl im_X5_goFurther se_X5_goFurther (ct_gfN cm bd hK (by omega) (by omega) (by omega) (by omega)) (Nat.le_of_ble_eq_true rfl) (by decide) (Nat.le_of_ble_eq_true rfl) (fun fi ai hG hK => ?_)
                      have hF := FR1_tr hF hG
                      refine e_ret none rfl (r_void dX5_takeOne_157 rfl) ?_
                      refine kq rfl hF (K_eq hK ?_)
                      first | exact eE 0 (Or.inl ⟨rfl, by omega⟩) | exact eE 1 (Or.inr ⟨rfl, by omega⟩)
                  · try first | contradiction | omega
                    all_goals
                      refine e_iconst (v := nI 1) dX5_takeOne_149 rfl ?_
                      refine e_goto (tgt := 154) dX5_takeOne_150 (by decide) ?_
                      refine ky_V2 (M' := mX5_goFurther) dX5_takeOne_154 ml_X5_114 ok_X5_goFurther (by decide) rfl im_X5_goFurther se_X5_goFurther (ct_gfN cm bd hK (by omega) (by omega) (by omega) (by omega)) (Nat.le_of_ble_eq_true rfl) (by decide) (Nat.le_of_ble_eq_true rfl) (fun fi ai hG hK => ?_)
                      have hF := FR1_tr hF hG
                      refine e_ret none rfl (r_void dX5_takeOne_157 rfl) ?_
                      refine kq rfl hF (K_eq hK ?_)
                      first | exact eE 0 (Or.inl ⟨rfl, by omega⟩) | exact eE 1 (Or.inr ⟨rfl, by omega⟩)
              · try first | contradiction | omega | (simp only [decide_eq_true_eq, decide_eq_false_iff_not] at h120; omega)
                all_goals
                  contradiction
          refine e_swc (tgt := 119) 3 dX5_takeOne_56 (by decide) (by decide) rfl (by decide) (fun h56_2 => ?_) (fun h56_2 => ?_)
          · try first | contradiction | omega
            all_goals
              refine e_iload_n dX5_takeOne_119 rfl rfl ?_
              first | ((with_reducible refine mk_b ?_); refine b_if_eq (tgt := 141) dX5_takeOne_120 (by decide) (fun h120 => ?_) (fun h120 => ?_)) | ((with_reducible refine mk_ll ?_); refine m_if_eq (tgt := 141) dX5_takeOne_120 (by decide) (by omega) (by omega) (fun h120 => ?_) (fun h120 => ?_)) | ((with_reducible refine mk_lc ?_); refine l_if_eq (tgt := 141) dX5_takeOne_120 (by decide) (fun h120 => ?_) (fun h120 => ?_)) | ((with_reducible refine mk_n ?_); refine n_if_eq (tgt := 141) dX5_takeOne_120 (by decide) (by omega) (fun h120 => ?_) (fun h120 => ?_)) | refine e_if_eq (tgt := 141) dX5_takeOne_120 (by decide) (fun h120 => ?_) (fun h120 => ?_)
              · try first | contradiction | omega | (simp only [decide_eq_true_eq, decide_eq_false_iff_not] at h120; omega)
                all_goals
                  refine e_aload_n dX5_takeOne_141 rfl rfl ?_
                  refine e_aload_n dX5_takeOne_142 rfl rfl ?_
                  refine e_iload dX5_takeOne_143 rfl ?_
                  refine e_iload_n dX5_takeOne_145 rfl rfl ?_
                  first | ((with_reducible refine mk_nn ?_); refine n_icmp_ge (tgt := 153) dX5_takeOne_146 (by decide) (by omega) (by omega) (fun h146 => ?_) (fun h146 => ?_)) | refine e_icmp_ge (tgt := 153) dX5_takeOne_146 (by decide) (fun h146 => ?_) (fun h146 => ?_)
                  · try first | contradiction | omega
                    all_goals
                      refine e_iconst (v := nI 0) dX5_takeOne_153 rfl ?_
                      refine ky_V2 (M' := mX5_goFurther) dX5_takeOne_154 ml_X5_114 ok_X5_goFurther (by decide) rfl im_X5_goFurther se_X5_goFurther (ct_gfN cm bd hK (by omega) (by omega) (by omega) (by omega)) (Nat.le_of_ble_eq_true rfl) (by decide) (Nat.le_of_ble_eq_true rfl) (fun fi ai hG hK => ?_)
                      have hF := FR1_tr hF hG
                      refine e_ret none rfl (r_void dX5_takeOne_157 rfl) ?_
                      refine kq rfl hF (K_eq hK ?_)
                      first | exact eE 0 (Or.inl ⟨rfl, by omega⟩) | exact eE 1 (Or.inr ⟨rfl, by omega⟩)
                  · try first | contradiction | omega
                    all_goals
                      refine e_iconst (v := nI 1) dX5_takeOne_149 rfl ?_
                      refine e_goto (tgt := 154) dX5_takeOne_150 (by decide) ?_
                      refine ky_V2 (M' := mX5_goFurther) dX5_takeOne_154 ml_X5_114 ok_X5_goFurther (by decide) rfl im_X5_goFurther se_X5_goFurther (ct_gfN cm bd hK (by omega) (by omega) (by omega) (by omega)) (Nat.le_of_ble_eq_true rfl) (by decide) (Nat.le_of_ble_eq_true rfl) (fun fi ai hG hK => ?_)
                      have hF := FR1_tr hF hG
                      refine e_ret none rfl (r_void dX5_takeOne_157 rfl) ?_
                      refine kq rfl hF (K_eq hK ?_)
                      first | exact eE 0 (Or.inl ⟨rfl, by omega⟩) | exact eE 1 (Or.inr ⟨rfl, by omega⟩)
              · try first | contradiction | omega | (simp only [decide_eq_true_eq, decide_eq_false_iff_not] at h120; omega)
                all_goals
                  contradiction
          refine e_swc (tgt := 108) 4 dX5_takeOne_56 (by decide) (by decide) rfl (by decide) (fun h56_3 => ?_) (fun h56_3 => ?_)
          · try first | contradiction | omega
            all_goals
              refine e_aload_n dX5_takeOne_108 rfl rfl ?_
              refine e_aload_n dX5_takeOne_109 rfl rfl ?_
              refine e_iload_n dX5_takeOne_110 rfl rfl ?_
              refine kx_V2 (M' := mX5_cleanSome) dX5_takeOne_111 ml_X5_107 ok_X5_cleanSome (by decide) rfl im_X5_cleanSome se_X5_cleanSome (ct_X5_cleanSome cm ivS hK hmS (by omega)) (Nat.le_of_ble_eq_true rfl) (by decide) (Nat.le_of_ble_eq_true rfl) (fun fi ai hG hK => ?_)
              have hF := FR1_tr hF hG
              have bd := Bd_gov ivS (ch := w 2) (cl := true) hmS
              refine e_istore dX5_takeOne_114 (Nat.le_of_ble_eq_true rfl) rfl ?_
              refine e_goto (tgt := 119) dX5_takeOne_116 (by decide) ?_
              refine e_iload_n dX5_takeOne_119 rfl rfl ?_
              first | ((with_reducible refine mk_b ?_); refine b_if_eq (tgt := 141) dX5_takeOne_120 (by decide) (fun h120 => ?_) (fun h120 => ?_)) | ((with_reducible refine mk_ll ?_); refine m_if_eq (tgt := 141) dX5_takeOne_120 (by decide) (by omega) (by omega) (fun h120 => ?_) (fun h120 => ?_)) | ((with_reducible refine mk_lc ?_); refine l_if_eq (tgt := 141) dX5_takeOne_120 (by decide) (fun h120 => ?_) (fun h120 => ?_)) | ((with_reducible refine mk_n ?_); refine n_if_eq (tgt := 141) dX5_takeOne_120 (by decide) (by omega) (fun h120 => ?_) (fun h120 => ?_)) | refine e_if_eq (tgt := 141) dX5_takeOne_120 (by decide) (fun h120 => ?_) (fun h120 => ?_)
              · try first | contradiction | omega | (simp only [decide_eq_true_eq, decide_eq_false_iff_not] at h120; omega)
                all_goals
                  refine e_aload_n dX5_takeOne_141 rfl rfl ?_
                  refine e_aload_n dX5_takeOne_142 rfl rfl ?_
                  refine e_iload dX5_takeOne_143 rfl ?_
                  refine e_iload_n dX5_takeOne_145 rfl rfl ?_
                  first | ((with_reducible refine mk_nn ?_); refine n_icmp_ge (tgt := 153) dX5_takeOne_146 (by decide) (by omega) (by omega) (fun h146 => ?_) (fun h146 => ?_)) | refine e_icmp_ge (tgt := 153) dX5_takeOne_146 (by decide) (fun h146 => ?_) (fun h146 => ?_)
                  · try first | contradiction | omega
                    all_goals
                      refine e_iconst (v := nI 0) dX5_takeOne_153 rfl ?_
                      refine ky_V2 (M' := mX5_goFurther) dX5_takeOne_154 ml_X5_114 ok_X5_goFurther (by decide) rfl im_X5_goFurther se_X5_goFurther (ct_gfN cm bd hK (by omega) (by omega) (by omega) (by omega)) (Nat.le_of_ble_eq_true rfl) (by decide) (Nat.le_of_ble_eq_true rfl) (fun fi ai hG hK => ?_)
                      have hF := FR1_tr hF hG
                      refine e_ret none rfl (r_void dX5_takeOne_157 rfl) ?_
                      refine kq rfl hF (K_eq hK ?_)
                      first | exact eE 0 (Or.inl ⟨rfl, by omega⟩) | exact eE 1 (Or.inr ⟨rfl, by omega⟩)
                  · try first | contradiction | omega
                    all_goals
                      refine e_iconst (v := nI 1) dX5_takeOne_149 rfl ?_
                      refine e_goto (tgt := 154) dX5_takeOne_150 (by decide) ?_
                      refine ky_V2 (M' := mX5_goFurther) dX5_takeOne_154 ml_X5_114 ok_X5_goFurther (by decide) rfl im_X5_goFurther se_X5_goFurther (ct_gfN cm bd hK (by omega) (by omega) (by omega) (by omega)) (Nat.le_of_ble_eq_true rfl) (by decide) (Nat.le_of_ble_eq_true rfl) (fun fi ai hG hK => ?_)
                      have hF := FR1_tr hF hG
                      refine e_ret none rfl (r_void dX5_takeOne_157 rfl) ?_
                      refine kq rfl hF (K_eq hK ?_)
                      first | exact eE 0 (Or.inl ⟨rfl, by omega⟩) | exact eE 1 (Or.inr ⟨rfl, by omega⟩)
              · try first | contradiction | omega | (simp only [decide_eq_true_eq, decide_eq_false_iff_not] at h120; omega)
                all_goals
                  contradiction
          refine e_tableOut (tgt := 119) dX5_takeOne_56 (by omega) (by decide) ?_
          refine e_iload_n dX5_takeOne_119 rfl rfl ?_
          first | ((with_reducible refine mk_b ?_); refine b_if_eq (tgt := 141) dX5_takeOne_120 (by decide) (fun h120 => ?_) (fun h120 => ?_)) | ((with_reducible refine mk_ll ?_); refine m_if_eq (tgt := 141) dX5_takeOne_120 (by decide) (by omega) (by omega) (fun h120 => ?_) (fun h120 => ?_)) | ((with_reducible refine mk_lc ?_); refine l_if_eq (tgt := 141) dX5_takeOne_120 (by decide) (fun h120 => ?_) (fun h120 => ?_)) | ((with_reducible refine mk_n ?_); refine n_if_eq (tgt := 141) dX5_takeOne_120 (by decide) (by omega) (fun h120 => ?_) (fun h120 => ?_)) | refine e_if_eq (tgt := 141) dX5_takeOne_120 (by decide) (fun h120 => ?_) (fun h120 => ?_)
          · try first | contradiction | omega | (simp only [decide_eq_true_eq, decide_eq_false_iff_not] at h120; omega)
            all_goals
              refine e_aload_n dX5_takeOne_141 rfl rfl ?_
              refine e_aload_n dX5_takeOne_142 rfl rfl ?_
              refine e_iload dX5_takeOne_143 rfl ?_
              refine e_iload_n dX5_takeOne_145 rfl rfl ?_
              first | ((with_reducible refine mk_nn ?_); refine n_icmp_ge (tgt := 153) dX5_takeOne_146 (by decide) (by omega) (by omega) (fun h146 => ?_) (fun h146 => ?_)) | refine e_icmp_ge (tgt := 153) dX5_takeOne_146 (by decide) (fun h146 => ?_) (fun h146 => ?_)
              · try first | contradiction | omega
                all_goals
                  refine e_iconst (v := nI 0) dX5_takeOne_153 rfl ?_
                  refine ky_V2 (M' := mX5_goFurther) dX5_takeOne_154 ml_X5_114 ok_X5_goFurther (by decide) rfl im_X5_goFurther se_X5_goFurther (ct_gfN cm bd hK (by omega) (by omega) (by omega) (by omega)) (Nat.le_of_ble_eq_true rfl) (by decide) (Nat.le_of_ble_eq_true rfl) (fun fi ai hG hK => ?_)
                  have hF := FR1_tr hF hG
                  refine e_ret none rfl (r_void dX5_takeOne_157 rfl) ?_
                  refine kq rfl hF (K_eq hK ?_)
                  first | exact eE 0 (Or.inl ⟨rfl, by omega⟩) | exact eE 1 (Or.inr ⟨rfl, by omega⟩)
              · try first | contradiction | omega
                all_goals
                  refine e_iconst (v := nI 1) dX5_takeOne_149 rfl ?_
                  refine e_goto (tgt := 154) dX5_takeOne_150 (by decide) ?_
                  refine ky_V2 (M' := mX5_goFurther) dX5_takeOne_154 ml_X5_114 ok_X5_goFurther (by decide) rfl im_X5_goFurther se_X5_goFurther (ct_gfN cm bd hK (by omega) (by omega) (by omega) (by omega)) (Nat.le_of_ble_eq_true rfl) (by decide) (Nat.le_of_ble_eq_true rfl) (fun fi ai hG hK => ?_)
                  have hF := FR1_tr hF hG
                  refine e_ret none rfl (r_void dX5_takeOne_157 rfl) ?_
                  refine kq rfl hF (K_eq hK ?_)
                  first | exact eE 0 (Or.inl ⟨rfl, by omega⟩) | exact eE 1 (Or.inr ⟨rfl, by omega⟩)
          · try first | contradiction | omega | (simp only [decide_eq_true_eq, decide_eq_false_iff_not] at h120; omega)
            all_goals
              contradiction
      · try first | contradiction | omega | (simp only [decide_eq_true_eq, decide_eq_false_iff_not] at h26; omega)
        all_goals
          contradiction
def st1 (w : Nat → Nat) (m : Nat) : Nat → Nat → Nat
  | 0 => w
  | k + 1 => if csN (st1 w m k) m then sonW (st1 w m k) m else st1 w m k
def stL (lg w : Nat → Nat) (m : Nat) : Nat → Nat → Nat
  | 0 => lg
  | k + 1 => if csN (st1 w m k) m then sonL (stL lg w m k) (st1 w m k) m else stL lg w m k
theorem stS_1 (w : Nat → Nat) (ai : FI) (m : Nat) : ∀ k, (stS w ai m k).1 = st1 w m k
  | 0 => rfl
  | k + 1 => by
    have ih := stS_1 w ai m k
    show (if csN (stS w ai m k).1 m then _ else stS w ai m k).1 = if csN (st1 w m k) m then sonW (st1 w m k) m else st1 w m k
    rw [← ih]
    split <;> rfl
theorem st1_f {w lg : Nat → Nat} {m k : Nat} (h : csN (st1 w m k) m = false) : ∀ i, st1 w m (k + i) = st1 w m k ∧ stL lg w m (k + i) = stL lg w m k
  | 0 => ⟨rfl, rfl⟩
  | i + 1 => by
    obtain ⟨a, b⟩ := st1_f (lg := lg) h i
    refine ⟨?_, ?_⟩
    · show (if csN (st1 w m (k + i)) m then _ else st1 w m (k + i)) = _
      rw [a, h]; rfl
    · show (if csN (st1 w m (k + i)) m then _ else stL lg w m (k + i)) = _
      rw [a, h, b]; rfl
theorem st_all {w : Nat → Nat} (iv : Inv w) (i2 : Inv2 w) {m : Nat} (hm : m < w 3) (h0 : w 0 < 1999) : ∀ k, Inv (st1 w m k) ∧ Inv2 (st1 w m k) ∧ st1 w m k 3 = w 3 ∧ (st1 w m k (7694 + 72 * m + 0) ≤ 3 → st1 w m k 0 < 1999)
  | 0 => ⟨iv, i2, rfl, fun _ => h0⟩
  | k + 1 => by
    obtain ⟨a, b, c, d⟩ := st_all iv i2 hm h0 k
    have hin := stS_in iv (ai := fun _ _ => 0) hm (fun _ => h0) (k + 1)
    rw [stS_1] at hin
    refine ⟨hin.1, ?_, hin.2.1, hin.2.2⟩
    show Inv2 (if csN (st1 w m k) m then sonW (st1 w m k) m else st1 w m k)
    cases hc : csN (st1 w m k) m with
    | false => exact b
    | true =>
      unfold csN at hc
      simp only [Bool.and_eq_true, decide_eq_true_eq] at hc
      exact son_I2 a b (by rw [c]; exact hm) hc.1 hc.2 (fun h => d (by omega))
theorem ct_X5_takeSteps {fi : FI} {fr : FR} {ai : FI} {ar : FR} {N : Nat} {w lg : Nat → Nat} (cm : CM fr ar) (iv : Inv w) (i2 : Inv2 w) (hK : K fi ai w lg (w 0)) (h01 : w 0 < 1999) (x y : Int32) : CP mX5_takeSteps 4 0 0 [.ref (rf 5 73), .int x, .int y] fi fr ai ar N (kQ (some (.int (if stpB w x y then nI (st1 w x.toNatClampNeg y.toNatClampNeg (7694 + 72 * x.toNatClampNeg + 0)) else -1))) fi fr ai ar N (fun fi ai => K fi ai (if stpB w x y then st1 w x.toNatClampNeg y.toNatClampNeg else w) (if stpB w x y then stL lg w x.toNatClampNeg y.toNatClampNeg else lg) ((if stpB w x y then st1 w x.toNatClampNeg y.toNatClampNeg else w) 0))) := by
  have h1 := iv_n iv
  have h3 := iv_mm iv
  have bd := Bd_iv iv
  have hF : FR1 fi ai fi ai := FR1_rf
  change EV mX5_takeSteps 4 0 0 0 [some (.ref (rf 5 73)), some (.int x), some (.int y), none, none] [] fi fr ai ar N (kQ (some (.int (if stpB w x y then nI (st1 w x.toNatClampNeg y.toNatClampNeg (7694 + 72 * x.toNatClampNeg + 0)) else -1))) fi fr ai ar N (fun fi ai => K fi ai (if stpB w x y then st1 w x.toNatClampNeg y.toNatClampNeg else w) (if stpB w x y then stL lg w x.toNatClampNeg y.toNatClampNeg else lg) ((if stpB w x y then st1 w x.toNatClampNeg y.toNatClampNeg else w) 0)))
  have t1 : (nI 1).toInt = 1 := by decide
  have t100 : (nI 100).toInt = 100 := by decide
  cases hb : stpB w x y with
  | false =>
    rw [if_neg (by decide), if_neg (by decide), if_neg (by decide)]
    cases hc : csT w x with
    | false =>
      refine e_iload_n dX5_takeSteps_0 rfl rfl ?_
      refine e_iconst (v := nI 1) dX5_takeSteps_1 rfl ?_
      first | ((with_reducible refine mk_nn ?_); refine n_icmp_lt (tgt := 22) dX5_takeSteps_2 (by decide) (by omega) (by omega) (fun h2 => ?_) (fun h2 => ?_)) | refine e_icmp_lt (tgt := 22) dX5_takeSteps_2 (by decide) (fun h2 => ?_) (fun h2 => ?_)
      · try first | contradiction | omega
        all_goals
          refine e_iconst (v := -1) dX5_takeSteps_22 rfl ?_
          refine e_ret (some _) rfl (r_int dX5_takeSteps_23 rfl) ?_
          exact kq rfl hF hK
      · try first | contradiction | omega
        all_goals
          refine e_iload_n dX5_takeSteps_5 rfl rfl ?_
          refine e_bipush (v := nI 100) dX5_takeSteps_6 rfl ?_
          first | ((with_reducible refine mk_nn ?_); refine n_icmp_gt (tgt := 22) dX5_takeSteps_8 (by decide) (by omega) (by omega) (fun h8 => ?_) (fun h8 => ?_)) | refine e_icmp_gt (tgt := 22) dX5_takeSteps_8 (by decide) (fun h8 => ?_) (fun h8 => ?_)
          · try first | contradiction | omega
            all_goals
              refine e_iconst (v := -1) dX5_takeSteps_22 rfl ?_
              refine e_ret (some _) rfl (r_int dX5_takeSteps_23 rfl) ?_
              exact kq rfl hF hK
          · try first | contradiction | omega
            all_goals
              refine e_aload_n dX5_takeSteps_11 rfl rfl ?_
              refine e_getR dX5_takeSteps_12 fl_X5_9 rfl (cv_w cm) ?_
              refine e_iload_n dX5_takeSteps_15 rfl rfl ?_
              refine x_V1 (M' := mX9_canStep) dX5_takeSteps_16 ml_X5_72 ok_X9_canStep (by decide) rfl im_X9_canStep se_X9_canStep (ct_X9_canStep cm iv hK ‹_› _) (Nat.le_of_ble_eq_true rfl) (by decide) (Nat.le_of_ble_eq_true rfl) ?_
              rw [hc]
              first | ((with_reducible refine mk_b ?_); refine b_if_ne (tgt := 24) dX5_takeSteps_19 (by decide) (fun h19 => ?_) (fun h19 => ?_)) | ((with_reducible refine mk_ll ?_); refine m_if_ne (tgt := 24) dX5_takeSteps_19 (by decide) (by omega) (by omega) (fun h19 => ?_) (fun h19 => ?_)) | ((with_reducible refine mk_lc ?_); refine l_if_ne (tgt := 24) dX5_takeSteps_19 (by decide) (fun h19 => ?_) (fun h19 => ?_)) | ((with_reducible refine mk_n ?_); refine n_if_ne (tgt := 24) dX5_takeSteps_19 (by decide) (by omega) (fun h19 => ?_) (fun h19 => ?_)) | refine e_if_ne (tgt := 24) dX5_takeSteps_19 (by decide) (fun h19 => ?_) (fun h19 => ?_)
              · try first | contradiction | omega | (simp only [decide_eq_true_eq, decide_eq_false_iff_not] at h19; omega)
                all_goals
                  contradiction
              · try first | contradiction | omega | (simp only [decide_eq_true_eq, decide_eq_false_iff_not] at h19; omega)
                all_goals
                  refine e_iconst (v := -1) dX5_takeSteps_22 rfl ?_
                  refine e_ret (some _) rfl (r_int dX5_takeSteps_23 rfl) ?_
                  exact kq rfl hF hK
    | true =>
      refine e_iload_n dX5_takeSteps_0 rfl rfl ?_
      refine e_iconst (v := nI 1) dX5_takeSteps_1 rfl ?_
      first | ((with_reducible refine mk_nn ?_); refine n_icmp_lt (tgt := 22) dX5_takeSteps_2 (by decide) (by omega) (by omega) (fun h2 => ?_) (fun h2 => ?_)) | refine e_icmp_lt (tgt := 22) dX5_takeSteps_2 (by decide) (fun h2 => ?_) (fun h2 => ?_)
      · try first | contradiction | omega
        all_goals
          refine e_iconst (v := -1) dX5_takeSteps_22 rfl ?_
          refine e_ret (some _) rfl (r_int dX5_takeSteps_23 rfl) ?_
          exact kq rfl hF hK
      · try first | contradiction | omega
        all_goals
          refine e_iload_n dX5_takeSteps_5 rfl rfl ?_
          refine e_bipush (v := nI 100) dX5_takeSteps_6 rfl ?_
          first | ((with_reducible refine mk_nn ?_); refine n_icmp_gt (tgt := 22) dX5_takeSteps_8 (by decide) (by omega) (by omega) (fun h8 => ?_) (fun h8 => ?_)) | refine e_icmp_gt (tgt := 22) dX5_takeSteps_8 (by decide) (fun h8 => ?_) (fun h8 => ?_)
          · try first | contradiction | omega
            all_goals
              refine e_iconst (v := -1) dX5_takeSteps_22 rfl ?_
              refine e_ret (some _) rfl (r_int dX5_takeSteps_23 rfl) ?_
              exact kq rfl hF hK
          · try first | contradiction | omega
            all_goals
              refine e_aload_n dX5_takeSteps_11 rfl rfl ?_
              refine e_getR dX5_takeSteps_12 fl_X5_9 rfl (cv_w cm) ?_
              refine e_iload_n dX5_takeSteps_15 rfl rfl ?_
              refine x_V1 (M' := mX9_canStep) dX5_takeSteps_16 ml_X5_72 ok_X9_canStep (by decide) rfl im_X9_canStep se_X9_canStep (ct_X9_canStep cm iv hK ‹_› _) (Nat.le_of_ble_eq_true rfl) (by decide) (Nat.le_of_ble_eq_true rfl) ?_
              rw [hc]
              first | ((with_reducible refine mk_b ?_); refine b_if_ne (tgt := 24) dX5_takeSteps_19 (by decide) (fun h19 => ?_) (fun h19 => ?_)) | ((with_reducible refine mk_ll ?_); refine m_if_ne (tgt := 24) dX5_takeSteps_19 (by decide) (by omega) (by omega) (fun h19 => ?_) (fun h19 => ?_)) | ((with_reducible refine mk_lc ?_); refine l_if_ne (tgt := 24) dX5_takeSteps_19 (by decide) (fun h19 => ?_) (fun h19 => ?_)) | ((with_reducible refine mk_n ?_); refine n_if_ne (tgt := 24) dX5_takeSteps_19 (by decide) (by omega) (fun h19 => ?_) (fun h19 => ?_)) | refine e_if_ne (tgt := 24) dX5_takeSteps_19 (by decide) (fun h19 => ?_) (fun h19 => ?_)
              · try first | contradiction | omega | (simp only [decide_eq_true_eq, decide_eq_false_iff_not] at h19; omega)
                all_goals
                  exfalso; simp only [Int32.lt_iff_toInt_lt, t1, t100] at *; have : stpB w x y = true := (by unfold stpB; rw [hc, decide_eq_true (by omega)]; rfl); rw [this] at hb; exact absurd hb (by decide)
              · try first | contradiction | omega | (simp only [decide_eq_true_eq, decide_eq_false_iff_not] at h19; omega)
                all_goals
                  refine e_iconst (v := -1) dX5_takeSteps_22 rfl ?_
                  refine e_ret (some _) rfl (r_int dX5_takeSteps_23 rfl) ?_
                  exact kq rfl hF hK
  | true =>
    rw [if_pos rfl, if_pos rfl, if_pos rfl]
    have hb2 := hb
    unfold stpB at hb2
    simp only [Bool.and_eq_true, decide_eq_true_eq] at hb2
    obtain ⟨hy, hc⟩ := hb2
    obtain ⟨n, hn, hn2, rfl⟩ := inR_ex (x := y) (n := 101) (by unfold inR; exact decide_eq_true (by omega))
    have hx : inR x (w 3) = true := by unfold csT at hc; simp only [Bool.and_eq_true] at hc; exact hc.1.1
    obtain ⟨m, hm, hm2, rfl⟩ := inR_ex hx
    rw [nI_toInt (b31 hn2)] at hy
    rw [nI_clamp hm2, nI_clamp hn2]
    have ex : ∀ fi2 ai2 z, FR1 fi ai fi2 ai2 → K fi2 ai2 (st1 w m n) (stL lg w m n) (st1 w m n 0) → EV mX5_takeSteps 4 0 0 68 [some (.ref (rf 5 73)), some (.int (nI m)), some (.int (nI n)), some (.ref (rf 4 (34 + 2 * m))), z] [] fi2 fr ai2 ar N (kQ (some (.int (nI (st1 w m n (7694 + 72 * m + 0))))) fi fr ai ar N (fun fi ai => K fi ai (st1 w m n) (stL lg w m n) (st1 w m n 0))) := by
      intro fi2 ai2 z hF hK
      obtain ⟨a, b, c, d⟩ := st_all iv i2 hm h01 n
      refine e_aload_n dX5_takeSteps_68 rfl rfl ?_
      refine e_getE dX5_takeSteps_69 fl_X5_87 rfl (k_m2 hK (by first | omega | (simp (disch := omega) only [upN_n, upN_s]; omega))) ?_
      refine e_ret (some _) rfl (r_int dX5_takeSteps_72 rfl) ?_
      exact kq rfl hF hK
    have key := ev_up (P := fun j => ∀ fi2 ai2, FR1 fi ai fi2 ai2 → K fi2 ai2 (st1 w m j) (stL lg w m j) (st1 w m j 0) → EV mX5_takeSteps 4 0 0 37 [some (.ref (rf 5 73)), some (.int (nI m)), some (.int (nI n)), some (.ref (rf 4 (34 + 2 * m))), some (.int (nI j))] [] fi2 fr ai2 ar N (kQ (some (.int (nI (st1 w m n (7694 + 72 * m + 0))))) fi fr ai ar N (fun fi ai => K fi ai (st1 w m n) (stL lg w m n) (st1 w m n 0)))) n (fun j hj ih fi2 ai2 hF hK => by
      obtain ⟨a, b, c, d⟩ := st_all iv i2 hm h01 j
      have hqj := iv_mv a (m := m) (by omega)
      have hs1 : st1 w m (j + 1) = if csN (st1 w m j) m then sonW (st1 w m j) m else st1 w m j := rfl
      have hs2 : stL lg w m (j + 1) = if csN (st1 w m j) m then sonL (stL lg w m j) (st1 w m j) m else stL lg w m j := rfl
      have hcs : csN (st1 w m j) m = (goB (st1 w m j) m && decide (st1 w m j (7694 + 72 * m + 7) = 0)) := rfl
      have hf := fun h => st1_f (lg := lg) (w := w) (m := m) (k := j) h (n - j)
      rw [show j + (n - j) = n by omega] at hf
      have hgg : goB (st1 w m j) m = true → 1 ≤ st1 w m j (7694 + 72 * m + 0) ∧ st1 w m j (7694 + 72 * m + 0) ≤ 4 := fun h => goB_e1 h
      rw [hs1, hs2] at ih
      have iv := a
      have i2 := b
      generalize st1 w m j = W at *
      generalize stL lg w m j = LL at *
      refine e_iload dX5_takeSteps_37 rfl ?_
      refine e_iload_n dX5_takeSteps_39 rfl rfl ?_
      first | ((with_reducible refine mk_nn ?_); refine n_icmp_ge (tgt := 68) dX5_takeSteps_40 (by decide) (by omega) (by omega) (fun h40 => ?_) (fun h40 => ?_)) | refine e_icmp_ge (tgt := 68) dX5_takeSteps_40 (by decide) (fun h40 => ?_) (fun h40 => ?_)
      · try first | contradiction | omega
        all_goals
          first | (exfalso; omega) | (obtain ⟨q1, q2⟩ := hf (by rw [hcs]; first | (rw [h47]; rfl) | (rw [decide_eq_false (by omega)]; simp)); rw [q1, q2] at ex ⊢; exact ex _ _ _ hF hK)
      · try first | contradiction | omega
        all_goals
          refine e_aload_n dX5_takeSteps_43 rfl rfl ?_
          refine x_V0 (M' := mX4_goesOn) dX5_takeSteps_44 ml_X5_75 ok_X4_goesOn (by decide) rfl im_X4_goesOn se_X4_goesOn (ct_X4_goesOn cm iv hK (by omega)) (Nat.le_of_ble_eq_true rfl) (by decide) (Nat.le_of_ble_eq_true rfl) ?_
          first | ((with_reducible refine mk_b ?_); refine b_if_eq (tgt := 68) dX5_takeSteps_47 (by decide) (fun h47 => ?_) (fun h47 => ?_)) | ((with_reducible refine mk_ll ?_); refine m_if_eq (tgt := 68) dX5_takeSteps_47 (by decide) (by omega) (by omega) (fun h47 => ?_) (fun h47 => ?_)) | ((with_reducible refine mk_lc ?_); refine l_if_eq (tgt := 68) dX5_takeSteps_47 (by decide) (fun h47 => ?_) (fun h47 => ?_)) | ((with_reducible refine mk_n ?_); refine n_if_eq (tgt := 68) dX5_takeSteps_47 (by decide) (by omega) (fun h47 => ?_) (fun h47 => ?_)) | refine e_if_eq (tgt := 68) dX5_takeSteps_47 (by decide) (fun h47 => ?_) (fun h47 => ?_)
          · try first | contradiction | omega | (simp only [decide_eq_true_eq, decide_eq_false_iff_not] at h47; omega)
            all_goals
              first | (exfalso; omega) | (obtain ⟨q1, q2⟩ := hf (by rw [hcs]; first | (rw [h47]; rfl) | (rw [decide_eq_false (by omega)]; simp)); rw [q1, q2] at ex ⊢; exact ex _ _ _ hF hK)
          · try first | contradiction | omega | (simp only [decide_eq_true_eq, decide_eq_false_iff_not] at h47; omega)
            all_goals
              refine e_aload_n dX5_takeSteps_50 rfl rfl ?_
              refine e_getE dX5_takeSteps_51 fl_X5_79 rfl (k_m8 hK (by first | omega | (simp (disch := omega) only [upN_n, upN_s]; omega))) ?_
              first | ((with_reducible refine mk_b ?_); refine b_if_ne (tgt := 68) dX5_takeSteps_54 (by decide) (fun h54 => ?_) (fun h54 => ?_)) | ((with_reducible refine mk_ll ?_); refine m_if_ne (tgt := 68) dX5_takeSteps_54 (by decide) (by omega) (by omega) (fun h54 => ?_) (fun h54 => ?_)) | ((with_reducible refine mk_lc ?_); refine l_if_ne (tgt := 68) dX5_takeSteps_54 (by decide) (fun h54 => ?_) (fun h54 => ?_)) | ((with_reducible refine mk_n ?_); refine n_if_ne (tgt := 68) dX5_takeSteps_54 (by decide) (by omega) (fun h54 => ?_) (fun h54 => ?_)) | refine e_if_ne (tgt := 68) dX5_takeSteps_54 (by decide) (fun h54 => ?_) (fun h54 => ?_)
              · try first | contradiction | omega | (simp only [decide_eq_true_eq, decide_eq_false_iff_not] at h54; omega)
                all_goals
                  first | (exfalso; omega) | (obtain ⟨q1, q2⟩ := hf (by rw [hcs]; first | (rw [h47]; rfl) | (rw [decide_eq_false (by omega)]; simp)); rw [q1, q2] at ex ⊢; exact ex _ _ _ hF hK)
              · try first | contradiction | omega | (simp only [decide_eq_true_eq, decide_eq_false_iff_not] at h54; omega)
                all_goals
                  refine e_aload_n dX5_takeSteps_57 rfl rfl ?_
                  refine e_aload_n dX5_takeSteps_58 rfl rfl ?_
                  refine ky_V1 (M' := mX5_takeOne) dX5_takeSteps_59 ml_X5_83 ok_X5_takeOne (by decide) rfl im_X5_takeOne se_X5_takeOne (ct_X5_takeOne cm iv i2 hK (by omega) (hgg (by assumption)) (fun h => d (by omega))) (Nat.le_of_ble_eq_true rfl) (by decide) (Nat.le_of_ble_eq_true rfl) (fun fi ai hG hK => ?_)
                  have hF := FR1_tr hF hG
                  first | refine n_inc dX5_takeSteps_62 rfl (Nat.le_of_ble_eq_true rfl) rfl ?_ | refine e_iinc dX5_takeSteps_62 rfl rfl (Nat.le_of_ble_eq_true rfl) rfl ?_
                  refine e_goto (tgt := 37) dX5_takeSteps_65 (by decide) ?_
                  rw [show csN W m = true by rw [hcs, decide_eq_true (show W (7694 + 72 * m + 7) = 0 by omega)]; simp_all] at ih
                  exact ih _ _ hF hK
      ) (fun fi2 ai2 hF hK => by
      refine e_iload dX5_takeSteps_37 rfl ?_
      refine e_iload_n dX5_takeSteps_39 rfl rfl ?_
      first | ((with_reducible refine mk_nn ?_); refine n_icmp_ge (tgt := 68) dX5_takeSteps_40 (by decide) (by omega) (by omega) (fun h40 => ?_) (fun h40 => ?_)) | refine e_icmp_ge (tgt := 68) dX5_takeSteps_40 (by decide) (fun h40 => ?_) (fun h40 => ?_)
      · try first | contradiction | omega
        all_goals
          exact ex _ _ _ hF hK
      · try first | contradiction | omega
        all_goals
          omega
      )
    refine e_iload_n dX5_takeSteps_0 rfl rfl ?_
    refine e_iconst (v := nI 1) dX5_takeSteps_1 rfl ?_
    first | ((with_reducible refine mk_nn ?_); refine n_icmp_lt (tgt := 22) dX5_takeSteps_2 (by decide) (by omega) (by omega) (fun h2 => ?_) (fun h2 => ?_)) | refine e_icmp_lt (tgt := 22) dX5_takeSteps_2 (by decide) (fun h2 => ?_) (fun h2 => ?_)
    · try first | contradiction | omega
      all_goals
        first | omega | contradiction
    · try first | contradiction | omega
      all_goals
        refine e_iload_n dX5_takeSteps_5 rfl rfl ?_
        refine e_bipush (v := nI 100) dX5_takeSteps_6 rfl ?_
        first | ((with_reducible refine mk_nn ?_); refine n_icmp_gt (tgt := 22) dX5_takeSteps_8 (by decide) (by omega) (by omega) (fun h8 => ?_) (fun h8 => ?_)) | refine e_icmp_gt (tgt := 22) dX5_takeSteps_8 (by decide) (fun h8 => ?_) (fun h8 => ?_)
        · try first | contradiction | omega
          all_goals
            first | omega | contradiction
        · try first | contradiction | omega
          all_goals
            refine e_aload_n dX5_takeSteps_11 rfl rfl ?_
            refine e_getR dX5_takeSteps_12 fl_X5_9 rfl (cv_w cm) ?_
            refine e_iload_n dX5_takeSteps_15 rfl rfl ?_
            refine x_V1 (M' := mX9_canStep) dX5_takeSteps_16 ml_X5_72 ok_X9_canStep (by decide) rfl im_X9_canStep se_X9_canStep (ct_X9_canStep cm iv hK ‹_› _) (Nat.le_of_ble_eq_true rfl) (by decide) (Nat.le_of_ble_eq_true rfl) ?_
            rw [hc]
            first | ((with_reducible refine mk_b ?_); refine b_if_ne (tgt := 24) dX5_takeSteps_19 (by decide) (fun h19 => ?_) (fun h19 => ?_)) | ((with_reducible refine mk_ll ?_); refine m_if_ne (tgt := 24) dX5_takeSteps_19 (by decide) (by omega) (by omega) (fun h19 => ?_) (fun h19 => ?_)) | ((with_reducible refine mk_lc ?_); refine l_if_ne (tgt := 24) dX5_takeSteps_19 (by decide) (fun h19 => ?_) (fun h19 => ?_)) | ((with_reducible refine mk_n ?_); refine n_if_ne (tgt := 24) dX5_takeSteps_19 (by decide) (by omega) (fun h19 => ?_) (fun h19 => ?_)) | refine e_if_ne (tgt := 24) dX5_takeSteps_19 (by decide) (fun h19 => ?_) (fun h19 => ?_)
            · try first | contradiction | omega | (simp only [decide_eq_true_eq, decide_eq_false_iff_not] at h19; omega)
              all_goals
                refine e_aload_n dX5_takeSteps_24 rfl rfl ?_
                refine e_getR dX5_takeSteps_25 fl_X5_9 rfl (cv_w cm) ?_
                refine e_getR dX5_takeSteps_28 fl_X5_53 rfl (cm_mvs cm) ?_
                refine e_iload_n dX5_takeSteps_31 rfl rfl ?_
                refine e_aald _ dX5_takeSteps_32 ⟨by decide, by decide⟩ rfl rfl (by simp only [lenK]; omega) (cm_mo cm (by omega)) ?_
                refine e_astore_n dX5_takeSteps_33 rfl (Nat.le_of_ble_eq_true rfl) rfl ?_
                refine e_iconst (v := nI 0) dX5_takeSteps_34 rfl ?_
                refine e_istore dX5_takeSteps_35 (Nat.le_of_ble_eq_true rfl) rfl ?_
                exact key 0 (by omega) _ _ hF hK
            · try first | contradiction | omega | (simp only [decide_eq_true_eq, decide_eq_false_iff_not] at h19; omega)
              all_goals
                first | omega | contradiction
