/-- beside the cells 1 .. 70 only the count of acts changed -/
def FR2 (fi ai fi' ai' : FI) : Prop := (∀ f r, 71 ≤ r / 64 ∨ r / 64 = 0 → ¬ (f = 32 * 0 + 2 ∧ r = rf 0 74) → fi' f r = fi f r) ∧ ∀ a, 71 ≤ a / 64 ∨ a / 64 = 0 → ai' a = ai a
def gQ2 (r : Option Value) (b : Bool) (fi : FI) (fr : FR) (ai : FI) (ar : FR) (N : Nat) (P : FI → FI → Prop) : EQ := mQ r fr ar N (fun fi' ai' => FR2 fi ai fi' ai' ∧ fi' (32 * 0 + 2) (rf 0 74) = (if b then nI 0 else fi (32 * 0 + 2) (rf 0 74)) ∧ P fi' ai')
theorem FR2_a {a b c d : FI} (h : FR1 a b c d) : FR2 a b c d := ⟨fun f r hr _ => h.1 f r hr, h.2⟩
theorem FR2_t {a b c d e f : FI} (h : FR2 a b c d) (g : FR1 c d e f) : FR2 a b e f := ⟨fun q r hr hn => (g.1 q r hr).trans (h.1 q r hr hn), fun q hq => (g.2 q hq).trans (h.2 q hq)⟩
theorem FR2_c {a b fi ai : FI} {x : Int32} (h : FR2 a b fi ai) : FR2 a b (up2 fi (32 * 0 + 2) (rf 0 74) x) ai := ⟨fun q r hr hn => (up2_n _ _ hn).trans (h.1 q r hr hn), h.2⟩
theorem FR1_ct {a b c d : FI} (h : FR1 a b c d) : c (32 * 0 + 2) (rf 0 74) = a (32 * 0 + 2) (rf 0 74) := h.1 _ _ (by rw [rf_div (by decide)]; omega)
theorem K_ct {fi ai : FI} {w lg : Nat → Nat} {E : Nat} {x : Int32} (bd : Bd w) (h : K fi ai w lg E) : K (up2 fi (32 * 0 + 2) (rf 0 74) x) ai w lg E := K_fr bd.2.1 (fun f r a b => up2_n _ _ (fun e => by rw [e.2, rf_div (by decide)] at b; omega)) (fun _ _ _ => rfl) h
theorem gq0 {r1 r : Option Value} {fi fi1 : FI} {fr : FR} {ai ai1 : FI} {ar : FR} {N : Nat} {P : FI → FI → Prop} (h : r1 = r) (hF : FR1 fi ai fi1 ai1) (hP : P fi1 ai1) : gQ2 r false fi fr ai ar N P r1 fi1 fr ai1 ar N := ⟨h, rfl, rfl, rfl, FR2_a hF, FR1_ct hF, hP⟩
theorem gq1 {r1 r : Option Value} {fi fi1 : FI} {fr : FR} {ai ai1 : FI} {ar : FR} {N : Nat} {P : FI → FI → Prop} (h : r1 = r) (hF : FR1 fi ai fi1 ai1) (hP : P (up2 fi1 (32 * 0 + 2) (rf 0 74) (nI 0)) ai1) : gQ2 r true fi fr ai ar N P r1 (up2 fi1 (32 * 0 + 2) (rf 0 74) (nI 0)) fr ai1 ar N := ⟨h, rfl, rfl, rfl, FR2_c (FR2_a hF), up2_s _ _ _ _, hP⟩
theorem gq2 {r1 r : Option Value} {fi fi1 : FI} {fr : FR} {ai ai1 : FI} {ar : FR} {N : Nat} {b : Bool} {P : FI → FI → Prop} (h : r1 = r) (hF : FR2 fi ai fi1 ai1) (hc : fi1 (32 * 0 + 2) (rf 0 74) = if b then nI 0 else fi (32 * 0 + 2) (rf 0 74)) (hP : P fi1 ai1) : gQ2 r b fi fr ai ar N P r1 fi1 fr ai1 ar N := ⟨h, rfl, rfl, rfl, hF, hc, hP⟩
theorem ct_X0_forget {fi : FI} {fr : FR} {ai : FI} {ar : FR} {N : Nat} : CP mX0_forget 0 0 0 [.ref (rf 0 74)] fi fr ai ar N (xQ none (up2 fi (32 * 0 + 2) (rf 0 74) (nI 0)) fr ai ar N) := by
  change EV mX0_forget 0 0 0 0 [some (.ref (rf 0 74))] [] fi fr ai ar N _
  refine e_aload_n dX0_forget_0 rfl rfl ?_
  refine e_iconst (v := nI 0) dX0_forget_1 rfl ?_
  refine e_putI dX0_forget_2 fl_X0_26 rfl rfl rfl rfl ?_
  refine e_ret none rfl (r_void dX0_forget_5 rfl) ?_
  exact xq rfl rfl rfl rfl rfl rfl
theorem Bd_fet {w : Nat → Nat} (iv : Inv w) {c : Nat} (hc : c < 6) : Bd (fetW w c) := by
  have h1 := iv_n iv
  have bd := Bd_iv iv
  refine ⟨by rw [fet_o h1.2 (by omega)]; exact bd.1, by rw [fet_o h1.2 (by omega)]; exact bd.2.1, fun c2 hc2 => ?_, fun m hm => ?_⟩
  · by_cases e : c2 = c
    · subst e
      have : fetW w c2 (7106 + 98 * c2 + 1) = w 1 := by unfold fetW fcF; rw [if_neg (by omega), if_pos rfl]
      rw [this]; exact h1.2
    · rw [fet_o h1.2 (by omega)]; exact bd.2.2.1 c2 hc2
  · rw [fet_o h1.2 (by omega)] at hm
    rw [fet_o h1.2 (by omega)]; exact bd.2.2.2 m hm
theorem m1_neg : ∀ a, a < 5 → 1 ≤ a → ¬ (0 ≤ (-1 : Int32) - nI a) := by decide
theorem m1_neg2 : ∀ a, a < 5 → 1 ≤ a → (-1 : Int32) - nI a < 0 := by decide
theorem ct_X10_fetch {fi : FI} {fr : FR} {ai : FI} {ar : FR} {N : Nat} {w lg : Nat → Nat} {E : Nat} (cm : CM fr ar) (iv : Inv w) (hK : K fi ai w lg E) (x : Int32) : CP mX10_fetch 3 0 0 [.ref (rf 10 0), .int x] fi fr ai ar N (gQ2 (some (.int (if inR x 6 then nI (w 0) else -1))) (inR x 6) fi fr ai ar N (fun fi ai => K fi ai (if inR x 6 then fetW w x.toNatClampNeg else w) lg E)) := by
  have h1 := iv_n iv
  have h3 := iv_mm iv
  have bd := Bd_iv iv
  have hF : FR1 fi ai fi ai := FR1_rf
  have he0 := iv_ep0 iv
  change EV mX10_fetch 3 0 0 0 [some (.ref (rf 10 0)), some (.int x), none] [] fi fr ai ar N (gQ2 (some (.int (if inR x 6 then nI (w 0) else -1))) (inR x 6) fi fr ai ar N (fun fi ai => K fi ai (if inR x 6 then fetW w x.toNatClampNeg else w) lg E))
  cases hx : inR x 6 with
  | false =>
    refine e_aload_n dX10_fetch_0 rfl rfl ?_
    refine e_getR dX10_fetch_1 fl_X10_35 rfl (cx_2 cm) ?_
    refine e_iload_n dX10_fetch_4 rfl rfl ?_
    refine kx_V1 (M' := mX1_takeMap) dX10_fetch_5 ml_X10_79 ok_X1_takeMap (by decide) rfl im_X1_takeMap se_X1_takeMap (ct_X1_takeMap cm iv hK _) (Nat.le_of_ble_eq_true rfl) (by decide) (Nat.le_of_ble_eq_true rfl) (fun fi ai hG hK => ?_)
    have hF := FR1_tr hF hG
    rw [hx] at hK
    rw [hx]
    refine e_istore_n dX10_fetch_8 rfl (Nat.le_of_ble_eq_true rfl) rfl ?_
    refine e_iload_n dX10_fetch_9 rfl rfl ?_
    refine e_iconst (v := -1) dX10_fetch_10 rfl ?_
    first | ((with_reducible refine mk_mo ?_); refine p_icmp_eq (tgt := 21) dX10_fetch_11 (by decide) (fun h11 => ?_) (fun h11 => ?_)) | ((with_reducible refine mk_ms ?_); refine s_icmp_eq (tgt := 21) dX10_fetch_11 (by decide) (by omega) (fun h11 => ?_) (fun h11 => ?_)) | ((with_reducible refine mk_mn ?_); refine q_icmp_eq (tgt := 21) dX10_fetch_11 (by decide) (by omega) (fun h11 => ?_) (fun h11 => ?_)) | ((with_reducible refine mk_nn ?_); refine n_icmp_eq (tgt := 21) dX10_fetch_11 (by decide) (by omega) (by omega) (fun h11 => ?_) (fun h11 => ?_)) | refine e_icmp_eq (tgt := 21) dX10_fetch_11 (by decide) (fun h11 => ?_) (fun h11 => ?_)
    · try first | contradiction | omega
      all_goals
        refine e_iload_n dX10_fetch_21 rfl rfl ?_
        refine e_ret (some _) rfl (r_int dX10_fetch_22 rfl) ?_
        exact gq0 rfl hF hK
    · try first | contradiction | omega
      all_goals
        exact absurd rfl h11
  | true =>
    rw [if_pos rfl, if_pos rfl]
    obtain ⟨c, hc, hc2, rfl⟩ := inR_ex hx
    rw [nI_clamp hc2]
    refine e_aload_n dX10_fetch_0 rfl rfl ?_
    refine e_getR dX10_fetch_1 fl_X10_35 rfl (cx_2 cm) ?_
    refine e_iload_n dX10_fetch_4 rfl rfl ?_
    refine kx_V1 (M' := mX1_takeMap) dX10_fetch_5 ml_X10_79 ok_X1_takeMap (by decide) rfl im_X1_takeMap se_X1_takeMap (ct_X1_takeMap cm iv hK _) (Nat.le_of_ble_eq_true rfl) (by decide) (Nat.le_of_ble_eq_true rfl) (fun fi ai hG hK => ?_)
    have hF := FR1_tr hF hG
    rw [hx] at hK
    rw [hx, if_pos rfl]
    rw [if_pos rfl] at hK
    refine e_istore_n dX10_fetch_8 rfl (Nat.le_of_ble_eq_true rfl) rfl ?_
    refine e_iload_n dX10_fetch_9 rfl rfl ?_
    refine e_iconst (v := -1) dX10_fetch_10 rfl ?_
    first | ((with_reducible refine mk_mo ?_); refine p_icmp_eq (tgt := 21) dX10_fetch_11 (by decide) (fun h11 => ?_) (fun h11 => ?_)) | ((with_reducible refine mk_ms ?_); refine s_icmp_eq (tgt := 21) dX10_fetch_11 (by decide) (by omega) (fun h11 => ?_) (fun h11 => ?_)) | ((with_reducible refine mk_mn ?_); refine q_icmp_eq (tgt := 21) dX10_fetch_11 (by decide) (by omega) (fun h11 => ?_) (fun h11 => ?_)) | ((with_reducible refine mk_nn ?_); refine n_icmp_eq (tgt := 21) dX10_fetch_11 (by decide) (by omega) (by omega) (fun h11 => ?_) (fun h11 => ?_)) | refine e_icmp_eq (tgt := 21) dX10_fetch_11 (by decide) (fun h11 => ?_) (fun h11 => ?_)
    · try first | contradiction | omega
      all_goals
        refine e_iload_n dX10_fetch_21 rfl rfl ?_
        refine e_ret (some _) rfl (r_int dX10_fetch_22 rfl) ?_
        first | contradiction | (rw [nI_clamp hc2] at hK; exact gq1 rfl hF (K_ct (Bd_fet iv hc) hK))
    · try first | contradiction | omega
      all_goals
        refine e_aload_n dX10_fetch_14 rfl rfl ?_
        refine e_getR dX10_fetch_15 fl_X10_58 rfl (cx_6 cm) ?_
        refine y_V0 (M' := mX0_forget) dX10_fetch_18 ml_X10_83 ok_X0_forget (by decide) rfl im_X0_forget se_X0_forget (ct_X0_forget) (Nat.le_of_ble_eq_true rfl) (by decide) (Nat.le_of_ble_eq_true rfl) ?_
        refine e_iload_n dX10_fetch_21 rfl rfl ?_
        refine e_ret (some _) rfl (r_int dX10_fetch_22 rfl) ?_
        first | contradiction | (rw [nI_clamp hc2] at hK; exact gq1 rfl hF (K_ct (Bd_fet iv hc) hK))
theorem ct_X10_read {fi : FI} {fr : FR} {ai : FI} {ar : FR} {N : Nat} {w lg : Nat → Nat} {E : Nat} (cm : CM fr ar) (iv : Inv w) (hK : K fi ai w lg E) (x y : Int32) (hwt : ∀ k, k < 1000 → w (106 + k) + 2 ≤ 100000) : CP mX10_read 4 0 0 [.ref (rf 10 0), .int x, .int y] fi fr ai ar N (gQ2 (some (.int (redR w x y))) (inR x 6 && inR y 1000 && decide (anF w x.toNatClampNeg y.toNatClampNeg = 0)) fi fr ai ar N (fun fi ai => K fi ai (redW w x y) lg E)) := by
  have h1 := iv_n iv
  have h3 := iv_mm iv
  have bd := Bd_iv iv
  have hF : FR1 fi ai fi ai := FR1_rf
  change EV mX10_read 4 0 0 0 [some (.ref (rf 10 0)), some (.int x), some (.int y), none] [] fi fr ai ar N (gQ2 (some (.int (redR w x y))) (inR x 6 && inR y 1000 && decide (anF w x.toNatClampNeg y.toNatClampNeg = 0)) fi fr ai ar N (fun fi ai => K fi ai (redW w x y) lg E))
  by_cases hxy : inR x 6 = true ∧ inR y 1000 = true
  · obtain ⟨c, hc, hc2, rfl⟩ := inR_ex hxy.1
    obtain ⟨k, hk, hk2, rfl⟩ := inR_ex hxy.2
    have e2 : redW w (nI c) (nI k) = askW w c k 0 := by unfold redW; rw [if_pos hxy, nI_clamp hc2, nI_clamp hk2]
    have e1 : redR w (nI c) (nI k) = if anF w c k = 0 then nI (w (1106 + 1000 * w (42 + spW w k) + k)) else -1 - nI (anF w c k) := by unfold redR; rw [if_pos hxy, nI_clamp hc2, nI_clamp hk2]
    have hal := anF_le w c k
    have hso := iv_own iv (spW_lt iv k)
    have hvl := iv_va iv (i := 1000 * w (42 + spW w k) + k) (by omega)
    rw [← Nat.add_assoc] at hvl
    rw [e1, e2, hxy.1, hxy.2, nI_clamp hc2, nI_clamp hk2]
    have bdA := Bd_iv (ask_Inv iv (c := c) (k := k) (v := 0) hc hk (by omega) (hwt k hk))
    by_cases ha : anF w c k = 0
    · rw [if_pos ha, decide_eq_true ha]
      refine e_aload_n dX10_read_0 rfl rfl ?_
      refine e_getR dX10_read_1 fl_X10_35 rfl (cx_2 cm) ?_
      refine e_iload_n dX10_read_4 rfl rfl ?_
      refine e_iload_n dX10_read_5 rfl rfl ?_
      refine kx_V2 (M' := mX1_readKey) dX10_read_6 ml_X10_86 ok_X1_readKey (by decide) rfl im_X1_readKey se_X1_readKey (ct_X1_readKey cm iv hK _ _) (Nat.le_of_ble_eq_true rfl) (by decide) (Nat.le_of_ble_eq_true rfl) (fun fi ai hG hK => ?_)
      have hF := FR1_tr hF hG
      rw [e2] at hK
      rw [e1, if_pos ha]
      refine e_istore_n dX10_read_9 rfl (Nat.le_of_ble_eq_true rfl) rfl ?_
      refine e_iload_n dX10_read_10 rfl rfl ?_
      first | ((with_reducible refine mk_ll ?_); refine m_if_lt (tgt := 21) dX10_read_11 (by decide) (by omega) (by omega) (fun h11 => ?_) (fun h11 => ?_)) | ((with_reducible refine mk_lc ?_); refine l_if_lt (tgt := 21) dX10_read_11 (by decide) (fun h11 => ?_) (fun h11 => ?_)) | ((with_reducible refine mk_n ?_); refine n_if_lt (tgt := 21) dX10_read_11 (by decide) (by omega) (fun h11 => ?_) (fun h11 => ?_)) | refine e_if_lt (tgt := 21) dX10_read_11 (by decide) (fun h11 => ?_) (fun h11 => ?_)
      · try first | contradiction | omega
        all_goals
          refine e_iload_n dX10_read_21 rfl rfl ?_
          refine e_ret (some _) rfl (r_int dX10_read_22 rfl) ?_
          first | (exact gq1 rfl hF (K_ct bdA hK)) | contradiction
      · try first | contradiction | omega
        all_goals
          refine e_aload_n dX10_read_14 rfl rfl ?_
          refine e_getR dX10_read_15 fl_X10_58 rfl (cx_6 cm) ?_
          refine y_V0 (M' := mX0_forget) dX10_read_18 ml_X10_83 ok_X0_forget (by decide) rfl im_X0_forget se_X0_forget (ct_X0_forget) (Nat.le_of_ble_eq_true rfl) (by decide) (Nat.le_of_ble_eq_true rfl) ?_
          refine e_iload_n dX10_read_21 rfl rfl ?_
          refine e_ret (some _) rfl (r_int dX10_read_22 rfl) ?_
          first | (exact gq1 rfl hF (K_ct bdA hK)) | contradiction
    · rw [if_neg ha, decide_eq_false ha]
      refine e_aload_n dX10_read_0 rfl rfl ?_
      refine e_getR dX10_read_1 fl_X10_35 rfl (cx_2 cm) ?_
      refine e_iload_n dX10_read_4 rfl rfl ?_
      refine e_iload_n dX10_read_5 rfl rfl ?_
      refine kx_V2 (M' := mX1_readKey) dX10_read_6 ml_X10_86 ok_X1_readKey (by decide) rfl im_X1_readKey se_X1_readKey (ct_X1_readKey cm iv hK _ _) (Nat.le_of_ble_eq_true rfl) (by decide) (Nat.le_of_ble_eq_true rfl) (fun fi ai hG hK => ?_)
      have hF := FR1_tr hF hG
      rw [e2] at hK
      rw [e1, if_neg ha]
      have hneg := m1_neg2 (anF w c k) (by omega) (by omega)
      clear e1
      generalize -1 - nI (anF w c k) = tt at *
      refine e_istore_n dX10_read_9 rfl (Nat.le_of_ble_eq_true rfl) rfl ?_
      refine e_iload_n dX10_read_10 rfl rfl ?_
      first | ((with_reducible refine mk_ll ?_); refine m_if_lt (tgt := 21) dX10_read_11 (by decide) (by omega) (by omega) (fun h11 => ?_) (fun h11 => ?_)) | ((with_reducible refine mk_lc ?_); refine l_if_lt (tgt := 21) dX10_read_11 (by decide) (fun h11 => ?_) (fun h11 => ?_)) | ((with_reducible refine mk_n ?_); refine n_if_lt (tgt := 21) dX10_read_11 (by decide) (by omega) (fun h11 => ?_) (fun h11 => ?_)) | refine e_if_lt (tgt := 21) dX10_read_11 (by decide) (fun h11 => ?_) (fun h11 => ?_)
      · try first | contradiction | omega
        all_goals
          refine e_iload_n dX10_read_21 rfl rfl ?_
          refine e_ret (some _) rfl (r_int dX10_read_22 rfl) ?_
          exact gq0 rfl hF hK
      · try first | contradiction | omega
        all_goals
          exact absurd hneg h11
  · have e2 : redW w x y = w := by unfold redW; rw [if_neg hxy]
    have e1 : redR w x y = -10 := by unfold redR; rw [if_neg hxy]
    have e3 : (inR x 6 && inR y 1000 && decide (anF w x.toNatClampNeg y.toNatClampNeg = 0)) = false := by
      cases h6 : inR x 6 with
      | false => rfl
      | true => cases h7 : inR y 1000 with
        | false => rfl
        | true => exact absurd ⟨h6, h7⟩ hxy
    rw [e1, e2, e3]
    refine e_aload_n dX10_read_0 rfl rfl ?_
    refine e_getR dX10_read_1 fl_X10_35 rfl (cx_2 cm) ?_
    refine e_iload_n dX10_read_4 rfl rfl ?_
    refine e_iload_n dX10_read_5 rfl rfl ?_
    refine kx_V2 (M' := mX1_readKey) dX10_read_6 ml_X10_86 ok_X1_readKey (by decide) rfl im_X1_readKey se_X1_readKey (ct_X1_readKey cm iv hK _ _) (Nat.le_of_ble_eq_true rfl) (by decide) (Nat.le_of_ble_eq_true rfl) (fun fi ai hG hK => ?_)
    have hF := FR1_tr hF hG
    rw [e2] at hK
    rw [e1]
    refine e_istore_n dX10_read_9 rfl (Nat.le_of_ble_eq_true rfl) rfl ?_
    refine e_iload_n dX10_read_10 rfl rfl ?_
    first | ((with_reducible refine mk_ll ?_); refine m_if_lt (tgt := 21) dX10_read_11 (by decide) (by omega) (by omega) (fun h11 => ?_) (fun h11 => ?_)) | ((with_reducible refine mk_lc ?_); refine l_if_lt (tgt := 21) dX10_read_11 (by decide) (fun h11 => ?_) (fun h11 => ?_)) | ((with_reducible refine mk_n ?_); refine n_if_lt (tgt := 21) dX10_read_11 (by decide) (by omega) (fun h11 => ?_) (fun h11 => ?_)) | refine e_if_lt (tgt := 21) dX10_read_11 (by decide) (fun h11 => ?_) (fun h11 => ?_)
    · try first | contradiction | omega
      all_goals
        refine e_iload_n dX10_read_21 rfl rfl ?_
        refine e_ret (some _) rfl (r_int dX10_read_22 rfl) ?_
        exact gq0 rfl hF hK
    · try first | contradiction | omega
      all_goals
        exact absurd (by decide) h11
theorem ct_X10_write {fi : FI} {fr : FR} {ai : FI} {ar : FR} {N : Nat} {w lg : Nat → Nat} {E : Nat} (cm : CM fr ar) (iv : Inv w) (hK : K fi ai w lg E) (x y v : Int32) (hwt : ∀ k, k < 1000 → w (106 + k) + 2 ≤ 100000) : CP mX10_write 4 0 0 [.ref (rf 10 0), .int x, .int y, .int v] fi fr ai ar N (gQ2 (some (.int (wriR w x y v))) (cwB x y v && decide (asA w x.toNatClampNeg y.toNatClampNeg v.toNatClampNeg = 0)) fi fr ai ar N (fun fi ai => K fi ai (wriW w x y v) lg E)) := by
  have h1 := iv_n iv
  have h3 := iv_mm iv
  have bd := Bd_iv iv
  have hF : FR1 fi ai fi ai := FR1_rf
  change EV mX10_write 4 0 0 0 [some (.ref (rf 10 0)), some (.int x), some (.int y), some (.int v), none] [] fi fr ai ar N (gQ2 (some (.int (wriR w x y v))) (cwB x y v && decide (asA w x.toNatClampNeg y.toNatClampNeg v.toNatClampNeg = 0)) fi fr ai ar N (fun fi ai => K fi ai (wriW w x y v) lg E))
  cases hcw : cwB x y v with
  | false =>
    have e1 : wriR w x y v = -1 := by unfold wriR; rw [hcw]; rfl
    have e2 : wriW w x y v = w := by unfold wriW; rw [hcw]; rfl
    rw [e1, e2]
    refine e_aload_n dX10_write_0 rfl rfl ?_
    refine e_getR dX10_write_1 fl_X10_35 rfl (cx_2 cm) ?_
    refine e_iload_n dX10_write_4 rfl rfl ?_
    refine e_iload_n dX10_write_5 rfl rfl ?_
    refine e_iload_n dX10_write_6 rfl rfl ?_
    refine kx_V3 (M' := mX1_writeKey) dX10_write_7 ml_X10_90 ok_X1_writeKey (by decide) rfl im_X1_writeKey se_X1_writeKey (ct_X1_writeKey cm iv hK _ _ _ (by assumption)) (Nat.le_of_ble_eq_true rfl) (by decide) (Nat.le_of_ble_eq_true rfl) (fun fi ai hG hK => ?_)
    have hF := FR1_tr hF hG
    rw [e2] at hK
    rw [e1]
    refine e_istore dX10_write_10 (Nat.le_of_ble_eq_true rfl) rfl ?_
    refine e_iload dX10_write_12 rfl ?_
    first | ((with_reducible refine mk_b ?_); refine b_if_ne (tgt := 24) dX10_write_14 (by decide) (fun h14 => ?_) (fun h14 => ?_)) | ((with_reducible refine mk_ll ?_); refine m_if_ne (tgt := 24) dX10_write_14 (by decide) (by omega) (by omega) (fun h14 => ?_) (fun h14 => ?_)) | ((with_reducible refine mk_lc ?_); refine l_if_ne (tgt := 24) dX10_write_14 (by decide) (fun h14 => ?_) (fun h14 => ?_)) | ((with_reducible refine mk_n ?_); refine n_if_ne (tgt := 24) dX10_write_14 (by decide) (by omega) (fun h14 => ?_) (fun h14 => ?_)) | refine e_if_ne (tgt := 24) dX10_write_14 (by decide) (fun h14 => ?_) (fun h14 => ?_)
    · try first | contradiction | omega | (simp only [decide_eq_true_eq, decide_eq_false_iff_not] at h14; omega)
      all_goals
        refine e_iload dX10_write_24 rfl ?_
        refine e_ret (some _) rfl (r_int dX10_write_26 rfl) ?_
        exact gq0 rfl hF hK
    · try first | contradiction | omega | (simp only [decide_eq_true_eq, decide_eq_false_iff_not] at h14; omega)
      all_goals
        exact absurd h14 (by decide)
  | true =>
    have hcw2 := hcw
    unfold cwB at hcw2
    simp only [Bool.and_eq_true, decide_eq_true_eq] at hcw2
    obtain ⟨⟨hx, hy⟩, hv0⟩ := hcw2
    obtain ⟨c, hc, hc2, rfl⟩ := inR_ex hx
    obtain ⟨k, hk, hk2, rfl⟩ := inR_ex hy
    obtain ⟨vv, hv1, hv2, rfl⟩ := inR_ex (x := v) (n := 100000) (by unfold inR; exact decide_eq_true (by omega))
    rw [nI_toInt (b31 hv2)] at hv0
    have e2 : wriW w (nI c) (nI k) (nI vv) = askW w c k vv := by unfold wriW; rw [hcw, if_pos rfl, nI_clamp hc2, nI_clamp hk2, nI_clamp hv2]
    have e1 : wriR w (nI c) (nI k) (nI vv) = nI (asA w c k vv) := by unfold wriR; rw [hcw, if_pos rfl, nI_clamp hc2, nI_clamp hk2, nI_clamp hv2]
    have hal : asA w c k vv ≤ 4 := by unfold asA; have := anF_le w c k; split <;> omega
    have ivA := ask_Inv iv (c := c) (k := k) (v := vv) hc hk (by omega) (hwt k hk)
    have bdA := Bd_iv ivA
    rw [e1, e2, nI_clamp hc2, nI_clamp hk2, nI_clamp hv2, Bool.true_and]
    by_cases ha : asA w c k vv = 0
    · rw [decide_eq_true ha]
      refine e_aload_n dX10_write_0 rfl rfl ?_
      refine e_getR dX10_write_1 fl_X10_35 rfl (cx_2 cm) ?_
      refine e_iload_n dX10_write_4 rfl rfl ?_
      refine e_iload_n dX10_write_5 rfl rfl ?_
      refine e_iload_n dX10_write_6 rfl rfl ?_
      refine kx_V3 (M' := mX1_writeKey) dX10_write_7 ml_X10_90 ok_X1_writeKey (by decide) rfl im_X1_writeKey se_X1_writeKey (ct_X1_writeKey cm iv hK _ _ _ (by assumption)) (Nat.le_of_ble_eq_true rfl) (by decide) (Nat.le_of_ble_eq_true rfl) (fun fi ai hG hK => ?_)
      have hF := FR1_tr hF hG
      rw [e2] at hK
      rw [e1]
      refine e_istore dX10_write_10 (Nat.le_of_ble_eq_true rfl) rfl ?_
      refine e_iload dX10_write_12 rfl ?_
      first | ((with_reducible refine mk_b ?_); refine b_if_ne (tgt := 24) dX10_write_14 (by decide) (fun h14 => ?_) (fun h14 => ?_)) | ((with_reducible refine mk_ll ?_); refine m_if_ne (tgt := 24) dX10_write_14 (by decide) (by omega) (by omega) (fun h14 => ?_) (fun h14 => ?_)) | ((with_reducible refine mk_lc ?_); refine l_if_ne (tgt := 24) dX10_write_14 (by decide) (fun h14 => ?_) (fun h14 => ?_)) | ((with_reducible refine mk_n ?_); refine n_if_ne (tgt := 24) dX10_write_14 (by decide) (by omega) (fun h14 => ?_) (fun h14 => ?_)) | refine e_if_ne (tgt := 24) dX10_write_14 (by decide) (fun h14 => ?_) (fun h14 => ?_)
      · try first | contradiction | omega | (simp only [decide_eq_true_eq, decide_eq_false_iff_not] at h14; omega)
        all_goals
          refine e_iload dX10_write_24 rfl ?_
          refine e_ret (some _) rfl (r_int dX10_write_26 rfl) ?_
          first | (exact gq1 rfl hF (K_ct bdA hK)) | contradiction
      · try first | contradiction | omega | (simp only [decide_eq_true_eq, decide_eq_false_iff_not] at h14; omega)
        all_goals
          refine e_aload_n dX10_write_17 rfl rfl ?_
          refine e_getR dX10_write_18 fl_X10_58 rfl (cx_6 cm) ?_
          refine y_V0 (M' := mX0_forget) dX10_write_21 ml_X10_83 ok_X0_forget (by decide) rfl im_X0_forget se_X0_forget (ct_X0_forget) (Nat.le_of_ble_eq_true rfl) (by decide) (Nat.le_of_ble_eq_true rfl) ?_
          refine e_iload dX10_write_24 rfl ?_
          refine e_ret (some _) rfl (r_int dX10_write_26 rfl) ?_
          first | (exact gq1 rfl hF (K_ct bdA hK)) | contradiction
    · rw [decide_eq_false ha]
      refine e_aload_n dX10_write_0 rfl rfl ?_
      refine e_getR dX10_write_1 fl_X10_35 rfl (cx_2 cm) ?_
      refine e_iload_n dX10_write_4 rfl rfl ?_
      refine e_iload_n dX10_write_5 rfl rfl ?_
      refine e_iload_n dX10_write_6 rfl rfl ?_
      refine kx_V3 (M' := mX1_writeKey) dX10_write_7 ml_X10_90 ok_X1_writeKey (by decide) rfl im_X1_writeKey se_X1_writeKey (ct_X1_writeKey cm iv hK _ _ _ (by assumption)) (Nat.le_of_ble_eq_true rfl) (by decide) (Nat.le_of_ble_eq_true rfl) (fun fi ai hG hK => ?_)
      have hF := FR1_tr hF hG
      rw [e2] at hK
      rw [e1]
      refine e_istore dX10_write_10 (Nat.le_of_ble_eq_true rfl) rfl ?_
      refine e_iload dX10_write_12 rfl ?_
      first | ((with_reducible refine mk_b ?_); refine b_if_ne (tgt := 24) dX10_write_14 (by decide) (fun h14 => ?_) (fun h14 => ?_)) | ((with_reducible refine mk_ll ?_); refine m_if_ne (tgt := 24) dX10_write_14 (by decide) (by omega) (by omega) (fun h14 => ?_) (fun h14 => ?_)) | ((with_reducible refine mk_lc ?_); refine l_if_ne (tgt := 24) dX10_write_14 (by decide) (fun h14 => ?_) (fun h14 => ?_)) | ((with_reducible refine mk_n ?_); refine n_if_ne (tgt := 24) dX10_write_14 (by decide) (by omega) (fun h14 => ?_) (fun h14 => ?_)) | refine e_if_ne (tgt := 24) dX10_write_14 (by decide) (fun h14 => ?_) (fun h14 => ?_)
      · try first | contradiction | omega | (simp only [decide_eq_true_eq, decide_eq_false_iff_not] at h14; omega)
        all_goals
          refine e_iload dX10_write_24 rfl ?_
          refine e_ret (some _) rfl (r_int dX10_write_26 rfl) ?_
          exact gq0 rfl hF hK
      · try first | contradiction | omega | (simp only [decide_eq_true_eq, decide_eq_false_iff_not] at h14; omega)
        all_goals
          omega
theorem ct_X10_insist {fi : FI} {fr : FR} {ai : FI} {ar : FR} {N : Nat} {w lg : Nat → Nat} {E : Nat} (cm : CM fr ar) (iv : Inv w) (hK : K fi ai w lg E) (h01 : 1 ≤ w 0) (x y v : Int32) (hwt : ∀ k, k < 1000 → w (106 + k) + 2 ≤ 100000) : CP mX10_insist 4 0 0 [.ref (rf 10 0), .int x, .int y, .int v] fi fr ai ar N (gQ2 (some (.int (insR w x y v))) (cwB x y v && (decide (asA w x.toNatClampNeg y.toNatClampNeg v.toNatClampNeg = 0) || decide (asA w x.toNatClampNeg y.toNatClampNeg v.toNatClampNeg = 3))) fi fr ai ar N (fun fi ai => K fi ai (insW w x y v) lg E)) := by
  have h1 := iv_n iv
  have h3 := iv_mm iv
  have bd := Bd_iv iv
  have hF : FR1 fi ai fi ai := FR1_rf
  change EV mX10_insist 4 0 0 0 [some (.ref (rf 10 0)), some (.int x), some (.int y), some (.int v), none] [] fi fr ai ar N (gQ2 (some (.int (insR w x y v))) (cwB x y v && (decide (asA w x.toNatClampNeg y.toNatClampNeg v.toNatClampNeg = 0) || decide (asA w x.toNatClampNeg y.toNatClampNeg v.toNatClampNeg = 3))) fi fr ai ar N (fun fi ai => K fi ai (insW w x y v) lg E))
  cases hcw : cwB x y v with
  | false =>
    have e1 : wriR w x y v = -1 := by unfold wriR; rw [hcw]; rfl
    have e2 : wriW w x y v = w := by unfold wriW; rw [hcw]; rfl
    have e3 : insR w x y v = -1 := by unfold insR; rw [hcw]; rfl
    have e4 : insW w x y v = w := by unfold insW; rw [hcw]; rfl
    rw [e3, e4]
    refine e_aload_n dX10_insist_0 rfl rfl ?_
    refine e_getR dX10_insist_1 fl_X10_35 rfl (cx_2 cm) ?_
    refine e_iload_n dX10_insist_4 rfl rfl ?_
    refine e_iload_n dX10_insist_5 rfl rfl ?_
    refine e_iload_n dX10_insist_6 rfl rfl ?_
    refine kx_V3 (M' := mX1_writeKey) dX10_insist_7 ml_X10_90 ok_X1_writeKey (by decide) rfl im_X1_writeKey se_X1_writeKey (ct_X1_writeKey cm iv hK _ _ _ (by assumption)) (Nat.le_of_ble_eq_true rfl) (by decide) (Nat.le_of_ble_eq_true rfl) (fun fi ai hG hK => ?_)
    have hF := FR1_tr hF hG
    rw [e2] at hK
    rw [e1]
    refine e_istore dX10_insist_10 (Nat.le_of_ble_eq_true rfl) rfl ?_
    refine e_iload dX10_insist_12 rfl ?_
    refine e_iconst (v := nI 3) dX10_insist_14 rfl ?_
    first | ((with_reducible refine mk_mo ?_); refine p_icmp_ne (tgt := 46) dX10_insist_15 (by decide) (fun h15 => ?_) (fun h15 => ?_)) | ((with_reducible refine mk_ms ?_); refine s_icmp_ne (tgt := 46) dX10_insist_15 (by decide) (by omega) (fun h15 => ?_) (fun h15 => ?_)) | ((with_reducible refine mk_mn ?_); refine q_icmp_ne (tgt := 46) dX10_insist_15 (by decide) (by omega) (fun h15 => ?_) (fun h15 => ?_)) | ((with_reducible refine mk_nn ?_); refine n_icmp_ne (tgt := 46) dX10_insist_15 (by decide) (by omega) (by omega) (fun h15 => ?_) (fun h15 => ?_)) | refine e_icmp_ne (tgt := 46) dX10_insist_15 (by decide) (fun h15 => ?_) (fun h15 => ?_)
    · try first | contradiction | omega
      all_goals
        refine e_iload dX10_insist_46 rfl ?_
        first | ((with_reducible refine mk_b ?_); refine b_if_ne (tgt := 58) dX10_insist_48 (by decide) (fun h48 => ?_) (fun h48 => ?_)) | ((with_reducible refine mk_ll ?_); refine m_if_ne (tgt := 58) dX10_insist_48 (by decide) (by omega) (by omega) (fun h48 => ?_) (fun h48 => ?_)) | ((with_reducible refine mk_lc ?_); refine l_if_ne (tgt := 58) dX10_insist_48 (by decide) (fun h48 => ?_) (fun h48 => ?_)) | ((with_reducible refine mk_n ?_); refine n_if_ne (tgt := 58) dX10_insist_48 (by decide) (by omega) (fun h48 => ?_) (fun h48 => ?_)) | refine e_if_ne (tgt := 58) dX10_insist_48 (by decide) (fun h48 => ?_) (fun h48 => ?_)
        · try first | contradiction | omega | (simp only [decide_eq_true_eq, decide_eq_false_iff_not] at h48; omega)
          all_goals
            refine e_iload dX10_insist_58 rfl ?_
            refine e_ret (some _) rfl (r_int dX10_insist_60 rfl) ?_
            exact gq0 rfl hF hK
        · try first | contradiction | omega | (simp only [decide_eq_true_eq, decide_eq_false_iff_not] at h48; omega)
          all_goals
            exact absurd h48 (by decide)
    · try first | contradiction | omega
      all_goals
        exact absurd h15 (by decide)
  | true =>
    have hcw2 := hcw
    unfold cwB at hcw2
    simp only [Bool.and_eq_true, decide_eq_true_eq] at hcw2
    obtain ⟨⟨hx, hy⟩, hv0⟩ := hcw2
    obtain ⟨c, hc, hc2, rfl⟩ := inR_ex hx
    obtain ⟨k, hk, hk2, rfl⟩ := inR_ex hy
    obtain ⟨vv, hv1, hv2, rfl⟩ := inR_ex (x := v) (n := 100000) (by unfold inR; exact decide_eq_true (by omega))
    rw [nI_toInt (b31 hv2)] at hv0
    have e2 : wriW w (nI c) (nI k) (nI vv) = askW w c k vv := by unfold wriW; rw [hcw, if_pos rfl, nI_clamp hc2, nI_clamp hk2, nI_clamp hv2]
    have e1 : wriR w (nI c) (nI k) (nI vv) = nI (asA w c k vv) := by unfold wriR; rw [hcw, if_pos rfl, nI_clamp hc2, nI_clamp hk2, nI_clamp hv2]
    have hal : asA w c k vv ≤ 4 := by unfold asA; have := anF_le w c k; split <;> omega
    have ivA := ask_Inv iv (c := c) (k := k) (v := vv) hc hk (by omega) (hwt k hk)
    have bdA := Bd_iv ivA
    rw [nI_clamp hc2, nI_clamp hk2, nI_clamp hv2, Bool.true_and]
    by_cases h33 : asA w c k vv = 3
    · have e3 : insR w (nI c) (nI k) (nI vv) = nI (asA (insW2 w c k vv) c k vv) := by unfold insR; rw [hcw, if_pos rfl, nI_clamp hc2, nI_clamp hk2, nI_clamp hv2, if_pos h33]
      have e4 : insW w (nI c) (nI k) (nI vv) = askW (insW2 w c k vv) c k vv := by unfold insW; rw [hcw, if_pos rfl, nI_clamp hc2, nI_clamp hk2, nI_clamp hv2, if_pos h33]
      rw [e3, e4, h33, decide_eq_true (show 3 = 3 from rfl), Bool.or_true]
      have a0 : askW w c k vv 0 = w 0 := ask_fr iv hc hk (by omega)
      have iv2 : Inv (insW2 w c k vv) := fet_Inv ivA (by omega) hc
      have bd2 := Bd_iv iv2
      have hA1 := (iv_n ivA).2
      have wt2 : ∀ q, q < 1000 → insW2 w c k vv (106 + q) + 2 ≤ 100000 := fun q hq => by
        have x1 : insW2 w c k vv (106 + q) = askW w c k vv (106 + q) := fet_o hA1 (by omega)
        have x2 := askN_fr (w := w) (c := c) (k := k) (v := vv) (q := 106 + q) (by omega) (by omega)
        rw [x1, x2]; exact hwt q hq
      have f1 : wriR (insW2 w c k vv) (nI c) (nI k) (nI vv) = nI (asA (insW2 w c k vv) c k vv) := by unfold wriR; rw [hcw, if_pos rfl, nI_clamp hc2, nI_clamp hk2, nI_clamp hv2]
      have f2 : wriW (insW2 w c k vv) (nI c) (nI k) (nI vv) = askW (insW2 w c k vv) c k vv := by unfold wriW; rw [hcw, if_pos rfl, nI_clamp hc2, nI_clamp hk2, nI_clamp hv2]
      have hal2 : asA (insW2 w c k vv) c k vv ≤ 4 := by unfold asA; have := anF_le (insW2 w c k vv) c k; split <;> omega
      have iv3 := ask_Inv iv2 (c := c) (k := k) (v := vv) hc hk (by omega) (wt2 k hk)
      refine e_aload_n dX10_insist_0 rfl rfl ?_
      refine e_getR dX10_insist_1 fl_X10_35 rfl (cx_2 cm) ?_
      refine e_iload_n dX10_insist_4 rfl rfl ?_
      refine e_iload_n dX10_insist_5 rfl rfl ?_
      refine e_iload_n dX10_insist_6 rfl rfl ?_
      refine kx_V3 (M' := mX1_writeKey) dX10_insist_7 ml_X10_90 ok_X1_writeKey (by decide) rfl im_X1_writeKey se_X1_writeKey (ct_X1_writeKey cm iv hK _ _ _ (by assumption)) (Nat.le_of_ble_eq_true rfl) (by decide) (Nat.le_of_ble_eq_true rfl) (fun fi ai hG hK => ?_)
      have hF := FR1_tr hF hG
      rw [e2] at hK
      rw [e1]
      refine e_istore dX10_insist_10 (Nat.le_of_ble_eq_true rfl) rfl ?_
      refine e_iload dX10_insist_12 rfl ?_
      refine e_iconst (v := nI 3) dX10_insist_14 rfl ?_
      first | ((with_reducible refine mk_mo ?_); refine p_icmp_ne (tgt := 46) dX10_insist_15 (by decide) (fun h15 => ?_) (fun h15 => ?_)) | ((with_reducible refine mk_ms ?_); refine s_icmp_ne (tgt := 46) dX10_insist_15 (by decide) (by omega) (fun h15 => ?_) (fun h15 => ?_)) | ((with_reducible refine mk_mn ?_); refine q_icmp_ne (tgt := 46) dX10_insist_15 (by decide) (by omega) (fun h15 => ?_) (fun h15 => ?_)) | ((with_reducible refine mk_nn ?_); refine n_icmp_ne (tgt := 46) dX10_insist_15 (by decide) (by omega) (by omega) (fun h15 => ?_) (fun h15 => ?_)) | refine e_icmp_ne (tgt := 46) dX10_insist_15 (by decide) (fun h15 => ?_) (fun h15 => ?_)
      · try first | contradiction | omega
        all_goals
          refine e_iload dX10_insist_46 rfl ?_
          first | ((with_reducible refine mk_b ?_); refine b_if_ne (tgt := 58) dX10_insist_48 (by decide) (fun h48 => ?_) (fun h48 => ?_)) | ((with_reducible refine mk_ll ?_); refine m_if_ne (tgt := 58) dX10_insist_48 (by decide) (by omega) (by omega) (fun h48 => ?_) (fun h48 => ?_)) | ((with_reducible refine mk_lc ?_); refine l_if_ne (tgt := 58) dX10_insist_48 (by decide) (fun h48 => ?_) (fun h48 => ?_)) | ((with_reducible refine mk_n ?_); refine n_if_ne (tgt := 58) dX10_insist_48 (by decide) (by omega) (fun h48 => ?_) (fun h48 => ?_)) | refine e_if_ne (tgt := 58) dX10_insist_48 (by decide) (fun h48 => ?_) (fun h48 => ?_)
          · try first | contradiction | omega | (simp only [decide_eq_true_eq, decide_eq_false_iff_not] at h48; omega)
            all_goals
              refine e_iload dX10_insist_58 rfl ?_
              refine e_ret (some _) rfl (r_int dX10_insist_60 rfl) ?_
              first | (exact gq2 rfl hF2 hct hK) | (exact gq2 rfl (FR2_c hF2) (up2_s _ _ _ _) (K_ct (Bd_iv iv3) hK))
          · try first | contradiction | omega | (simp only [decide_eq_true_eq, decide_eq_false_iff_not] at h48; omega)
            all_goals
              refine e_aload_n dX10_insist_51 rfl rfl ?_
              refine e_getR dX10_insist_52 fl_X10_58 rfl (cx_6 cm) ?_
              refine y_V0 (M' := mX0_forget) dX10_insist_55 ml_X10_83 ok_X0_forget (by decide) rfl im_X0_forget se_X0_forget (ct_X0_forget) (Nat.le_of_ble_eq_true rfl) (by decide) (Nat.le_of_ble_eq_true rfl) ?_
              refine e_iload dX10_insist_58 rfl ?_
              refine e_ret (some _) rfl (r_int dX10_insist_60 rfl) ?_
              first | (exact gq2 rfl hF2 hct hK) | (exact gq2 rfl (FR2_c hF2) (up2_s _ _ _ _) (K_ct (Bd_iv iv3) hK))
      · try first | contradiction | omega
        all_goals
          refine e_aload_n dX10_insist_18 rfl rfl ?_
          refine e_getR dX10_insist_19 fl_X10_35 rfl (cx_2 cm) ?_
          refine e_iload_n dX10_insist_22 rfl rfl ?_
          refine kx_V1 (M' := mX1_takeMap) dX10_insist_23 ml_X10_79 ok_X1_takeMap (by decide) rfl im_X1_takeMap se_X1_takeMap (ct_X1_takeMap cm ivA hK _) (Nat.le_of_ble_eq_true rfl) (by decide) (Nat.le_of_ble_eq_true rfl) (fun fi ai hG hK => ?_)
          have hF := FR1_tr hF hG
          rw [hx, if_pos rfl, nI_clamp hc2] at hK
          change K _ _ (insW2 w c k vv) _ _ at hK
          have hF2 := FR2_c (x := nI 0) (FR2_a hF)
          refine e_pop dX10_insist_26 rfl ?_
          refine e_aload_n dX10_insist_27 rfl rfl ?_
          refine e_getR dX10_insist_28 fl_X10_58 rfl (cx_6 cm) ?_
          refine y_V0 (M' := mX0_forget) dX10_insist_31 ml_X10_83 ok_X0_forget (by decide) rfl im_X0_forget se_X0_forget (ct_X0_forget) (Nat.le_of_ble_eq_true rfl) (by decide) (Nat.le_of_ble_eq_true rfl) ?_
          have hK := K_ct (x := nI 0) bd2 hK
          refine e_aload_n dX10_insist_34 rfl rfl ?_
          refine e_getR dX10_insist_35 fl_X10_35 rfl (cx_2 cm) ?_
          refine e_iload_n dX10_insist_38 rfl rfl ?_
          refine e_iload_n dX10_insist_39 rfl rfl ?_
          refine e_iload_n dX10_insist_40 rfl rfl ?_
          refine kx_V3 (M' := mX1_writeKey) dX10_insist_41 ml_X10_90 ok_X1_writeKey (by decide) rfl im_X1_writeKey se_X1_writeKey (ct_X1_writeKey cm iv2 hK _ _ _ wt2) (Nat.le_of_ble_eq_true rfl) (by decide) (Nat.le_of_ble_eq_true rfl) (fun fi41 ai41 hG41 hK => ?_)
          have hF2 := FR2_t hF2 hG41
          have hct := (FR1_ct hG41).trans (up2_s _ _ _ _)
          rw [f2] at hK
          rw [f1]
          refine e_istore dX10_insist_44 (Nat.le_of_ble_eq_true rfl) rfl ?_
          refine e_iload dX10_insist_46 rfl ?_
          first | ((with_reducible refine mk_b ?_); refine b_if_ne (tgt := 58) dX10_insist_48 (by decide) (fun h48 => ?_) (fun h48 => ?_)) | ((with_reducible refine mk_ll ?_); refine m_if_ne (tgt := 58) dX10_insist_48 (by decide) (by omega) (by omega) (fun h48 => ?_) (fun h48 => ?_)) | ((with_reducible refine mk_lc ?_); refine l_if_ne (tgt := 58) dX10_insist_48 (by decide) (fun h48 => ?_) (fun h48 => ?_)) | ((with_reducible refine mk_n ?_); refine n_if_ne (tgt := 58) dX10_insist_48 (by decide) (by omega) (fun h48 => ?_) (fun h48 => ?_)) | refine e_if_ne (tgt := 58) dX10_insist_48 (by decide) (fun h48 => ?_) (fun h48 => ?_)
          · try first | contradiction | omega | (simp only [decide_eq_true_eq, decide_eq_false_iff_not] at h48; omega)
            all_goals
              refine e_iload dX10_insist_58 rfl ?_
              refine e_ret (some _) rfl (r_int dX10_insist_60 rfl) ?_
              first | (exact gq2 rfl hF2 hct hK) | (exact gq2 rfl (FR2_c hF2) (up2_s _ _ _ _) (K_ct (Bd_iv iv3) hK))
          · try first | contradiction | omega | (simp only [decide_eq_true_eq, decide_eq_false_iff_not] at h48; omega)
            all_goals
              refine e_aload_n dX10_insist_51 rfl rfl ?_
              refine e_getR dX10_insist_52 fl_X10_58 rfl (cx_6 cm) ?_
              refine y_V0 (M' := mX0_forget) dX10_insist_55 ml_X10_83 ok_X0_forget (by decide) rfl im_X0_forget se_X0_forget (ct_X0_forget) (Nat.le_of_ble_eq_true rfl) (by decide) (Nat.le_of_ble_eq_true rfl) ?_
              refine e_iload dX10_insist_58 rfl ?_
              refine e_ret (some _) rfl (r_int dX10_insist_60 rfl) ?_
              first | (exact gq2 rfl hF2 hct hK) | (exact gq2 rfl (FR2_c hF2) (up2_s _ _ _ _) (K_ct (Bd_iv iv3) hK))
    · have e3 : insR w (nI c) (nI k) (nI vv) = nI (asA w c k vv) := by unfold insR; rw [hcw, if_pos rfl, nI_clamp hc2, nI_clamp hk2, nI_clamp hv2, if_neg h33]
      have e4 : insW w (nI c) (nI k) (nI vv) = askW w c k vv := by unfold insW; rw [hcw, if_pos rfl, nI_clamp hc2, nI_clamp hk2, nI_clamp hv2, if_neg h33]
      rw [e3, e4, decide_eq_false h33, Bool.or_false]
      by_cases ha : asA w c k vv = 0
      · rw [decide_eq_true ha]
        refine e_aload_n dX10_insist_0 rfl rfl ?_
        refine e_getR dX10_insist_1 fl_X10_35 rfl (cx_2 cm) ?_
        refine e_iload_n dX10_insist_4 rfl rfl ?_
        refine e_iload_n dX10_insist_5 rfl rfl ?_
        refine e_iload_n dX10_insist_6 rfl rfl ?_
        refine kx_V3 (M' := mX1_writeKey) dX10_insist_7 ml_X10_90 ok_X1_writeKey (by decide) rfl im_X1_writeKey se_X1_writeKey (ct_X1_writeKey cm iv hK _ _ _ (by assumption)) (Nat.le_of_ble_eq_true rfl) (by decide) (Nat.le_of_ble_eq_true rfl) (fun fi ai hG hK => ?_)
        have hF := FR1_tr hF hG
        rw [e2] at hK
        rw [e1]
        refine e_istore dX10_insist_10 (Nat.le_of_ble_eq_true rfl) rfl ?_
        refine e_iload dX10_insist_12 rfl ?_
        refine e_iconst (v := nI 3) dX10_insist_14 rfl ?_
        first | ((with_reducible refine mk_mo ?_); refine p_icmp_ne (tgt := 46) dX10_insist_15 (by decide) (fun h15 => ?_) (fun h15 => ?_)) | ((with_reducible refine mk_ms ?_); refine s_icmp_ne (tgt := 46) dX10_insist_15 (by decide) (by omega) (fun h15 => ?_) (fun h15 => ?_)) | ((with_reducible refine mk_mn ?_); refine q_icmp_ne (tgt := 46) dX10_insist_15 (by decide) (by omega) (fun h15 => ?_) (fun h15 => ?_)) | ((with_reducible refine mk_nn ?_); refine n_icmp_ne (tgt := 46) dX10_insist_15 (by decide) (by omega) (by omega) (fun h15 => ?_) (fun h15 => ?_)) | refine e_icmp_ne (tgt := 46) dX10_insist_15 (by decide) (fun h15 => ?_) (fun h15 => ?_)
        · try first | contradiction | omega
          all_goals
            refine e_iload dX10_insist_46 rfl ?_
            first | ((with_reducible refine mk_b ?_); refine b_if_ne (tgt := 58) dX10_insist_48 (by decide) (fun h48 => ?_) (fun h48 => ?_)) | ((with_reducible refine mk_ll ?_); refine m_if_ne (tgt := 58) dX10_insist_48 (by decide) (by omega) (by omega) (fun h48 => ?_) (fun h48 => ?_)) | ((with_reducible refine mk_lc ?_); refine l_if_ne (tgt := 58) dX10_insist_48 (by decide) (fun h48 => ?_) (fun h48 => ?_)) | ((with_reducible refine mk_n ?_); refine n_if_ne (tgt := 58) dX10_insist_48 (by decide) (by omega) (fun h48 => ?_) (fun h48 => ?_)) | refine e_if_ne (tgt := 58) dX10_insist_48 (by decide) (fun h48 => ?_) (fun h48 => ?_)
            · try first | contradiction | omega | (simp only [decide_eq_true_eq, decide_eq_false_iff_not] at h48; omega)
              all_goals
                refine e_iload dX10_insist_58 rfl ?_
                refine e_ret (some _) rfl (r_int dX10_insist_60 rfl) ?_
                first | (exact gq1 rfl hF (K_ct bdA hK)) | contradiction
            · try first | contradiction | omega | (simp only [decide_eq_true_eq, decide_eq_false_iff_not] at h48; omega)
              all_goals
                refine e_aload_n dX10_insist_51 rfl rfl ?_
                refine e_getR dX10_insist_52 fl_X10_58 rfl (cx_6 cm) ?_
                refine y_V0 (M' := mX0_forget) dX10_insist_55 ml_X10_83 ok_X0_forget (by decide) rfl im_X0_forget se_X0_forget (ct_X0_forget) (Nat.le_of_ble_eq_true rfl) (by decide) (Nat.le_of_ble_eq_true rfl) ?_
                refine e_iload dX10_insist_58 rfl ?_
                refine e_ret (some _) rfl (r_int dX10_insist_60 rfl) ?_
                first | (exact gq1 rfl hF (K_ct bdA hK)) | contradiction
        · try first | contradiction | omega
          all_goals
            omega
      · rw [decide_eq_false ha]
        refine e_aload_n dX10_insist_0 rfl rfl ?_
        refine e_getR dX10_insist_1 fl_X10_35 rfl (cx_2 cm) ?_
        refine e_iload_n dX10_insist_4 rfl rfl ?_
        refine e_iload_n dX10_insist_5 rfl rfl ?_
        refine e_iload_n dX10_insist_6 rfl rfl ?_
        refine kx_V3 (M' := mX1_writeKey) dX10_insist_7 ml_X10_90 ok_X1_writeKey (by decide) rfl im_X1_writeKey se_X1_writeKey (ct_X1_writeKey cm iv hK _ _ _ (by assumption)) (Nat.le_of_ble_eq_true rfl) (by decide) (Nat.le_of_ble_eq_true rfl) (fun fi ai hG hK => ?_)
        have hF := FR1_tr hF hG
        rw [e2] at hK
        rw [e1]
        refine e_istore dX10_insist_10 (Nat.le_of_ble_eq_true rfl) rfl ?_
        refine e_iload dX10_insist_12 rfl ?_
        refine e_iconst (v := nI 3) dX10_insist_14 rfl ?_
        first | ((with_reducible refine mk_mo ?_); refine p_icmp_ne (tgt := 46) dX10_insist_15 (by decide) (fun h15 => ?_) (fun h15 => ?_)) | ((with_reducible refine mk_ms ?_); refine s_icmp_ne (tgt := 46) dX10_insist_15 (by decide) (by omega) (fun h15 => ?_) (fun h15 => ?_)) | ((with_reducible refine mk_mn ?_); refine q_icmp_ne (tgt := 46) dX10_insist_15 (by decide) (by omega) (fun h15 => ?_) (fun h15 => ?_)) | ((with_reducible refine mk_nn ?_); refine n_icmp_ne (tgt := 46) dX10_insist_15 (by decide) (by omega) (by omega) (fun h15 => ?_) (fun h15 => ?_)) | refine e_icmp_ne (tgt := 46) dX10_insist_15 (by decide) (fun h15 => ?_) (fun h15 => ?_)
        · try first | contradiction | omega
          all_goals
            refine e_iload dX10_insist_46 rfl ?_
            first | ((with_reducible refine mk_b ?_); refine b_if_ne (tgt := 58) dX10_insist_48 (by decide) (fun h48 => ?_) (fun h48 => ?_)) | ((with_reducible refine mk_ll ?_); refine m_if_ne (tgt := 58) dX10_insist_48 (by decide) (by omega) (by omega) (fun h48 => ?_) (fun h48 => ?_)) | ((with_reducible refine mk_lc ?_); refine l_if_ne (tgt := 58) dX10_insist_48 (by decide) (fun h48 => ?_) (fun h48 => ?_)) | ((with_reducible refine mk_n ?_); refine n_if_ne (tgt := 58) dX10_insist_48 (by decide) (by omega) (fun h48 => ?_) (fun h48 => ?_)) | refine e_if_ne (tgt := 58) dX10_insist_48 (by decide) (fun h48 => ?_) (fun h48 => ?_)
            · try first | contradiction | omega | (simp only [decide_eq_true_eq, decide_eq_false_iff_not] at h48; omega)
              all_goals
                refine e_iload dX10_insist_58 rfl ?_
                refine e_ret (some _) rfl (r_int dX10_insist_60 rfl) ?_
                exact gq0 rfl hF hK
            · try first | contradiction | omega | (simp only [decide_eq_true_eq, decide_eq_false_iff_not] at h48; omega)
              all_goals
                omega
        · try first | contradiction | omega
          all_goals
            omega
theorem ct_X10_fail {fi : FI} {fr : FR} {ai : FI} {ar : FR} {N : Nat} {w lg : Nat → Nat} {E : Nat} (cm : CM fr ar) (iv : Inv w) (hK : K fi ai w lg E) (x y : Int32) : CP mX10_fail 3 0 0 [.ref (rf 10 0), .int x, .int y] fi fr ai ar N (gQ2 (some (.int (bI (faiB w x y)))) (faiB w x y) fi fr ai ar N (fun fi ai => K fi ai (if faiB w x y then upN w (7694 + 72 * x.toNatClampNeg + 10) y.toNatClampNeg else w) lg E)) := by
  have h1 := iv_n iv
  have h3 := iv_mm iv
  have bd := Bd_iv iv
  have hF : FR1 fi ai fi ai := FR1_rf
  change EV mX10_fail 3 0 0 0 [some (.ref (rf 10 0)), some (.int x), some (.int y), none] [] fi fr ai ar N (gQ2 (some (.int (bI (faiB w x y)))) (faiB w x y) fi fr ai ar N (fun fi ai => K fi ai (if faiB w x y then upN w (7694 + 72 * x.toNatClampNeg + 10) y.toNatClampNeg else w) lg E))
  cases hb : faiB w x y with
  | false =>
    rw [if_neg (by decide)]
    refine e_aload_n dX10_fail_0 rfl rfl ?_
    refine e_getR dX10_fail_1 fl_X10_51 rfl (cx_4 cm) ?_
    refine e_iload_n dX10_fail_4 rfl rfl ?_
    refine e_iload_n dX10_fail_5 rfl rfl ?_
    refine kx_V2 (M' := mX5_tellToFail) dX10_fail_6 ml_X10_148 ok_X5_tellToFail (by decide) rfl im_X5_tellToFail se_X5_tellToFail (ct_X5_tellToFail cm iv hK _ _) (Nat.le_of_ble_eq_true rfl) (by decide) (Nat.le_of_ble_eq_true rfl) (fun fi ai hG hK => ?_)
    have hF := FR1_tr hF hG
    rw [hb] at hK
    rw [hb]
    rw [if_neg (by decide)] at hK
    refine e_istore_n dX10_fail_9 rfl (Nat.le_of_ble_eq_true rfl) rfl ?_
    refine e_iload_n dX10_fail_10 rfl rfl ?_
    first | ((with_reducible refine mk_b ?_); refine b_if_eq (tgt := 21) dX10_fail_11 (by decide) (fun h11 => ?_) (fun h11 => ?_)) | ((with_reducible refine mk_ll ?_); refine m_if_eq (tgt := 21) dX10_fail_11 (by decide) (by omega) (by omega) (fun h11 => ?_) (fun h11 => ?_)) | ((with_reducible refine mk_lc ?_); refine l_if_eq (tgt := 21) dX10_fail_11 (by decide) (fun h11 => ?_) (fun h11 => ?_)) | ((with_reducible refine mk_n ?_); refine n_if_eq (tgt := 21) dX10_fail_11 (by decide) (by omega) (fun h11 => ?_) (fun h11 => ?_)) | refine e_if_eq (tgt := 21) dX10_fail_11 (by decide) (fun h11 => ?_) (fun h11 => ?_)
    · try first | contradiction | omega | (simp only [decide_eq_true_eq, decide_eq_false_iff_not] at h11; omega)
      all_goals
        refine e_iload_n dX10_fail_21 rfl rfl ?_
        first | ((with_reducible refine mk_b ?_); refine e_ret (some _) rfl (r_bool dX10_fail_22 rfl) ?_) | ((with_reducible refine mk_n1 ?_); refine e_ret (some _) rfl (r_b1 dX10_fail_22 rfl) ?_) | ((with_reducible refine mk_n0 ?_); refine e_ret (some _) rfl (r_b0 dX10_fail_22 rfl) ?_)
        exact gq0 rfl hF hK
    · try first | contradiction | omega | (simp only [decide_eq_true_eq, decide_eq_false_iff_not] at h11; omega)
      all_goals
        contradiction
  | true =>
    rw [if_pos rfl]
    have hb2 := hb
    unfold faiB at hb2
    simp only [Bool.and_eq_true] at hb2
    obtain ⟨⟨hy, hx⟩, hg⟩ := hb2
    obtain ⟨m, hm, hm2, rfl⟩ := inR_ex hx
    rw [nI_clamp hm2]
    refine e_aload_n dX10_fail_0 rfl rfl ?_
    refine e_getR dX10_fail_1 fl_X10_51 rfl (cx_4 cm) ?_
    refine e_iload_n dX10_fail_4 rfl rfl ?_
    refine e_iload_n dX10_fail_5 rfl rfl ?_
    refine kx_V2 (M' := mX5_tellToFail) dX10_fail_6 ml_X10_148 ok_X5_tellToFail (by decide) rfl im_X5_tellToFail se_X5_tellToFail (ct_X5_tellToFail cm iv hK _ _) (Nat.le_of_ble_eq_true rfl) (by decide) (Nat.le_of_ble_eq_true rfl) (fun fi ai hG hK => ?_)
    have hF := FR1_tr hF hG
    rw [hb] at hK
    rw [hb]
    rw [if_pos rfl, nI_clamp hm2] at hK
    refine e_istore_n dX10_fail_9 rfl (Nat.le_of_ble_eq_true rfl) rfl ?_
    refine e_iload_n dX10_fail_10 rfl rfl ?_
    first | ((with_reducible refine mk_b ?_); refine b_if_eq (tgt := 21) dX10_fail_11 (by decide) (fun h11 => ?_) (fun h11 => ?_)) | ((with_reducible refine mk_ll ?_); refine m_if_eq (tgt := 21) dX10_fail_11 (by decide) (by omega) (by omega) (fun h11 => ?_) (fun h11 => ?_)) | ((with_reducible refine mk_lc ?_); refine l_if_eq (tgt := 21) dX10_fail_11 (by decide) (fun h11 => ?_) (fun h11 => ?_)) | ((with_reducible refine mk_n ?_); refine n_if_eq (tgt := 21) dX10_fail_11 (by decide) (by omega) (fun h11 => ?_) (fun h11 => ?_)) | refine e_if_eq (tgt := 21) dX10_fail_11 (by decide) (fun h11 => ?_) (fun h11 => ?_)
    · try first | contradiction | omega | (simp only [decide_eq_true_eq, decide_eq_false_iff_not] at h11; omega)
      all_goals
        refine e_iload_n dX10_fail_21 rfl rfl ?_
        first | ((with_reducible refine mk_b ?_); refine e_ret (some _) rfl (r_bool dX10_fail_22 rfl) ?_) | ((with_reducible refine mk_n1 ?_); refine e_ret (some _) rfl (r_b1 dX10_fail_22 rfl) ?_) | ((with_reducible refine mk_n0 ?_); refine e_ret (some _) rfl (r_b0 dX10_fail_22 rfl) ?_)
        first | (exact gq1 rfl hF (K_ct (Bd_up bd (by omega)) hK)) | contradiction
    · try first | contradiction | omega | (simp only [decide_eq_true_eq, decide_eq_false_iff_not] at h11; omega)
      all_goals
        refine e_aload_n dX10_fail_14 rfl rfl ?_
        refine e_getR dX10_fail_15 fl_X10_58 rfl (cx_6 cm) ?_
        refine y_V0 (M' := mX0_forget) dX10_fail_18 ml_X10_83 ok_X0_forget (by decide) rfl im_X0_forget se_X0_forget (ct_X0_forget) (Nat.le_of_ble_eq_true rfl) (by decide) (Nat.le_of_ble_eq_true rfl) ?_
        refine e_iload_n dX10_fail_21 rfl rfl ?_
        first | ((with_reducible refine mk_b ?_); refine e_ret (some _) rfl (r_bool dX10_fail_22 rfl) ?_) | ((with_reducible refine mk_n1 ?_); refine e_ret (some _) rfl (r_b1 dX10_fail_22 rfl) ?_) | ((with_reducible refine mk_n0 ?_); refine e_ret (some _) rfl (r_b0 dX10_fail_22 rfl) ?_)
        first | (exact gq1 rfl hF (K_ct (Bd_up bd (by omega)) hK)) | contradiction
theorem ct_X10_down {fi : FI} {fr : FR} {ai : FI} {ar : FR} {N : Nat} {w lg : Nat → Nat} {E : Nat} (cm : CM fr ar) (iv : Inv w) (hK : K fi ai w lg E) (x : Int32) : CP mX10_down 2 0 0 [.ref (rf 10 0), .int x] fi fr ai ar N (gQ2 (some (.int (dowR w x))) (dowB w x) fi fr ai ar N (fun fi ai => K fi ai (dowW w x) lg E)) := by
  have h1 := iv_n iv
  have h3 := iv_mm iv
  have bd := Bd_iv iv
  have hF : FR1 fi ai fi ai := FR1_rf
  change EV mX10_down 2 0 0 0 [some (.ref (rf 10 0)), some (.int x), none] [] fi fr ai ar N (gQ2 (some (.int (dowR w x))) (dowB w x) fi fr ai ar N (fun fi ai => K fi ai (dowW w x) lg E))
  cases hb : dowB w x with
  | false =>
    have e1 : dowR w x = -1 := by unfold dowR; rw [hb]; rfl
    have e2 : dowW w x = w := by unfold dowW; rw [hb]; rfl
    rw [e1, e2]
    refine e_aload_n dX10_down_0 rfl rfl ?_
    refine e_getR dX10_down_1 fl_X10_51 rfl (cx_4 cm) ?_
    refine e_iload_n dX10_down_4 rfl rfl ?_
    refine kx_V1 (M' := mX5_takeDown) dX10_down_5 ml_X10_152 ok_X5_takeDown (by decide) rfl im_X5_takeDown se_X5_takeDown (ct_X5_takeDown cm iv hK _) (Nat.le_of_ble_eq_true rfl) (by decide) (Nat.le_of_ble_eq_true rfl) (fun fi ai hG hK => ?_)
    have hF := FR1_tr hF hG
    rw [e2] at hK
    rw [e1]
    refine e_istore_n dX10_down_8 rfl (Nat.le_of_ble_eq_true rfl) rfl ?_
    refine e_iload_n dX10_down_9 rfl rfl ?_
    refine e_iconst (v := -1) dX10_down_10 rfl ?_
    first | ((with_reducible refine mk_mo ?_); refine p_icmp_eq (tgt := 21) dX10_down_11 (by decide) (fun h11 => ?_) (fun h11 => ?_)) | ((with_reducible refine mk_ms ?_); refine s_icmp_eq (tgt := 21) dX10_down_11 (by decide) (by omega) (fun h11 => ?_) (fun h11 => ?_)) | ((with_reducible refine mk_mn ?_); refine q_icmp_eq (tgt := 21) dX10_down_11 (by decide) (by omega) (fun h11 => ?_) (fun h11 => ?_)) | ((with_reducible refine mk_nn ?_); refine n_icmp_eq (tgt := 21) dX10_down_11 (by decide) (by omega) (by omega) (fun h11 => ?_) (fun h11 => ?_)) | refine e_icmp_eq (tgt := 21) dX10_down_11 (by decide) (fun h11 => ?_) (fun h11 => ?_)
    · try first | contradiction | omega
      all_goals
        refine e_iload_n dX10_down_21 rfl rfl ?_
        refine e_ret (some _) rfl (r_int dX10_down_22 rfl) ?_
        exact gq0 rfl hF hK
    · try first | contradiction | omega
      all_goals
        exact absurd rfl h11
  | true =>
    have hb2 := hb
    unfold dowB at hb2
    simp only [Bool.and_eq_true] at hb2
    obtain ⟨s, hs, hs2, rfl⟩ := inR_ex hb2.1
    have e1 : dowR w (nI s) = nI (cnt (dnB w s) (w 3)) := by unfold dowR; rw [hb, if_pos rfl, nI_clamp hs2]
    have e2 : dowW w (nI s) = dnF w s (w 3) := by unfold dowW; rw [hb, if_pos rfl, nI_clamp hs2]
    have hcn := cnt_le (dnB w s) (w 3)
    rw [e1, e2]
    refine e_aload_n dX10_down_0 rfl rfl ?_
    refine e_getR dX10_down_1 fl_X10_51 rfl (cx_4 cm) ?_
    refine e_iload_n dX10_down_4 rfl rfl ?_
    refine kx_V1 (M' := mX5_takeDown) dX10_down_5 ml_X10_152 ok_X5_takeDown (by decide) rfl im_X5_takeDown se_X5_takeDown (ct_X5_takeDown cm iv hK _) (Nat.le_of_ble_eq_true rfl) (by decide) (Nat.le_of_ble_eq_true rfl) (fun fi ai hG hK => ?_)
    have hF := FR1_tr hF hG
    rw [e2] at hK
    rw [e1]
    refine e_istore_n dX10_down_8 rfl (Nat.le_of_ble_eq_true rfl) rfl ?_
    refine e_iload_n dX10_down_9 rfl rfl ?_
    refine e_iconst (v := -1) dX10_down_10 rfl ?_
    first | ((with_reducible refine mk_mo ?_); refine p_icmp_eq (tgt := 21) dX10_down_11 (by decide) (fun h11 => ?_) (fun h11 => ?_)) | ((with_reducible refine mk_ms ?_); refine s_icmp_eq (tgt := 21) dX10_down_11 (by decide) (by omega) (fun h11 => ?_) (fun h11 => ?_)) | ((with_reducible refine mk_mn ?_); refine q_icmp_eq (tgt := 21) dX10_down_11 (by decide) (by omega) (fun h11 => ?_) (fun h11 => ?_)) | ((with_reducible refine mk_nn ?_); refine n_icmp_eq (tgt := 21) dX10_down_11 (by decide) (by omega) (by omega) (fun h11 => ?_) (fun h11 => ?_)) | refine e_icmp_eq (tgt := 21) dX10_down_11 (by decide) (fun h11 => ?_) (fun h11 => ?_)
    · try first | contradiction | omega
      all_goals
        refine e_iload_n dX10_down_21 rfl rfl ?_
        refine e_ret (some _) rfl (r_int dX10_down_22 rfl) ?_
        first | (exact gq1 rfl hF (K_ct (Bd_iv (dnF_Inv iv hs (w 3) (Nat.le_refl _))) hK)) | contradiction
    · try first | contradiction | omega
      all_goals
        refine e_aload_n dX10_down_14 rfl rfl ?_
        refine e_getR dX10_down_15 fl_X10_58 rfl (cx_6 cm) ?_
        refine y_V0 (M' := mX0_forget) dX10_down_18 ml_X10_83 ok_X0_forget (by decide) rfl im_X0_forget se_X0_forget (ct_X0_forget) (Nat.le_of_ble_eq_true rfl) (by decide) (Nat.le_of_ble_eq_true rfl) ?_
        refine e_iload_n dX10_down_21 rfl rfl ?_
        refine e_ret (some _) rfl (r_int dX10_down_22 rfl) ?_
        first | (exact gq1 rfl hF (K_ct (Bd_iv (dnF_Inv iv hs (w 3) (Nat.le_refl _))) hK)) | contradiction
theorem ct_X10_up {fi : FI} {fr : FR} {ai : FI} {ar : FR} {N : Nat} {w lg : Nat → Nat} {E : Nat} (cm : CM fr ar) (iv : Inv w) (hK : K fi ai w lg E) (x : Int32) : CP mX10_up 2 0 0 [.ref (rf 10 0), .int x] fi fr ai ar N (gQ2 (some (.int (bI (inR x 6 && decide (w (4 + x.toNatClampNeg) ≠ 1))))) (inR x 6 && decide (w (4 + x.toNatClampNeg) ≠ 1)) fi fr ai ar N (fun fi ai => K fi ai (if inR x 6 && decide (w (4 + x.toNatClampNeg) ≠ 1) then upN w (4 + x.toNatClampNeg) 1 else w) lg E)) := by
  have h1 := iv_n iv
  have h3 := iv_mm iv
  have bd := Bd_iv iv
  have hF : FR1 fi ai fi ai := FR1_rf
  change EV mX10_up 2 0 0 0 [some (.ref (rf 10 0)), some (.int x), none] [] fi fr ai ar N (gQ2 (some (.int (bI (inR x 6 && decide (w (4 + x.toNatClampNeg) ≠ 1))))) (inR x 6 && decide (w (4 + x.toNatClampNeg) ≠ 1)) fi fr ai ar N (fun fi ai => K fi ai (if inR x 6 && decide (w (4 + x.toNatClampNeg) ≠ 1) then upN w (4 + x.toNatClampNeg) 1 else w) lg E))
  cases hb : (inR x 6 && decide (w (4 + x.toNatClampNeg) ≠ 1)) with
  | false =>
    rw [if_neg (by decide)]
    refine e_aload_n dX10_up_0 rfl rfl ?_
    refine e_getR dX10_up_1 fl_X10_18 rfl (cx_0 cm) ?_
    refine e_iload_n dX10_up_4 rfl rfl ?_
    refine kx_V1 (M' := mX9_bringUp) dX10_up_5 ml_X10_155 ok_X9_bringUp (by decide) rfl im_X9_bringUp se_X9_bringUp (ct_X9_bringUp cm iv hK _) (Nat.le_of_ble_eq_true rfl) (by decide) (Nat.le_of_ble_eq_true rfl) (fun fi ai hG hK => ?_)
    have hF := FR1_tr hF hG
    rw [hb] at hK
    rw [hb]
    rw [if_neg (by decide)] at hK
    refine e_istore_n dX10_up_8 rfl (Nat.le_of_ble_eq_true rfl) rfl ?_
    refine e_iload_n dX10_up_9 rfl rfl ?_
    first | ((with_reducible refine mk_b ?_); refine b_if_eq (tgt := 20) dX10_up_10 (by decide) (fun h10 => ?_) (fun h10 => ?_)) | ((with_reducible refine mk_ll ?_); refine m_if_eq (tgt := 20) dX10_up_10 (by decide) (by omega) (by omega) (fun h10 => ?_) (fun h10 => ?_)) | ((with_reducible refine mk_lc ?_); refine l_if_eq (tgt := 20) dX10_up_10 (by decide) (fun h10 => ?_) (fun h10 => ?_)) | ((with_reducible refine mk_n ?_); refine n_if_eq (tgt := 20) dX10_up_10 (by decide) (by omega) (fun h10 => ?_) (fun h10 => ?_)) | refine e_if_eq (tgt := 20) dX10_up_10 (by decide) (fun h10 => ?_) (fun h10 => ?_)
    · try first | contradiction | omega | (simp only [decide_eq_true_eq, decide_eq_false_iff_not] at h10; omega)
      all_goals
        refine e_iload_n dX10_up_20 rfl rfl ?_
        first | ((with_reducible refine mk_b ?_); refine e_ret (some _) rfl (r_bool dX10_up_21 rfl) ?_) | ((with_reducible refine mk_n1 ?_); refine e_ret (some _) rfl (r_b1 dX10_up_21 rfl) ?_) | ((with_reducible refine mk_n0 ?_); refine e_ret (some _) rfl (r_b0 dX10_up_21 rfl) ?_)
        exact gq0 rfl hF hK
    · try first | contradiction | omega | (simp only [decide_eq_true_eq, decide_eq_false_iff_not] at h10; omega)
      all_goals
        contradiction
  | true =>
    rw [if_pos rfl]
    have hb2 := hb
    simp only [Bool.and_eq_true] at hb2
    obtain ⟨s, hs, hs2, rfl⟩ := inR_ex hb2.1
    rw [nI_clamp hs2]
    refine e_aload_n dX10_up_0 rfl rfl ?_
    refine e_getR dX10_up_1 fl_X10_18 rfl (cx_0 cm) ?_
    refine e_iload_n dX10_up_4 rfl rfl ?_
    refine kx_V1 (M' := mX9_bringUp) dX10_up_5 ml_X10_155 ok_X9_bringUp (by decide) rfl im_X9_bringUp se_X9_bringUp (ct_X9_bringUp cm iv hK _) (Nat.le_of_ble_eq_true rfl) (by decide) (Nat.le_of_ble_eq_true rfl) (fun fi ai hG hK => ?_)
    have hF := FR1_tr hF hG
    rw [hb] at hK
    rw [hb]
    rw [if_pos rfl, nI_clamp hs2] at hK
    refine e_istore_n dX10_up_8 rfl (Nat.le_of_ble_eq_true rfl) rfl ?_
    refine e_iload_n dX10_up_9 rfl rfl ?_
    first | ((with_reducible refine mk_b ?_); refine b_if_eq (tgt := 20) dX10_up_10 (by decide) (fun h10 => ?_) (fun h10 => ?_)) | ((with_reducible refine mk_ll ?_); refine m_if_eq (tgt := 20) dX10_up_10 (by decide) (by omega) (by omega) (fun h10 => ?_) (fun h10 => ?_)) | ((with_reducible refine mk_lc ?_); refine l_if_eq (tgt := 20) dX10_up_10 (by decide) (fun h10 => ?_) (fun h10 => ?_)) | ((with_reducible refine mk_n ?_); refine n_if_eq (tgt := 20) dX10_up_10 (by decide) (by omega) (fun h10 => ?_) (fun h10 => ?_)) | refine e_if_eq (tgt := 20) dX10_up_10 (by decide) (fun h10 => ?_) (fun h10 => ?_)
    · try first | contradiction | omega | (simp only [decide_eq_true_eq, decide_eq_false_iff_not] at h10; omega)
      all_goals
        refine e_iload_n dX10_up_20 rfl rfl ?_
        first | ((with_reducible refine mk_b ?_); refine e_ret (some _) rfl (r_bool dX10_up_21 rfl) ?_) | ((with_reducible refine mk_n1 ?_); refine e_ret (some _) rfl (r_b1 dX10_up_21 rfl) ?_) | ((with_reducible refine mk_n0 ?_); refine e_ret (some _) rfl (r_b0 dX10_up_21 rfl) ?_)
        first | (exact gq1 rfl hF (K_ct (Bd_up bd (by omega)) hK)) | contradiction
    · try first | contradiction | omega | (simp only [decide_eq_true_eq, decide_eq_false_iff_not] at h10; omega)
      all_goals
        refine e_aload_n dX10_up_13 rfl rfl ?_
        refine e_getR dX10_up_14 fl_X10_58 rfl (cx_6 cm) ?_
        refine y_V0 (M' := mX0_forget) dX10_up_17 ml_X10_83 ok_X0_forget (by decide) rfl im_X0_forget se_X0_forget (ct_X0_forget) (Nat.le_of_ble_eq_true rfl) (by decide) (Nat.le_of_ble_eq_true rfl) ?_
        refine e_iload_n dX10_up_20 rfl rfl ?_
        first | ((with_reducible refine mk_b ?_); refine e_ret (some _) rfl (r_bool dX10_up_21 rfl) ?_) | ((with_reducible refine mk_n1 ?_); refine e_ret (some _) rfl (r_b1 dX10_up_21 rfl) ?_) | ((with_reducible refine mk_n0 ?_); refine e_ret (some _) rfl (r_b0 dX10_up_21 rfl) ?_)
        first | (exact gq1 rfl hF (K_ct (Bd_up bd (by omega)) hK)) | contradiction
theorem ct_X10_chunk {fi : FI} {fr : FR} {ai : FI} {ar : FR} {N : Nat} {w lg : Nat → Nat} {E : Nat} (cm : CM fr ar) (iv : Inv w) (hK : K fi ai w lg E) (x : Int32) : CP mX10_chunk 2 0 0 [.ref (rf 10 0), .int x] fi fr ai ar N (gQ2 (some (.int (bI (decide (1 ≤ x.toInt ∧ x.toInt ≤ 16))))) (decide (1 ≤ x.toInt ∧ x.toInt ≤ 16)) fi fr ai ar N (fun fi ai => K fi ai (if decide (1 ≤ x.toInt ∧ x.toInt ≤ 16) then upN w 2 x.toNatClampNeg else w) lg E)) := by
  have h1 := iv_n iv
  have h3 := iv_mm iv
  have bd := Bd_iv iv
  have hF : FR1 fi ai fi ai := FR1_rf
  change EV mX10_chunk 2 0 0 0 [some (.ref (rf 10 0)), some (.int x), none] [] fi fr ai ar N (gQ2 (some (.int (bI (decide (1 ≤ x.toInt ∧ x.toInt ≤ 16))))) (decide (1 ≤ x.toInt ∧ x.toInt ≤ 16)) fi fr ai ar N (fun fi ai => K fi ai (if decide (1 ≤ x.toInt ∧ x.toInt ≤ 16) then upN w 2 x.toNatClampNeg else w) lg E))
  cases hb : decide (1 ≤ x.toInt ∧ x.toInt ≤ 16) with
  | false =>
    rw [if_neg (by decide)]
    refine e_aload_n dX10_chunk_0 rfl rfl ?_
    refine e_getR dX10_chunk_1 fl_X10_18 rfl (cx_0 cm) ?_
    refine e_iload_n dX10_chunk_4 rfl rfl ?_
    refine kx_V1 (M' := mX9_tellChunk) dX10_chunk_5 ml_X10_171 ok_X9_tellChunk (by decide) rfl im_X9_tellChunk se_X9_tellChunk (ct_X9_tellChunk cm iv hK _) (Nat.le_of_ble_eq_true rfl) (by decide) (Nat.le_of_ble_eq_true rfl) (fun fi ai hG hK => ?_)
    have hF := FR1_tr hF hG
    rw [hb] at hK
    rw [hb]
    rw [if_neg (by decide)] at hK
    refine e_istore_n dX10_chunk_8 rfl (Nat.le_of_ble_eq_true rfl) rfl ?_
    refine e_iload_n dX10_chunk_9 rfl rfl ?_
    first | ((with_reducible refine mk_b ?_); refine b_if_eq (tgt := 20) dX10_chunk_10 (by decide) (fun h10 => ?_) (fun h10 => ?_)) | ((with_reducible refine mk_ll ?_); refine m_if_eq (tgt := 20) dX10_chunk_10 (by decide) (by omega) (by omega) (fun h10 => ?_) (fun h10 => ?_)) | ((with_reducible refine mk_lc ?_); refine l_if_eq (tgt := 20) dX10_chunk_10 (by decide) (fun h10 => ?_) (fun h10 => ?_)) | ((with_reducible refine mk_n ?_); refine n_if_eq (tgt := 20) dX10_chunk_10 (by decide) (by omega) (fun h10 => ?_) (fun h10 => ?_)) | refine e_if_eq (tgt := 20) dX10_chunk_10 (by decide) (fun h10 => ?_) (fun h10 => ?_)
    · try first | contradiction | omega | (simp only [decide_eq_true_eq, decide_eq_false_iff_not] at h10; omega)
      all_goals
        refine e_iload_n dX10_chunk_20 rfl rfl ?_
        first | ((with_reducible refine mk_b ?_); refine e_ret (some _) rfl (r_bool dX10_chunk_21 rfl) ?_) | ((with_reducible refine mk_n1 ?_); refine e_ret (some _) rfl (r_b1 dX10_chunk_21 rfl) ?_) | ((with_reducible refine mk_n0 ?_); refine e_ret (some _) rfl (r_b0 dX10_chunk_21 rfl) ?_)
        exact gq0 rfl hF hK
    · try first | contradiction | omega | (simp only [decide_eq_true_eq, decide_eq_false_iff_not] at h10; omega)
      all_goals
        contradiction
  | true =>
    rw [if_pos rfl]
    refine e_aload_n dX10_chunk_0 rfl rfl ?_
    refine e_getR dX10_chunk_1 fl_X10_18 rfl (cx_0 cm) ?_
    refine e_iload_n dX10_chunk_4 rfl rfl ?_
    refine kx_V1 (M' := mX9_tellChunk) dX10_chunk_5 ml_X10_171 ok_X9_tellChunk (by decide) rfl im_X9_tellChunk se_X9_tellChunk (ct_X9_tellChunk cm iv hK _) (Nat.le_of_ble_eq_true rfl) (by decide) (Nat.le_of_ble_eq_true rfl) (fun fi ai hG hK => ?_)
    have hF := FR1_tr hF hG
    rw [hb] at hK
    rw [hb]
    rw [if_pos rfl] at hK
    refine e_istore_n dX10_chunk_8 rfl (Nat.le_of_ble_eq_true rfl) rfl ?_
    refine e_iload_n dX10_chunk_9 rfl rfl ?_
    first | ((with_reducible refine mk_b ?_); refine b_if_eq (tgt := 20) dX10_chunk_10 (by decide) (fun h10 => ?_) (fun h10 => ?_)) | ((with_reducible refine mk_ll ?_); refine m_if_eq (tgt := 20) dX10_chunk_10 (by decide) (by omega) (by omega) (fun h10 => ?_) (fun h10 => ?_)) | ((with_reducible refine mk_lc ?_); refine l_if_eq (tgt := 20) dX10_chunk_10 (by decide) (fun h10 => ?_) (fun h10 => ?_)) | ((with_reducible refine mk_n ?_); refine n_if_eq (tgt := 20) dX10_chunk_10 (by decide) (by omega) (fun h10 => ?_) (fun h10 => ?_)) | refine e_if_eq (tgt := 20) dX10_chunk_10 (by decide) (fun h10 => ?_) (fun h10 => ?_)
    · try first | contradiction | omega | (simp only [decide_eq_true_eq, decide_eq_false_iff_not] at h10; omega)
      all_goals
        refine e_iload_n dX10_chunk_20 rfl rfl ?_
        first | ((with_reducible refine mk_b ?_); refine e_ret (some _) rfl (r_bool dX10_chunk_21 rfl) ?_) | ((with_reducible refine mk_n1 ?_); refine e_ret (some _) rfl (r_b1 dX10_chunk_21 rfl) ?_) | ((with_reducible refine mk_n0 ?_); refine e_ret (some _) rfl (r_b0 dX10_chunk_21 rfl) ?_)
        first | (exact gq1 rfl hF (K_ct (Bd_up bd (by omega)) hK)) | contradiction
    · try first | contradiction | omega | (simp only [decide_eq_true_eq, decide_eq_false_iff_not] at h10; omega)
      all_goals
        refine e_aload_n dX10_chunk_13 rfl rfl ?_
        refine e_getR dX10_chunk_14 fl_X10_58 rfl (cx_6 cm) ?_
        refine y_V0 (M' := mX0_forget) dX10_chunk_17 ml_X10_83 ok_X0_forget (by decide) rfl im_X0_forget se_X0_forget (ct_X0_forget) (Nat.le_of_ble_eq_true rfl) (by decide) (Nat.le_of_ble_eq_true rfl) ?_
        refine e_iload_n dX10_chunk_20 rfl rfl ?_
        first | ((with_reducible refine mk_b ?_); refine e_ret (some _) rfl (r_bool dX10_chunk_21 rfl) ?_) | ((with_reducible refine mk_n1 ?_); refine e_ret (some _) rfl (r_b1 dX10_chunk_21 rfl) ?_) | ((with_reducible refine mk_n0 ?_); refine e_ret (some _) rfl (r_b0 dX10_chunk_21 rfl) ?_)
        first | (exact gq1 rfl hF (K_ct (Bd_up bd (by omega)) hK)) | contradiction
theorem ct_X10_scan {fi : FI} {fr : FR} {ai : FI} {ar : FR} {N : Nat} {w lg : Nat → Nat} {E : Nat} (cm : CM fr ar) (iv : Inv w) (hK : K fi ai w lg E) (x y z : Int32) (hwt : ∀ k, k < 1000 → w (106 + k) + 4 ≤ 100000) : CP mX10_scan 4 0 0 [.ref (rf 10 0), .int x, .int y, .int z] fi fr ai ar N (gQ2 (some (.int (scnR w x y z))) (scnB x y z && decide (anF w x.toNatClampNeg y.toNatClampNeg = 0)) fi fr ai ar N (fun fi ai => K fi ai (scnW w x y z) lg E)) := by
  have h1 := iv_n iv
  have h3 := iv_mm iv
  have bd := Bd_iv iv
  have hF : FR1 fi ai fi ai := FR1_rf
  change EV mX10_scan 4 0 0 0 [some (.ref (rf 10 0)), some (.int x), some (.int y), some (.int z), none, none, none] [] fi fr ai ar N (gQ2 (some (.int (scnR w x y z))) (scnB x y z && decide (anF w x.toNatClampNeg y.toNatClampNeg = 0)) fi fr ai ar N (fun fi ai => K fi ai (scnW w x y z) lg E))
  have t60 : (nI 60).toInt = 60 := by decide
  have hsc : ∀ b, scnB x y z = b → (b = false → scnR w x y z = -10 ∧ scnW w x y z = w) := fun b hb h => by
    rw [h] at hb
    exact ⟨by unfold scnR; rw [hb]; rfl, by unfold scnW; rw [hb]; rfl⟩
  cases hy : inR y 1000 with
  | false =>
    have eb : scnB x y z = false := by unfold scnB; rw [hy, Bool.and_false]; rfl
    obtain ⟨e1, e2⟩ := hsc _ eb rfl
    rw [e1, e2, eb]
    refine e_iload_n dX10_scan_0 rfl rfl ?_
    refine x_S1 (M' := mX10_isKey) dX10_scan_1 ml_X10_94 ok_X10_isKey rfl sc_X10_isKey (ct_X10_isKey _) (Nat.le_of_ble_eq_true rfl) (by decide) (Nat.le_of_ble_eq_true rfl) ?_
    rw [hy]
    first | ((with_reducible refine mk_b ?_); refine b_if_eq (tgt := 27) dX10_scan_4 (by decide) (fun h4 => ?_) (fun h4 => ?_)) | ((with_reducible refine mk_ll ?_); refine m_if_eq (tgt := 27) dX10_scan_4 (by decide) (by omega) (by omega) (fun h4 => ?_) (fun h4 => ?_)) | ((with_reducible refine mk_lc ?_); refine l_if_eq (tgt := 27) dX10_scan_4 (by decide) (fun h4 => ?_) (fun h4 => ?_)) | ((with_reducible refine mk_n ?_); refine n_if_eq (tgt := 27) dX10_scan_4 (by decide) (by omega) (fun h4 => ?_) (fun h4 => ?_)) | refine e_if_eq (tgt := 27) dX10_scan_4 (by decide) (fun h4 => ?_) (fun h4 => ?_)
    · try first | contradiction | omega | (simp only [decide_eq_true_eq, decide_eq_false_iff_not] at h4; omega)
      all_goals
        refine e_bipush (v := -10) dX10_scan_27 rfl ?_
        refine e_ret (some _) rfl (r_int dX10_scan_29 rfl) ?_
        exact gq0 rfl hF hK
    · try first | contradiction | omega | (simp only [decide_eq_true_eq, decide_eq_false_iff_not] at h4; omega)
      all_goals
        contradiction
  | true =>
    cases hz : inR z 1000 with
    | false =>
      have eb : scnB x y z = false := by unfold scnB; rw [hz, Bool.and_false]; rfl
      obtain ⟨e1, e2⟩ := hsc _ eb rfl
      rw [e1, e2, eb]
      refine e_iload_n dX10_scan_0 rfl rfl ?_
      refine x_S1 (M' := mX10_isKey) dX10_scan_1 ml_X10_94 ok_X10_isKey rfl sc_X10_isKey (ct_X10_isKey _) (Nat.le_of_ble_eq_true rfl) (by decide) (Nat.le_of_ble_eq_true rfl) ?_
      rw [hy]
      first | ((with_reducible refine mk_b ?_); refine b_if_eq (tgt := 27) dX10_scan_4 (by decide) (fun h4 => ?_) (fun h4 => ?_)) | ((with_reducible refine mk_ll ?_); refine m_if_eq (tgt := 27) dX10_scan_4 (by decide) (by omega) (by omega) (fun h4 => ?_) (fun h4 => ?_)) | ((with_reducible refine mk_lc ?_); refine l_if_eq (tgt := 27) dX10_scan_4 (by decide) (fun h4 => ?_) (fun h4 => ?_)) | ((with_reducible refine mk_n ?_); refine n_if_eq (tgt := 27) dX10_scan_4 (by decide) (by omega) (fun h4 => ?_) (fun h4 => ?_)) | refine e_if_eq (tgt := 27) dX10_scan_4 (by decide) (fun h4 => ?_) (fun h4 => ?_)
      · try first | contradiction | omega | (simp only [decide_eq_true_eq, decide_eq_false_iff_not] at h4; omega)
        all_goals
          refine e_bipush (v := -10) dX10_scan_27 rfl ?_
          refine e_ret (some _) rfl (r_int dX10_scan_29 rfl) ?_
          exact gq0 rfl hF hK
      · try first | contradiction | omega | (simp only [decide_eq_true_eq, decide_eq_false_iff_not] at h4; omega)
        all_goals
          refine e_iload_n dX10_scan_7 rfl rfl ?_
          refine x_S1 (M' := mX10_isKey) dX10_scan_8 ml_X10_94 ok_X10_isKey rfl sc_X10_isKey (ct_X10_isKey _) (Nat.le_of_ble_eq_true rfl) (by decide) (Nat.le_of_ble_eq_true rfl) ?_
          rw [hz]
          first | ((with_reducible refine mk_b ?_); refine b_if_eq (tgt := 27) dX10_scan_11 (by decide) (fun h11 => ?_) (fun h11 => ?_)) | ((with_reducible refine mk_ll ?_); refine m_if_eq (tgt := 27) dX10_scan_11 (by decide) (by omega) (by omega) (fun h11 => ?_) (fun h11 => ?_)) | ((with_reducible refine mk_lc ?_); refine l_if_eq (tgt := 27) dX10_scan_11 (by decide) (fun h11 => ?_) (fun h11 => ?_)) | ((with_reducible refine mk_n ?_); refine n_if_eq (tgt := 27) dX10_scan_11 (by decide) (by omega) (fun h11 => ?_) (fun h11 => ?_)) | refine e_if_eq (tgt := 27) dX10_scan_11 (by decide) (fun h11 => ?_) (fun h11 => ?_)
          · try first | contradiction | omega | (simp only [decide_eq_true_eq, decide_eq_false_iff_not] at h11; omega)
            all_goals
              refine e_bipush (v := -10) dX10_scan_27 rfl ?_
              refine e_ret (some _) rfl (r_int dX10_scan_29 rfl) ?_
              exact gq0 rfl hF hK
          · try first | contradiction | omega | (simp only [decide_eq_true_eq, decide_eq_false_iff_not] at h11; omega)
            all_goals
              contradiction
    | true =>
      have hy0 := hy
      have hz0 := hz
      obtain ⟨lo, hlo, hlo2, rfl⟩ := inR_ex hy
      obtain ⟨hi, hhi, hhi2, rfl⟩ := inR_ex hz
      have hsb : scnB x (nI lo) (nI hi) = (inR x 6 && decide (lo ≤ hi ∧ hi ≤ lo + 60)) := by
        unfold scnB
        rw [hy0, hz0, nI_toInt (b31 hlo2), nI_toInt (b31 hhi2), Bool.and_true, Bool.and_true]
        congr 1
        rw [decide_eq_decide]
        omega
      have hsu := nI_subI (a := hi) (b := lo) hhi hlo
      by_cases hr : lo ≤ hi ∧ hi ≤ lo + 60
      · cases hx : inR x 6 with
        | false =>
          have eb : scnB x (nI lo) (nI hi) = false := by rw [hsb, hx]; rfl
          obtain ⟨e1, e2⟩ := hsc _ eb rfl
          have r1 : ∀ y, redR w x y = -10 := fun y => by unfold redR; rw [if_neg (fun q => by rw [hx] at q; exact absurd q.1 (by decide))]
          have r2 : ∀ y, redW w x y = w := fun y => by unfold redW; rw [if_neg (fun q => by rw [hx] at q; exact absurd q.1 (by decide))]
          rw [e1, e2, eb]
          refine e_iload_n dX10_scan_0 rfl rfl ?_
          refine x_S1 (M' := mX10_isKey) dX10_scan_1 ml_X10_94 ok_X10_isKey rfl sc_X10_isKey (ct_X10_isKey _) (Nat.le_of_ble_eq_true rfl) (by decide) (Nat.le_of_ble_eq_true rfl) ?_
          rw [hy]
          first | ((with_reducible refine mk_b ?_); refine b_if_eq (tgt := 27) dX10_scan_4 (by decide) (fun h4 => ?_) (fun h4 => ?_)) | ((with_reducible refine mk_ll ?_); refine m_if_eq (tgt := 27) dX10_scan_4 (by decide) (by omega) (by omega) (fun h4 => ?_) (fun h4 => ?_)) | ((with_reducible refine mk_lc ?_); refine l_if_eq (tgt := 27) dX10_scan_4 (by decide) (fun h4 => ?_) (fun h4 => ?_)) | ((with_reducible refine mk_n ?_); refine n_if_eq (tgt := 27) dX10_scan_4 (by decide) (by omega) (fun h4 => ?_) (fun h4 => ?_)) | refine e_if_eq (tgt := 27) dX10_scan_4 (by decide) (fun h4 => ?_) (fun h4 => ?_)
          · try first | contradiction | omega | (simp only [decide_eq_true_eq, decide_eq_false_iff_not] at h4; omega)
            all_goals
              first | omega | contradiction
          · try first | contradiction | omega | (simp only [decide_eq_true_eq, decide_eq_false_iff_not] at h4; omega)
            all_goals
              refine e_iload_n dX10_scan_7 rfl rfl ?_
              refine x_S1 (M' := mX10_isKey) dX10_scan_8 ml_X10_94 ok_X10_isKey rfl sc_X10_isKey (ct_X10_isKey _) (Nat.le_of_ble_eq_true rfl) (by decide) (Nat.le_of_ble_eq_true rfl) ?_
              rw [hz]
              first | ((with_reducible refine mk_b ?_); refine b_if_eq (tgt := 27) dX10_scan_11 (by decide) (fun h11 => ?_) (fun h11 => ?_)) | ((with_reducible refine mk_ll ?_); refine m_if_eq (tgt := 27) dX10_scan_11 (by decide) (by omega) (by omega) (fun h11 => ?_) (fun h11 => ?_)) | ((with_reducible refine mk_lc ?_); refine l_if_eq (tgt := 27) dX10_scan_11 (by decide) (fun h11 => ?_) (fun h11 => ?_)) | ((with_reducible refine mk_n ?_); refine n_if_eq (tgt := 27) dX10_scan_11 (by decide) (by omega) (fun h11 => ?_) (fun h11 => ?_)) | refine e_if_eq (tgt := 27) dX10_scan_11 (by decide) (fun h11 => ?_) (fun h11 => ?_)
              · try first | contradiction | omega | (simp only [decide_eq_true_eq, decide_eq_false_iff_not] at h11; omega)
                all_goals
                  first | omega | contradiction
              · try first | contradiction | omega | (simp only [decide_eq_true_eq, decide_eq_false_iff_not] at h11; omega)
                all_goals
                  refine e_iload_n dX10_scan_14 rfl rfl ?_
                  refine e_iload_n dX10_scan_15 rfl rfl ?_
                  first | ((with_reducible refine mk_nn ?_); refine n_icmp_gt (tgt := 27) dX10_scan_16 (by decide) (by omega) (by omega) (fun h16 => ?_) (fun h16 => ?_)) | refine e_icmp_gt (tgt := 27) dX10_scan_16 (by decide) (fun h16 => ?_) (fun h16 => ?_)
                  · try first | contradiction | omega
                    all_goals
                      first | omega | contradiction
                  · try first | contradiction | omega
                    all_goals
                      refine e_iload_n dX10_scan_19 rfl rfl ?_
                      refine e_iload_n dX10_scan_20 rfl rfl ?_
                      first | ((with_reducible refine mk_nn ?_); refine n_isub dX10_scan_21 (by omega) ?_) | refine e_isub dX10_scan_21 ?_
                      refine e_bipush (v := nI 60) dX10_scan_22 rfl ?_
                      first | ((with_reducible refine mk_nn ?_); refine n_icmp_le (tgt := 30) dX10_scan_24 (by decide) (by omega) (by omega) (fun h24 => ?_) (fun h24 => ?_)) | refine e_icmp_le (tgt := 30) dX10_scan_24 (by decide) (fun h24 => ?_) (fun h24 => ?_)
                      · try first | contradiction | omega
                        all_goals
                          refine e_iconst (v := nI 0) dX10_scan_30 rfl ?_
                          refine e_istore dX10_scan_31 (Nat.le_of_ble_eq_true rfl) rfl ?_
                          refine e_iload_n dX10_scan_33 rfl rfl ?_
                          refine e_istore dX10_scan_34 (Nat.le_of_ble_eq_true rfl) rfl ?_
                          refine e_iload dX10_scan_36 rfl ?_
                          refine e_iload_n dX10_scan_38 rfl rfl ?_
                          first | ((with_reducible refine mk_nn ?_); refine n_icmp_gt (tgt := 83) dX10_scan_39 (by decide) (by omega) (by omega) (fun h39 => ?_) (fun h39 => ?_)) | refine e_icmp_gt (tgt := 83) dX10_scan_39 (by decide) (fun h39 => ?_) (fun h39 => ?_)
                          · try first | contradiction | omega
                            all_goals
                              omega
                          · try first | contradiction | omega
                            all_goals
                              refine e_aload_n dX10_scan_42 rfl rfl ?_
                              refine e_getR dX10_scan_43 fl_X10_35 rfl (cx_2 cm) ?_
                              refine e_iload_n dX10_scan_46 rfl rfl ?_
                              refine e_iload dX10_scan_47 rfl ?_
                              refine kx_V2 (M' := mX1_readKey) dX10_scan_49 ml_X10_86 ok_X1_readKey (by decide) rfl im_X1_readKey se_X1_readKey (ct_X1_readKey cm iv hK _ _) (Nat.le_of_ble_eq_true rfl) (by decide) (Nat.le_of_ble_eq_true rfl) (fun fi ai hG hK => ?_)
                              have hF := FR1_tr hF hG
                              rw [r2] at hK
                              rw [r1]
                              refine e_istore dX10_scan_52 (Nat.le_of_ble_eq_true rfl) rfl ?_
                              refine e_iload dX10_scan_54 rfl ?_
                              first | ((with_reducible refine mk_ll ?_); refine m_if_ge (tgt := 62) dX10_scan_56 (by decide) (by omega) (by omega) (fun h56 => ?_) (fun h56 => ?_)) | ((with_reducible refine mk_lc ?_); refine l_if_ge (tgt := 62) dX10_scan_56 (by decide) (fun h56 => ?_) (fun h56 => ?_)) | ((with_reducible refine mk_n ?_); refine n_if_ge (tgt := 62) dX10_scan_56 (by decide) (by omega) (fun h56 => ?_) (fun h56 => ?_)) | refine e_if_ge (tgt := 62) dX10_scan_56 (by decide) (fun h56 => ?_) (fun h56 => ?_)
                              · try first | contradiction | omega
                                all_goals
                                  exact absurd h56 (by decide)
                              · try first | contradiction | omega
                                all_goals
                                  refine e_iload dX10_scan_59 rfl ?_
                                  refine e_ret (some _) rfl (r_int dX10_scan_61 rfl) ?_
                                  exact gq0 rfl hF hK
                      · try first | contradiction | omega
                        all_goals
                          first | omega | contradiction
        | true =>
          have eb : scnB x (nI lo) (nI hi) = true := by rw [hsb, hx, decide_eq_true hr]; rfl
          have hx0 := hx
          obtain ⟨c, hc, hc2, rfl⟩ := inR_ex hx
          have e1 : scnR w (nI c) (nI lo) (nI hi) = (scF c (hi - lo + 1) lo 0 w).1 := by unfold scnR; rw [eb, if_pos rfl, nI_clamp hc2, nI_clamp hlo2, nI_clamp hhi2]
          have e2 : scnW w (nI c) (nI lo) (nI hi) = (scF c (hi - lo + 1) lo 0 w).2 := by unfold scnW; rw [eb, if_pos rfl, nI_clamp hc2, nI_clamp hlo2, nI_clamp hhi2]
          rw [e1, e2, eb, Bool.true_and, nI_clamp hc2, nI_clamp hlo2]
          have key : ∀ l k n v fi2 ai2 st t, k + l = hi + 1 → lo ≤ k → n ≤ k → Inv v → (∀ q, q < 1000 → v (106 + q) ≤ w (106 + q) + 2) → (∀ q, k ≤ q → q < 1000 → v (106 + q) = w (106 + q)) → scF c l k n v = scF c (hi - lo + 1) lo 0 w → ((st = false ∧ v = w ∧ k = lo) ∨ (st = true ∧ anF w c lo = 0)) → FR2 fi ai fi2 ai2 → fi2 (32 * 0 + 2) (rf 0 74) = (if st then nI 0 else fi (32 * 0 + 2) (rf 0 74)) → K fi2 ai2 v lg E → EV mX10_scan 4 0 0 36 [some (.ref (rf 10 0)), some (.int (nI c)), some (.int (nI lo)), some (.int (nI hi)), some (.int (nI n)), some (.int (nI k)), t] [] fi2 fr ai2 ar N (gQ2 (some (.int (scF c (hi - lo + 1) lo 0 w).1)) (decide (anF w c lo = 0)) fi fr ai ar N (fun fi ai => K fi ai (scF c (hi - lo + 1) lo 0 w).2 lg E)) := by
            intro l
            induction l with
            | zero =>
              intro k n v fi2 ai2 st t hk hlk hn ivv hw1 hw2 hS hst hF2 hct hK
              have hst2 : st = true ∧ anF w c lo = 0 := hst.elim (fun z => absurd z.2.2 (by omega)) id
              rw [← hS, decide_eq_true hst2.2]
              rw [hst2.1] at hct
              refine e_iload dX10_scan_36 rfl ?_
              refine e_iload_n dX10_scan_38 rfl rfl ?_
              first | ((with_reducible refine mk_nn ?_); refine n_icmp_gt (tgt := 83) dX10_scan_39 (by decide) (by omega) (by omega) (fun h39 => ?_) (fun h39 => ?_)) | refine e_icmp_gt (tgt := 83) dX10_scan_39 (by decide) (fun h39 => ?_) (fun h39 => ?_)
              · try first | contradiction | omega
                all_goals
                  refine e_iload dX10_scan_83 rfl ?_
                  refine e_ret (some _) rfl (r_int dX10_scan_85 rfl) ?_
                  exact gq2 rfl hF2 hct hK
              · try first | contradiction | omega
                all_goals
                  omega
            | succ l ih =>
              intro k n v fi2 ai2 st t hk hlk hn ivv hw1 hw2 hS hst hF2 hct hK
              have hk1 : k < 1000 := by omega
              have h3v := iv_mm ivv
              have hyk : inR (nI k) 1000 = true := by rw [inR_nI (by omega)]; exact decide_eq_true hk1
              have r2 : redW v (nI c) (nI k) = askW v c k 0 := by unfold redW; rw [if_pos ⟨hx0, hyk⟩, nI_clamp hc2, nI_clamp (by omega)]
              have r1 : redR v (nI c) (nI k) = if anF v c k = 0 then nI (v (1106 + 1000 * v (42 + spW v k) + k)) else -1 - nI (anF v c k) := by unfold redR; rw [if_pos ⟨hx0, hyk⟩, nI_clamp hc2, nI_clamp (by omega)]
              have hal := anF_le v c k
              have hso := iv_own ivv (spW_lt ivv k)
              have hvl := iv_va ivv (i := 1000 * v (42 + spW v k) + k) (by omega)
              rw [← Nat.add_assoc] at hvl
              have ivA := ask_Inv ivv (c := c) (k := k) (v := 0) hc hk1 (by omega) (by rw [hw2 k (Nat.le_refl _) hk1]; have := hwt k hk1; omega)
              have hS0 : scF c (l + 1) k n v = if anF v c k = 0 then scF c l (k + 1) (n + (if 0 < v (1106 + 1000 * v (42 + spW v k) + k) then 1 else 0)) (askW v c k 0) else (-1 - nI (anF v c k), askW v c k 0) := rfl
              by_cases ha : anF v c k = 0
              · rw [if_pos ha] at hS0
                rw [hS0] at hS
                have q1 : ∀ q, q < 1000 → askW v c k 0 (106 + q) = if q = k then v (106 + q) + 1 else v (106 + q) := fun q hq => by
                  have e0 : asA v c k 0 = 0 := by unfold asA; rw [if_neg (fun z => absurd z.2.1 (by omega))]; exact ha
                  unfold askW ask1
                  rw [if_pos e0, if_neg (by omega), upN_n (by omega)]
                  by_cases e9 : q = k
                  · subst e9; rw [if_pos rfl, upN_s]
                  · rw [if_neg e9, upN_n (by omega), upN_n (by omega), upN_n (by omega)]
                have w1 : ∀ q, q < 1000 → askW v c k 0 (106 + q) ≤ w (106 + q) + 2 := fun q hq => by
                  rw [q1 q hq]
                  have := hw1 q hq
                  split
                  · rename_i e9; have := hw2 q (by omega) hq; omega
                  · exact this
                have w2 : ∀ q, k + 1 ≤ q → q < 1000 → askW v c k 0 (106 + q) = w (106 + q) := fun q a b => by rw [q1 q b, if_neg (by omega)]; exact hw2 q (by omega) b
                have s0 : anF w c lo = 0 := hst.elim (fun z => by rw [← z.2.1, ← z.2.2]; exact ha) (fun z => z.2)
                refine e_iload dX10_scan_36 rfl ?_
                refine e_iload_n dX10_scan_38 rfl rfl ?_
                first | ((with_reducible refine mk_nn ?_); refine n_icmp_gt (tgt := 83) dX10_scan_39 (by decide) (by omega) (by omega) (fun h39 => ?_) (fun h39 => ?_)) | refine e_icmp_gt (tgt := 83) dX10_scan_39 (by decide) (fun h39 => ?_) (fun h39 => ?_)
                · try first | contradiction | omega
                  all_goals
                    omega
                · try first | contradiction | omega
                  all_goals
                    refine e_aload_n dX10_scan_42 rfl rfl ?_
                    refine e_getR dX10_scan_43 fl_X10_35 rfl (cx_2 cm) ?_
                    refine e_iload_n dX10_scan_46 rfl rfl ?_
                    refine e_iload dX10_scan_47 rfl ?_
                    refine kx_V2 (M' := mX1_readKey) dX10_scan_49 ml_X10_86 ok_X1_readKey (by decide) rfl im_X1_readKey se_X1_readKey (ct_X1_readKey cm ivv hK _ _) (Nat.le_of_ble_eq_true rfl) (by decide) (Nat.le_of_ble_eq_true rfl) (fun fi49 ai49 hG49 hK => ?_)
                    have hF2 := FR2_t hF2 hG49
                    rw [r2] at hK
                    rw [r1]
                    rw [if_pos ha]
                    refine e_istore dX10_scan_52 (Nat.le_of_ble_eq_true rfl) rfl ?_
                    refine e_iload dX10_scan_54 rfl ?_
                    first | ((with_reducible refine mk_ll ?_); refine m_if_ge (tgt := 62) dX10_scan_56 (by decide) (by omega) (by omega) (fun h56 => ?_) (fun h56 => ?_)) | ((with_reducible refine mk_lc ?_); refine l_if_ge (tgt := 62) dX10_scan_56 (by decide) (fun h56 => ?_) (fun h56 => ?_)) | ((with_reducible refine mk_n ?_); refine n_if_ge (tgt := 62) dX10_scan_56 (by decide) (by omega) (fun h56 => ?_) (fun h56 => ?_)) | refine e_if_ge (tgt := 62) dX10_scan_56 (by decide) (fun h56 => ?_) (fun h56 => ?_)
                    · try first | contradiction | omega
                      all_goals
                        refine e_aload_n dX10_scan_62 rfl rfl ?_
                        refine e_getR dX10_scan_63 fl_X10_58 rfl (cx_6 cm) ?_
                        refine y_V0 (M' := mX0_forget) dX10_scan_66 ml_X10_83 ok_X0_forget (by decide) rfl im_X0_forget se_X0_forget (ct_X0_forget) (Nat.le_of_ble_eq_true rfl) (by decide) (Nat.le_of_ble_eq_true rfl) ?_
                        refine e_iload dX10_scan_69 rfl ?_
                        first | ((with_reducible refine mk_ll ?_); refine m_if_le (tgt := 77) dX10_scan_71 (by decide) (by omega) (by omega) (fun h71 => ?_) (fun h71 => ?_)) | ((with_reducible refine mk_lc ?_); refine l_if_le (tgt := 77) dX10_scan_71 (by decide) (fun h71 => ?_) (fun h71 => ?_)) | ((with_reducible refine mk_n ?_); refine n_if_le (tgt := 77) dX10_scan_71 (by decide) (by omega) (fun h71 => ?_) (fun h71 => ?_)) | refine e_if_le (tgt := 77) dX10_scan_71 (by decide) (fun h71 => ?_) (fun h71 => ?_)
                        · try first | contradiction | omega
                          all_goals
                            first | refine n_inc dX10_scan_77 rfl (Nat.le_of_ble_eq_true rfl) rfl ?_ | refine e_iinc dX10_scan_77 rfl rfl (Nat.le_of_ble_eq_true rfl) rfl ?_
                            refine e_goto (tgt := 36) dX10_scan_80 (by decide) ?_
                            first | (rw [if_pos (by omega)] at hS; exact ih (k + 1) (n + 1) _ _ _ true _ (by omega) (by omega) (by omega) ivA w1 w2 hS (Or.inr ⟨rfl, s0⟩) (FR2_c hF2) (up2_s _ _ _ _) (K_ct (Bd_iv ivA) hK)) | (rw [if_neg (by omega)] at hS; exact ih (k + 1) n _ _ _ true _ (by omega) (by omega) (by omega) ivA w1 w2 hS (Or.inr ⟨rfl, s0⟩) (FR2_c hF2) (up2_s _ _ _ _) (K_ct (Bd_iv ivA) hK))
                        · try first | contradiction | omega
                          all_goals
                            first | refine n_inc dX10_scan_74 rfl (Nat.le_of_ble_eq_true rfl) rfl ?_ | refine e_iinc dX10_scan_74 rfl rfl (Nat.le_of_ble_eq_true rfl) rfl ?_
                            first | refine n_inc dX10_scan_77 rfl (Nat.le_of_ble_eq_true rfl) rfl ?_ | refine e_iinc dX10_scan_77 rfl rfl (Nat.le_of_ble_eq_true rfl) rfl ?_
                            refine e_goto (tgt := 36) dX10_scan_80 (by decide) ?_
                            first | (rw [if_pos (by omega)] at hS; exact ih (k + 1) (n + 1) _ _ _ true _ (by omega) (by omega) (by omega) ivA w1 w2 hS (Or.inr ⟨rfl, s0⟩) (FR2_c hF2) (up2_s _ _ _ _) (K_ct (Bd_iv ivA) hK)) | (rw [if_neg (by omega)] at hS; exact ih (k + 1) n _ _ _ true _ (by omega) (by omega) (by omega) ivA w1 w2 hS (Or.inr ⟨rfl, s0⟩) (FR2_c hF2) (up2_s _ _ _ _) (K_ct (Bd_iv ivA) hK))
                    · try first | contradiction | omega
                      all_goals
                        contradiction
              · rw [if_neg ha] at hS0
                rw [hS0] at hS
                rw [← hS]
                refine e_iload dX10_scan_36 rfl ?_
                refine e_iload_n dX10_scan_38 rfl rfl ?_
                first | ((with_reducible refine mk_nn ?_); refine n_icmp_gt (tgt := 83) dX10_scan_39 (by decide) (by omega) (by omega) (fun h39 => ?_) (fun h39 => ?_)) | refine e_icmp_gt (tgt := 83) dX10_scan_39 (by decide) (fun h39 => ?_) (fun h39 => ?_)
                · try first | contradiction | omega
                  all_goals
                    omega
                · try first | contradiction | omega
                  all_goals
                    refine e_aload_n dX10_scan_42 rfl rfl ?_
                    refine e_getR dX10_scan_43 fl_X10_35 rfl (cx_2 cm) ?_
                    refine e_iload_n dX10_scan_46 rfl rfl ?_
                    refine e_iload dX10_scan_47 rfl ?_
                    refine kx_V2 (M' := mX1_readKey) dX10_scan_49 ml_X10_86 ok_X1_readKey (by decide) rfl im_X1_readKey se_X1_readKey (ct_X1_readKey cm ivv hK _ _) (Nat.le_of_ble_eq_true rfl) (by decide) (Nat.le_of_ble_eq_true rfl) (fun fi49 ai49 hG49 hK => ?_)
                    have hF2 := FR2_t hF2 hG49
                    rw [r2] at hK
                    rw [r1]
                    rw [if_neg ha]
                    have hneg := m1_neg (anF v c k) (by omega) (by omega)
                    clear r1 hS0 hS
                    generalize -1 - nI (anF v c k) = tt at *
                    refine e_istore dX10_scan_52 (Nat.le_of_ble_eq_true rfl) rfl ?_
                    refine e_iload dX10_scan_54 rfl ?_
                    first | ((with_reducible refine mk_ll ?_); refine m_if_ge (tgt := 62) dX10_scan_56 (by decide) (by omega) (by omega) (fun h56 => ?_) (fun h56 => ?_)) | ((with_reducible refine mk_lc ?_); refine l_if_ge (tgt := 62) dX10_scan_56 (by decide) (fun h56 => ?_) (fun h56 => ?_)) | ((with_reducible refine mk_n ?_); refine n_if_ge (tgt := 62) dX10_scan_56 (by decide) (by omega) (fun h56 => ?_) (fun h56 => ?_)) | refine e_if_ge (tgt := 62) dX10_scan_56 (by decide) (fun h56 => ?_) (fun h56 => ?_)
                    · try first | contradiction | omega
                      all_goals
                        exact absurd h56 hneg
                    · try first | contradiction | omega
                      all_goals
                        refine e_iload dX10_scan_59 rfl ?_
                        refine e_ret (some _) rfl (r_int dX10_scan_61 rfl) ?_
                        refine gq2 rfl hF2 ((FR1_ct hG49).trans (hct.trans ?_)) hK
                        rcases hst with ⟨z1, z2, z3⟩ | ⟨z1, z2⟩
                        · subst z2 z3; rw [z1, decide_eq_false ha]
                        · rw [z1, decide_eq_true z2]
          refine e_iload_n dX10_scan_0 rfl rfl ?_
          refine x_S1 (M' := mX10_isKey) dX10_scan_1 ml_X10_94 ok_X10_isKey rfl sc_X10_isKey (ct_X10_isKey _) (Nat.le_of_ble_eq_true rfl) (by decide) (Nat.le_of_ble_eq_true rfl) ?_
          rw [hy]
          first | ((with_reducible refine mk_b ?_); refine b_if_eq (tgt := 27) dX10_scan_4 (by decide) (fun h4 => ?_) (fun h4 => ?_)) | ((with_reducible refine mk_ll ?_); refine m_if_eq (tgt := 27) dX10_scan_4 (by decide) (by omega) (by omega) (fun h4 => ?_) (fun h4 => ?_)) | ((with_reducible refine mk_lc ?_); refine l_if_eq (tgt := 27) dX10_scan_4 (by decide) (fun h4 => ?_) (fun h4 => ?_)) | ((with_reducible refine mk_n ?_); refine n_if_eq (tgt := 27) dX10_scan_4 (by decide) (by omega) (fun h4 => ?_) (fun h4 => ?_)) | refine e_if_eq (tgt := 27) dX10_scan_4 (by decide) (fun h4 => ?_) (fun h4 => ?_)
          · try first | contradiction | omega | (simp only [decide_eq_true_eq, decide_eq_false_iff_not] at h4; omega)
            all_goals
              first | omega | (simp only [Int32.lt_iff_toInt_lt, Int32.le_iff_toInt_le, hsu, t60] at *; omega) | contradiction
          · try first | contradiction | omega | (simp only [decide_eq_true_eq, decide_eq_false_iff_not] at h4; omega)
            all_goals
              refine e_iload_n dX10_scan_7 rfl rfl ?_
              refine x_S1 (M' := mX10_isKey) dX10_scan_8 ml_X10_94 ok_X10_isKey rfl sc_X10_isKey (ct_X10_isKey _) (Nat.le_of_ble_eq_true rfl) (by decide) (Nat.le_of_ble_eq_true rfl) ?_
              rw [hz]
              first | ((with_reducible refine mk_b ?_); refine b_if_eq (tgt := 27) dX10_scan_11 (by decide) (fun h11 => ?_) (fun h11 => ?_)) | ((with_reducible refine mk_ll ?_); refine m_if_eq (tgt := 27) dX10_scan_11 (by decide) (by omega) (by omega) (fun h11 => ?_) (fun h11 => ?_)) | ((with_reducible refine mk_lc ?_); refine l_if_eq (tgt := 27) dX10_scan_11 (by decide) (fun h11 => ?_) (fun h11 => ?_)) | ((with_reducible refine mk_n ?_); refine n_if_eq (tgt := 27) dX10_scan_11 (by decide) (by omega) (fun h11 => ?_) (fun h11 => ?_)) | refine e_if_eq (tgt := 27) dX10_scan_11 (by decide) (fun h11 => ?_) (fun h11 => ?_)
              · try first | contradiction | omega | (simp only [decide_eq_true_eq, decide_eq_false_iff_not] at h11; omega)
                all_goals
                  first | omega | (simp only [Int32.lt_iff_toInt_lt, Int32.le_iff_toInt_le, hsu, t60] at *; omega) | contradiction
              · try first | contradiction | omega | (simp only [decide_eq_true_eq, decide_eq_false_iff_not] at h11; omega)
                all_goals
                  refine e_iload_n dX10_scan_14 rfl rfl ?_
                  refine e_iload_n dX10_scan_15 rfl rfl ?_
                  first | ((with_reducible refine mk_nn ?_); refine n_icmp_gt (tgt := 27) dX10_scan_16 (by decide) (by omega) (by omega) (fun h16 => ?_) (fun h16 => ?_)) | refine e_icmp_gt (tgt := 27) dX10_scan_16 (by decide) (fun h16 => ?_) (fun h16 => ?_)
                  · try first | contradiction | omega
                    all_goals
                      first | omega | (simp only [Int32.lt_iff_toInt_lt, Int32.le_iff_toInt_le, hsu, t60] at *; omega) | contradiction
                  · try first | contradiction | omega
                    all_goals
                      refine e_iload_n dX10_scan_19 rfl rfl ?_
                      refine e_iload_n dX10_scan_20 rfl rfl ?_
                      first | ((with_reducible refine mk_nn ?_); refine n_isub dX10_scan_21 (by omega) ?_) | refine e_isub dX10_scan_21 ?_
                      refine e_bipush (v := nI 60) dX10_scan_22 rfl ?_
                      first | ((with_reducible refine mk_nn ?_); refine n_icmp_le (tgt := 30) dX10_scan_24 (by decide) (by omega) (by omega) (fun h24 => ?_) (fun h24 => ?_)) | refine e_icmp_le (tgt := 30) dX10_scan_24 (by decide) (fun h24 => ?_) (fun h24 => ?_)
                      · try first | contradiction | omega
                        all_goals
                          refine e_iconst (v := nI 0) dX10_scan_30 rfl ?_
                          refine e_istore dX10_scan_31 (Nat.le_of_ble_eq_true rfl) rfl ?_
                          refine e_iload_n dX10_scan_33 rfl rfl ?_
                          refine e_istore dX10_scan_34 (Nat.le_of_ble_eq_true rfl) rfl ?_
                          exact key (hi - lo + 1) lo 0 w _ _ false _ (by omega) (Nat.le_refl _) (Nat.zero_le _) iv (fun q hq => by omega) (fun _ _ _ => rfl) rfl (Or.inl ⟨rfl, rfl, rfl⟩) (FR2_a hF) rfl hK
                      · try first | contradiction | omega
                        all_goals
                          first | omega | (simp only [Int32.lt_iff_toInt_lt, Int32.le_iff_toInt_le, hsu, t60] at *; omega) | contradiction
      · have eb : scnB x (nI lo) (nI hi) = false := by rw [hsb, decide_eq_false hr, Bool.and_false]
        obtain ⟨e1, e2⟩ := hsc _ eb rfl
        rw [e1, e2, eb]
        refine e_iload_n dX10_scan_0 rfl rfl ?_
        refine x_S1 (M' := mX10_isKey) dX10_scan_1 ml_X10_94 ok_X10_isKey rfl sc_X10_isKey (ct_X10_isKey _) (Nat.le_of_ble_eq_true rfl) (by decide) (Nat.le_of_ble_eq_true rfl) ?_
        rw [hy]
        first | ((with_reducible refine mk_b ?_); refine b_if_eq (tgt := 27) dX10_scan_4 (by decide) (fun h4 => ?_) (fun h4 => ?_)) | ((with_reducible refine mk_ll ?_); refine m_if_eq (tgt := 27) dX10_scan_4 (by decide) (by omega) (by omega) (fun h4 => ?_) (fun h4 => ?_)) | ((with_reducible refine mk_lc ?_); refine l_if_eq (tgt := 27) dX10_scan_4 (by decide) (fun h4 => ?_) (fun h4 => ?_)) | ((with_reducible refine mk_n ?_); refine n_if_eq (tgt := 27) dX10_scan_4 (by decide) (by omega) (fun h4 => ?_) (fun h4 => ?_)) | refine e_if_eq (tgt := 27) dX10_scan_4 (by decide) (fun h4 => ?_) (fun h4 => ?_)
        · try first | contradiction | omega | (simp only [decide_eq_true_eq, decide_eq_false_iff_not] at h4; omega)
          all_goals
            refine e_bipush (v := -10) dX10_scan_27 rfl ?_
            refine e_ret (some _) rfl (r_int dX10_scan_29 rfl) ?_
            exact gq0 rfl hF hK
        · try first | contradiction | omega | (simp only [decide_eq_true_eq, decide_eq_false_iff_not] at h4; omega)
          all_goals
            refine e_iload_n dX10_scan_7 rfl rfl ?_
            refine x_S1 (M' := mX10_isKey) dX10_scan_8 ml_X10_94 ok_X10_isKey rfl sc_X10_isKey (ct_X10_isKey _) (Nat.le_of_ble_eq_true rfl) (by decide) (Nat.le_of_ble_eq_true rfl) ?_
            rw [hz]
            first | ((with_reducible refine mk_b ?_); refine b_if_eq (tgt := 27) dX10_scan_11 (by decide) (fun h11 => ?_) (fun h11 => ?_)) | ((with_reducible refine mk_ll ?_); refine m_if_eq (tgt := 27) dX10_scan_11 (by decide) (by omega) (by omega) (fun h11 => ?_) (fun h11 => ?_)) | ((with_reducible refine mk_lc ?_); refine l_if_eq (tgt := 27) dX10_scan_11 (by decide) (fun h11 => ?_) (fun h11 => ?_)) | ((with_reducible refine mk_n ?_); refine n_if_eq (tgt := 27) dX10_scan_11 (by decide) (by omega) (fun h11 => ?_) (fun h11 => ?_)) | refine e_if_eq (tgt := 27) dX10_scan_11 (by decide) (fun h11 => ?_) (fun h11 => ?_)
            · try first | contradiction | omega | (simp only [decide_eq_true_eq, decide_eq_false_iff_not] at h11; omega)
              all_goals
                refine e_bipush (v := -10) dX10_scan_27 rfl ?_
                refine e_ret (some _) rfl (r_int dX10_scan_29 rfl) ?_
                exact gq0 rfl hF hK
            · try first | contradiction | omega | (simp only [decide_eq_true_eq, decide_eq_false_iff_not] at h11; omega)
              all_goals
                refine e_iload_n dX10_scan_14 rfl rfl ?_
                refine e_iload_n dX10_scan_15 rfl rfl ?_
                first | ((with_reducible refine mk_nn ?_); refine n_icmp_gt (tgt := 27) dX10_scan_16 (by decide) (by omega) (by omega) (fun h16 => ?_) (fun h16 => ?_)) | refine e_icmp_gt (tgt := 27) dX10_scan_16 (by decide) (fun h16 => ?_) (fun h16 => ?_)
                · try first | contradiction | omega
                  all_goals
                    refine e_bipush (v := -10) dX10_scan_27 rfl ?_
                    refine e_ret (some _) rfl (r_int dX10_scan_29 rfl) ?_
                    exact gq0 rfl hF hK
                · try first | contradiction | omega
                  all_goals
                    refine e_iload_n dX10_scan_19 rfl rfl ?_
                    refine e_iload_n dX10_scan_20 rfl rfl ?_
                    first | ((with_reducible refine mk_nn ?_); refine n_isub dX10_scan_21 (by omega) ?_) | refine e_isub dX10_scan_21 ?_
                    refine e_bipush (v := nI 60) dX10_scan_22 rfl ?_
                    first | ((with_reducible refine mk_nn ?_); refine n_icmp_le (tgt := 30) dX10_scan_24 (by decide) (by omega) (by omega) (fun h24 => ?_) (fun h24 => ?_)) | refine e_icmp_le (tgt := 30) dX10_scan_24 (by decide) (fun h24 => ?_) (fun h24 => ?_)
                    · try first | contradiction | omega
                      all_goals
                        exfalso; simp only [Int32.lt_iff_toInt_lt, Int32.le_iff_toInt_le, hsu, t60] at *; omega
                    · try first | contradiction | omega
                      all_goals
                        refine e_bipush (v := -10) dX10_scan_27 rfl ?_
                        refine e_ret (some _) rfl (r_int dX10_scan_29 rfl) ?_
                        exact gq0 rfl hF hK
