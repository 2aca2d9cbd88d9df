theorem ct_X5_catchUpSome {fi : FI} {fr : FR} {ai : FI} {ar : FR} {N : Nat} {w lg : Nat → Nat} {E : Nat} (cm : CM fr ar) (iv : Inv w) (hK : K fi ai w lg E) {m ch : Nat} (hm : m < w 3) (hch : ch ≤ 16) : CP mX5_catchUpSome 2 0 0 [.ref (rf 5 73), .ref (rf 4 (34 + 2 * m)), .int (nI ch)] fi fr ai ar N (kQ (none) fi fr ai ar N (fun fi ai => K fi ai (catW w m ch) lg E)) := by
  have h1 := iv_n iv
  have h3 := iv_mm iv
  have bd := Bd_iv iv
  have hF : FR1 fi ai fi ai := FR1_rf
  have hq := iv_mv iv hm
  have h60 := hq.2.2.2.2.2.2.2.1
  have ecn : (if w (7694 + 72 * m + 6) < ch then w (7694 + 72 * m + 6) else ch) = cuN w m ch := by unfold cuN; split <;> split <;> omega
  have hcn : cuN w m ch ≤ w (7694 + 72 * m + 6) := by unfold cuN; split <;> omega
  change EV mX5_catchUpSome 2 0 0 0 [some (.ref (rf 5 73)), some (.ref (rf 4 (34 + 2 * m))), some (.int (nI ch)), none, none] [] fi fr ai ar N (kQ (none) fi fr ai ar N (fun fi ai => K fi ai (catW w m ch) lg E))
  have key := ev_up (P := fun j => ∀ fi2 ai2, FR1 fi ai fi2 ai2 → K fi2 ai2 (cuS w m j) lg E → EV mX5_catchUpSome 2 0 0 12 [some (.ref (rf 5 73)), some (.ref (rf 4 (34 + 2 * m))), some (.int (nI ch)), some (.int (nI (cuN w m ch))), some (.int (nI j))] [] fi2 fr ai2 ar N (kQ (none) fi fr ai ar N (fun fi ai => K fi ai (catW w m ch) lg E))) (cuN w m ch) (fun j hj ih fi2 ai2 hF hK => by
    obtain ⟨g1, g2⟩ := cuS_in iv hm j (by omega)
    have ht := hq.2.2.2.2.2.2.2.2.2.2.2 j (by omega)
    have e3 := g1 (7694 + 72 * m + 3) (by omega)
    have e4 := g1 (7694 + 72 * m + 4) (by omega)
    have e6 := g1 (7694 + 72 * m + 6) (by omega)
    have e12 := g1 (7694 + 72 * m + 12 + j) (by omega)
    have e33 := g1 3 (by omega)
    have bd : Bd (cuS w m j) := Bd_sm (g1 1 (by omega)) e33 (fun c hc => g1 _ (by omega)) (fun m2 hm2 => g1 _ (by omega)) bd
    have hs : cuS w m (j + 1) = upN (cuS w m j) (1106 + 1000 * w (7694 + 72 * m + 4) + w (7694 + 72 * m + 12 + j)) (cuS w m j (1106 + 1000 * w (7694 + 72 * m + 3) + w (7694 + 72 * m + 12 + j))) := rfl
    rw [hs] at ih
    generalize cuS w m j = W at *
    refine e_iload dX5_catchUpSome_12 rfl ?_
    refine e_iload_n dX5_catchUpSome_14 rfl rfl ?_
    first | ((with_reducible refine mk_nn ?_); refine n_icmp_ge (tgt := 60) dX5_catchUpSome_15 (by decide) (by omega) (by omega) (fun h15 => ?_) (fun h15 => ?_)) | refine e_icmp_ge (tgt := 60) dX5_catchUpSome_15 (by decide) (fun h15 => ?_) (fun h15 => ?_)
    · try first | contradiction | omega
      all_goals
        omega
    · try first | contradiction | omega
      all_goals
        refine e_aload_n dX5_catchUpSome_18 rfl rfl ?_
        refine e_getR dX5_catchUpSome_19 fl_X5_9 rfl (cv_w cm) ?_
        refine e_aload_n dX5_catchUpSome_22 rfl rfl ?_
        refine e_getE dX5_catchUpSome_23 fl_X5_140 rfl (k_m6 hK (by first | omega | (simp (disch := omega) only [upN_n, upN_s]; omega))) ?_
        refine e_aload_n dX5_catchUpSome_26 rfl rfl ?_
        refine e_getR dX5_catchUpSome_27 fl_X5_152 rfl (cm_tra cm (by omega)) ?_
        refine e_iload dX5_catchUpSome_30 rfl ?_
        refine e_iadE _ dX5_catchUpSome_32 ⟨by decide, by decide⟩ rfl rfl (by simp only [lenK]; omega) (k_tr hK (by first | omega | (simp (disch := omega) only [upN_n, upN_s]; omega)) (by first | omega | (simp (disch := omega) only [upN_n, upN_s]; omega))) ?_
        refine e_aload_n dX5_catchUpSome_33 rfl rfl ?_
        refine e_getR dX5_catchUpSome_34 fl_X5_9 rfl (cv_w cm) ?_
        refine e_aload_n dX5_catchUpSome_37 rfl rfl ?_
        refine e_getE dX5_catchUpSome_38 fl_X5_133 rfl (k_m5 hK (by first | omega | (simp (disch := omega) only [upN_n, upN_s]; omega))) ?_
        refine e_aload_n dX5_catchUpSome_41 rfl rfl ?_
        refine e_getR dX5_catchUpSome_42 fl_X5_152 rfl (cm_tra cm (by omega)) ?_
        refine e_iload dX5_catchUpSome_45 rfl ?_
        refine e_iadE _ dX5_catchUpSome_47 ⟨by decide, by decide⟩ rfl rfl (by simp only [lenK]; omega) (k_tr hK (by first | omega | (simp (disch := omega) only [upN_n, upN_s]; omega)) (by first | omega | (simp (disch := omega) only [upN_n, upN_s]; omega))) ?_
        refine x_V2 (M' := mX9_valueOf) dX5_catchUpSome_48 ml_X5_136 ok_X9_valueOf (by decide) rfl im_X9_valueOf se_X9_valueOf (ct_valueOf2 cm bd hK (by omega) (by omega)) (Nat.le_of_ble_eq_true rfl) (by decide) (Nat.le_of_ble_eq_true rfl) ?_
        refine ky_V3 (M' := mX9_putValue) dX5_catchUpSome_51 ml_X5_143 ok_X9_putValue (by decide) rfl im_X9_putValue se_X9_putValue (ct_X9_putValue cm bd hK (by omega) (by omega)) (Nat.le_of_ble_eq_true rfl) (by decide) (Nat.le_of_ble_eq_true rfl) (fun fi ai hG hK => ?_)
        have hF := FR1_tr hF hG
        first | refine n_inc dX5_catchUpSome_54 rfl (Nat.le_of_ble_eq_true rfl) rfl ?_ | refine e_iinc dX5_catchUpSome_54 rfl rfl (Nat.le_of_ble_eq_true rfl) rfl ?_
        refine e_goto (tgt := 12) dX5_catchUpSome_57 (by decide) ?_
        rw [e3, e4, e12] at hK
        exact ih _ _ hF hK
    ) (fun fi2 ai2 hF hK => by
    obtain ⟨g1, g2⟩ := cuS_in iv hm (cuN w m ch) hcn
    have e6 := g1 (7694 + 72 * m + 6) (by omega)
    have e33 := g1 3 (by omega)
    have bd : Bd (cuS w m (cuN w m ch)) := Bd_sm (g1 1 (by omega)) e33 (fun c hc => g1 _ (by omega)) (fun m2 hm2 => g1 _ (by omega)) bd
    refine e_iload dX5_catchUpSome_12 rfl ?_
    refine e_iload_n dX5_catchUpSome_14 rfl rfl ?_
    first | ((with_reducible refine mk_nn ?_); refine n_icmp_ge (tgt := 60) dX5_catchUpSome_15 (by decide) (by omega) (by omega) (fun h15 => ?_) (fun h15 => ?_)) | refine e_icmp_ge (tgt := 60) dX5_catchUpSome_15 (by decide) (fun h15 => ?_) (fun h15 => ?_)
    · try first | contradiction | omega
      all_goals
        refine e_aload_n dX5_catchUpSome_60 rfl rfl ?_
        refine e_iload_n dX5_catchUpSome_61 rfl rfl ?_
        refine ky_V1 (M' := mX4_dropFromTrail) dX5_catchUpSome_62 ml_X5_155 ok_X4_dropFromTrail (by decide) rfl im_X4_dropFromTrail se_X4_dropFromTrail (ct_X4_dropFromTrail cm bd hK (by omega) (by omega)) (Nat.le_of_ble_eq_true rfl) (by decide) (Nat.le_of_ble_eq_true rfl) (fun fi ai hG hK => ?_)
        have hF := FR1_tr hF hG
        rw [e6] at hK
        have bd : Bd (upN (tsF (cuS w m (cuN w m ch)) m (cuN w m ch) (w (7694 + 72 * m + 6) - cuN w m ch)) (7694 + 72 * m + 6) (w (7694 + 72 * m + 6) - cuN w m ch)) := Bd_up (Bd_sm (tsF_fr (by omega)) (tsF_fr (by omega)) (fun c hc => tsF_fr (by omega)) (fun m2 hm2 => tsF_fr (by omega)) bd) (by omega)
        refine e_aload_n dX5_catchUpSome_65 rfl rfl ?_
        refine e_getR dX5_catchUpSome_66 fl_X5_15 rfl (cv_l cm) ?_
        refine e_bipush (v := nI 13) dX5_catchUpSome_69 rfl ?_
        refine e_iload_n dX5_catchUpSome_71 rfl rfl ?_
        refine ky_V2 (M' := mX3_add) dX5_catchUpSome_72 ml_X5_66 ok_X3_add (by decide) rfl im_X3_add se_X3_add (ct_X3_add cm bd hK (by omega)) (Nat.le_of_ble_eq_true rfl) (by decide) (Nat.le_of_ble_eq_true rfl) (fun fi ai hG hK => ?_)
        have hF := FR1_tr hF hG
        refine e_ret none rfl (r_void dX5_catchUpSome_75 rfl) ?_
        refine kq rfl hF (K_eq hK ?_)
        unfold catW
        rw [upN_n (q := 8558 + 13) (by omega), tsF_fr (q := 8558 + 13) (by omega), g1 (8558 + 13) (by omega)]
    · try first | contradiction | omega
      all_goals
        omega
    )
  refine e_iload_n dX5_catchUpSome_0 rfl rfl ?_
  refine e_aload_n dX5_catchUpSome_1 rfl rfl ?_
  refine e_getE dX5_catchUpSome_2 fl_X5_121 rfl (k_m1 hK (by first | omega | (simp (disch := omega) only [upN_n, upN_s]; omega))) ?_
  refine e_mmin dX5_catchUpSome_5 ml_X5_147 sc_Mmin nz_M cd_Mmin (by decide) (Nat.le_of_ble_eq_true rfl) ?_
  rw [nI_min (by omega) (by omega), ecn]
  refine e_istore_n dX5_catchUpSome_8 rfl (Nat.le_of_ble_eq_true rfl) rfl ?_
  refine e_iconst (v := nI 0) dX5_catchUpSome_9 rfl ?_
  refine e_istore dX5_catchUpSome_10 (Nat.le_of_ble_eq_true rfl) rfl ?_
  exact key 0 (by omega) _ _ hF hK
def sw3 (w : Nat → Nat) (m : Nat) : Nat → Nat := upN (upN (upN w 0 (w 0 + 1)) (42 + spW w (w (7694 + 72 * m + 1))) (w (7694 + 72 * m + 4))) (74 + spW w (w (7694 + 72 * m + 1))) (w 0 + 1)
theorem k_swi {fi fi' ai ai' : FI} {w lg : Nat → Nat} {E m : Nat} (iv : Inv w) (hK : K fi ai w lg E) (hl : w (10 + spW w (w (7694 + 72 * m + 1))) = w (7694 + 72 * m + 1)) (f3 : fi' (32 * 8 + 3) (rf 8 4) = nI (w 1)) (f4 : fi' (32 * 8 + 4) (rf 8 4) = nI (w 0 + 1)) (fo : ∀ f r, r ≠ rf 8 4 → fi' f r = fi f r)
    (p0 : ai' (rf 16 5) (spW w (w (7694 + 72 * m + 1))) = nI (w (7694 + 72 * m + 1)) ∧ ai' (rf 16 6) (spW w (w (7694 + 72 * m + 1))) = nI (w (7694 + 72 * m + 4)) ∧ ai' (rf 16 7) (spW w (w (7694 + 72 * m + 1))) = nI (w 0 + 1)) (ao : ∀ a q, ¬ (tb3 a ∧ q = spW w (w (7694 + 72 * m + 1))) → ai' a q = ai a q) : K fi' ai' (sw3 w m) lg E := by
  have bd := Bd_iv iv
  have h1 := iv_n iv
  have hsp := spW_lt iv (w (7694 + 72 * m + 1))
  have f : ∀ q, q ≠ 0 → q ≠ 42 + spW w (w (7694 + 72 * m + 1)) → q ≠ 74 + spW w (w (7694 + 72 * m + 1)) → sw3 w m q = w q := fun q a b c => by unfold sw3; rw [upN_n c, upN_n b, upN_n a]
  have e0 : sw3 w m 0 = w 0 + 1 := by unfold sw3; rw [upN_n (by omega), upN_n (by omega), upN_s]
  have e1 : sw3 w m 1 = w 1 := f 1 (by omega) (by omega) (by omega)
  refine K_map bd hK (fun q a b c => f q a (by omega) (by omega)) fo (fun A q hA => ao A q (fun e => hA e.1)) ⟨by rw [e1]; exact f3, by rw [e0]; exact f4, fun j hj => ?_⟩
  rw [e1] at hj
  show ai' (rf 16 5) j = nI (sw3 w m (10 + j)) ∧ ai' (rf 16 6) j = nI (sw3 w m (42 + j)) ∧ ai' (rf 16 7) j = nI (sw3 w m (74 + j))
  rw [f (10 + j) (by omega) (by omega) (by omega)]
  by_cases e : j = spW w (w (7694 + 72 * m + 1))
  · subst e
    have g2 : sw3 w m (42 + spW w (w (7694 + 72 * m + 1))) = w (7694 + 72 * m + 4) := by unfold sw3; rw [upN_n (by omega), upN_s]
    have g3 : sw3 w m (74 + spW w (w (7694 + 72 * m + 1))) = w 0 + 1 := by unfold sw3; rw [upN_s]
    rw [g2, g3, hl]
    exact p0
  · rw [f (42 + j) (by omega) (by omega) (by omega), f (74 + j) (by omega) (by omega) (by omega), ao _ j (fun q => e q.2), ao _ j (fun q => e q.2), ao _ j (fun q => e q.2)]
    exact ⟨k_lo hK hj, k_ow hK hj, k_ep hK hj⟩
theorem mv_low {w : Nat → Nat} (iv : Inv w) (i2 : Inv2 w) {m : Nat} (hm : m < w 3) (hg : goB w m = true) : w (10 + spW w (w (7694 + 72 * m + 1))) = w (7694 + 72 * m + 1) := by
  obtain ⟨i, hi, a, -⟩ := (i2.2.1 m hm).1 hg
  exact sp_at iv hi a
theorem ct_X5_switchOwner {fi : FI} {fr : FR} {ai : FI} {ar : FR} {N : Nat} {w lg : Nat → Nat} (cm : CM fr ar) (iv : Inv w) (i2 : Inv2 w) (hK : K fi ai w lg (w 0)) {m : Nat} (hm : m < w 3) (hg : goB w m = true) (h01 : w 0 < 1999) : CP mX5_switchOwner 1 0 0 [.ref (rf 5 73), .ref (rf 4 (34 + 2 * m))] fi fr ai ar N (kQ (none) fi fr ai ar N (fun fi ai => K fi ai (swiW w m) (lgN lg (w 0 + 1) 3 (w (7694 + 72 * m + 1)) (w (7694 + 72 * m + 4))) (w 0 + 1))) := by
  have h1 := iv_n iv
  have h3 := iv_mm iv
  have bd := Bd_iv iv
  have hF : FR1 fi ai fi ai := FR1_rf
  have hq := iv_mv iv hm
  have hl := mv_low iv i2 hm hg
  have hsp := spW_lt iv (w (7694 + 72 * m + 1))
  change EV mX5_switchOwner 1 0 0 0 [some (.ref (rf 5 73)), some (.ref (rf 4 (34 + 2 * m))), none, none] [] fi fr ai ar N (kQ (none) fi fr ai ar N (fun fi ai => K fi ai (swiW w m) (lgN lg (w 0 + 1) 3 (w (7694 + 72 * m + 1)) (w (7694 + 72 * m + 4))) (w 0 + 1)))
  have s0 : sw3 w m 0 = w 0 + 1 := by unfold sw3; rw [upN_n (by omega), upN_n (by omega), upN_s]
  have sf : ∀ q, q ≠ 0 → (q < 42 ∨ 106 ≤ q) → sw3 w m q = w q := fun q a b => by unfold sw3; rw [upN_n (by omega), upN_n (by omega), upN_n (by omega)]
  refine e_aload_n dX5_switchOwner_0 rfl rfl ?_
  refine e_getR dX5_switchOwner_1 fl_X5_9 rfl (cv_w cm) ?_
  refine e_getR dX5_switchOwner_4 fl_X5_19 rfl (cm_map cm) ?_
  refine e_astore_n dX5_switchOwner_7 rfl (Nat.le_of_ble_eq_true rfl) rfl ?_
  refine e_aload_n dX5_switchOwner_8 rfl rfl ?_
  refine e_aload_n dX5_switchOwner_9 rfl rfl ?_
  refine e_getE dX5_switchOwner_10 fl_X5_158 rfl (k_m3 hK (by first | omega | (simp (disch := omega) only [upN_n, upN_s]; omega))) ?_
  refine x_V1 (M' := mX8_indexOf) dX5_switchOwner_13 ml_X5_161 ok_X8_indexOf (by decide) rfl im_X8_indexOf se_X8_indexOf (by first | exact ct_X8_indexOf cm iv hK (by omega) | exact ct_cX8_indexOf cm iv hK (by omega) (by omega) (by omega)) (Nat.le_of_ble_eq_true rfl) (by decide) (Nat.le_of_ble_eq_true rfl) ?_
  refine e_istore_n dX5_switchOwner_16 rfl (Nat.le_of_ble_eq_true rfl) rfl ?_
  refine e_aload_n dX5_switchOwner_17 rfl rfl ?_
  refine e_dup dX5_switchOwner_18 rfl ?_
  refine e_getE dX5_switchOwner_19 fl_X5_164 rfl (by first | exact k_e hK | exact k_ce hK (by first | omega | (simp (disch := omega) only [upN_n, upN_s]; omega)) | assumption) ?_
  refine e_iconst (v := nI 1) dX5_switchOwner_22 rfl ?_
  first | ((with_reducible refine mk_nn ?_); refine n_iadd dX5_switchOwner_23 ?_) | refine e_iadd dX5_switchOwner_23 ?_
  refine e_pg dX5_switchOwner_24 fl_X5_164 rfl rfl rfl rfl (fun fi24 g24 o24 => ?_)
  refine e_aload_n dX5_switchOwner_27 rfl rfl ?_
  refine e_iload_n dX5_switchOwner_28 rfl rfl ?_
  refine e_aload_n dX5_switchOwner_29 rfl rfl ?_
  refine e_getE dX5_switchOwner_30 fl_X5_158 rfl ((o24 _ _ (fun e => absurd e.2 (rf_ne (by decide) (by decide) (by omega)))).trans (k_m3 hK hm)) ?_
  refine e_aload_n dX5_switchOwner_33 rfl rfl ?_
  refine e_getE dX5_switchOwner_34 fl_X5_140 rfl ((o24 _ _ (fun e => absurd e.2 (rf_ne (by decide) (by decide) (by omega)))).trans (k_m6 hK hm)) ?_
  refine ky_V3 (M' := mX8_put) dX5_switchOwner_37 ml_X5_167 ok_X8_put (by decide) rfl im_X8_put se_X8_put (ct_X8_put (e := w 0 + 1) cm (by omega) g24) (Nat.le_of_ble_eq_true rfl) (by decide) (Nat.le_of_ble_eq_true rfl) (fun fi37 ai37 hG hR => ?_)
  obtain ⟨rfl, p1, p2, p3, p4⟩ := hR
  have hF : FR1 fi ai fi37 ai37 := ⟨fun f r hr => o24 f r (fun e => by rw [e.2, rf_div (by decide)] at hr; omega), fun a ha => funext fun q => p4 a q (fun e => by have := tb3_r e.1; omega)⟩
  have hK := k_swi (m := m) iv hK hl ((o24 _ _ (by omega)).trans (k_n hK)) g24 (fun f r hr => o24 f r (fun e => hr e.2)) ⟨p1, p2, p3⟩ p4
  have bd : Bd (sw3 w m) := Bd_sm (sf 1 (by omega) (by omega)) (sf 3 (by omega) (by omega)) (fun c hc => sf _ (by omega) (by omega)) (fun m2 hm2 => sf _ (by omega) (by omega)) bd
  have sm3 := sf 3 (by omega) (by omega)
  have k3 := (k_m3 hK (show m < sw3 w m 3 by omega)).trans (by rw [sf (7694 + 72 * m + 1) (by omega) (by omega)])
  have k6 := (k_m6 hK (show m < sw3 w m 3 by omega)).trans (by rw [sf (7694 + 72 * m + 4) (by omega) (by omega)])
  have ke := (k_e hK).trans (by rw [s0])
  refine e_aload_n dX5_switchOwner_40 rfl rfl ?_
  refine e_getR dX5_switchOwner_41 fl_X5_15 rfl (cv_l cm) ?_
  refine e_aload_n dX5_switchOwner_44 rfl rfl ?_
  refine e_getE dX5_switchOwner_45 fl_X5_164 rfl ke ?_
  refine e_iconst (v := nI 3) dX5_switchOwner_48 rfl ?_
  refine e_aload_n dX5_switchOwner_49 rfl rfl ?_
  refine e_getE dX5_switchOwner_50 fl_X5_158 rfl k3 ?_
  refine e_aload_n dX5_switchOwner_53 rfl rfl ?_
  refine e_getE dX5_switchOwner_54 fl_X5_140 rfl k6 ?_
  refine ky_V4 (M' := mX3_noteChange) dX5_switchOwner_57 ml_X5_170 ok_X3_noteChange (by decide) rfl im_X3_noteChange se_X3_noteChange (ct_X3_noteChange cm bd hK (by omega) (by omega)) (Nat.le_of_ble_eq_true rfl) (by decide) (Nat.le_of_ble_eq_true rfl) (fun fi ai hG hK => ?_)
  have hF := FR1_tr hF hG
  refine e_aload_n dX5_switchOwner_60 rfl rfl ?_
  refine e_aload_n dX5_switchOwner_61 rfl rfl ?_
  refine e_getE dX5_switchOwner_62 fl_X5_164 rfl ((k_e hK).trans (by rw [s0])) ?_
  refine e_pm (f := 12) (dd := 11) dX5_switchOwner_65 fl_X5_173 (by decide) rfl rfl rfl rfl rfl bd hK (by first | omega | (simp (disch := omega) only [upN_n, upN_s]; omega)) hF (fun fi hF hK => ?_)
  have bd := Bd_K bd hK (by omega)
  refine e_aload_n dX5_switchOwner_68 rfl rfl ?_
  refine e_iconst (v := nI 4) dX5_switchOwner_69 rfl ?_
  refine e_pm (f := 2) (dd := 0) dX5_switchOwner_70 fl_X5_87 (by decide) rfl rfl rfl rfl rfl bd hK (by first | omega | (simp (disch := omega) only [upN_n, upN_s]; omega)) hF (fun fi hF hK => ?_)
  have bd := Bd_K bd hK (by omega)
  refine e_aload_n dX5_switchOwner_73 rfl rfl ?_
  refine e_aload_n dX5_switchOwner_74 rfl rfl ?_
  refine e_getE dX5_switchOwner_75 fl_X5_158 rfl ((k_m3 hK (show m < _ by simp (disch := omega) only [upN_n]; omega)).trans (by simp (disch := omega) only [upN_n]; rw [sf (7694 + 72 * m + 1) (by omega) (by omega)])) ?_
  refine e_pm (f := 7) (dd := 5) dX5_switchOwner_78 fl_X5_127 (by decide) rfl rfl rfl rfl rfl bd hK (by first | omega | (simp (disch := omega) only [upN_n, upN_s]; omega)) hF (fun fi hF hK => ?_)
  have bd := Bd_K bd hK (by omega)
  refine e_ret none rfl (r_void dX5_switchOwner_81 rfl) ?_
  exact kq rfl hF hK
def gfW (w : Nat → Nat) (m bb : Nat) : Nat → Nat := if w (7694 + 72 * m + 0) = 2 then (if w (7694 + 72 * m + 6) = 0 then upN w (7694 + 72 * m + 0) 3 else w)
  else if bb = 0 then w else if w (7694 + 72 * m + 0) = 1 then upN (upN w (7694 + 72 * m + 5) (w (7694 + 72 * m + 2))) (7694 + 72 * m + 0) 2
  else upN (upN (upN w (7694 + 72 * m + 5) (w (7694 + 72 * m + 2))) (7694 + 72 * m + 0) 5) (8558 + 9) (w (8558 + 9) + 1)
theorem ct_gfN {fi : FI} {fr : FR} {ai : FI} {ar : FR} {N : Nat} {w lg : Nat → Nat} {E : Nat} (cm : CM fr ar) (bd : Bd w) (hK : K fi ai w lg E) {m bb : Nat} (hm : m < w 3) (hbb : bb ≤ 1) (hst : w (7694 + 72 * m + 0) ≤ 6) (h33 : w (7694 + 72 * m + 0) ≠ 3) : CP mX5_goFurther 2 0 0 [.ref (rf 5 73), .ref (rf 4 (34 + 2 * m)), .int (nI bb)] fi fr ai ar N (kQ (none) fi fr ai ar N (fun fi ai => K fi ai (gfW w m bb) lg E)) := by
  have h1 := bd.1
  have h3 := bd.2.1
  have hF : FR1 fi ai fi ai := FR1_rf
  have h60 := bd.2.2.2 m hm
  change EV mX5_goFurther 2 0 0 0 [some (.ref (rf 5 73)), some (.ref (rf 4 (34 + 2 * m))), some (.int (nI bb))] [] fi fr ai ar N (kQ (none) fi fr ai ar N (fun fi ai => K fi ai (gfW w m bb) lg E))
  refine e_aload_n dX5_goFurther_0 rfl rfl ?_
  refine e_getE dX5_goFurther_1 fl_X5_87 rfl (k_m2 hK (by first | omega | (simp (disch := omega) only [upN_n, upN_s]; omega))) ?_
  try simp (disch := omega) only [upN_n, upN_s]
  refine e_iconst (v := nI 3) dX5_goFurther_4 rfl ?_
  first | ((with_reducible refine mk_mo ?_); refine p_icmp_ne (tgt := 16) dX5_goFurther_5 (by decide) (fun h5 => ?_) (fun h5 => ?_)) | ((with_reducible refine mk_ms ?_); refine s_icmp_ne (tgt := 16) dX5_goFurther_5 (by decide) (by omega) (fun h5 => ?_) (fun h5 => ?_)) | ((with_reducible refine mk_mn ?_); refine q_icmp_ne (tgt := 16) dX5_goFurther_5 (by decide) (by omega) (fun h5 => ?_) (fun h5 => ?_)) | ((with_reducible refine mk_nn ?_); refine n_icmp_ne (tgt := 16) dX5_goFurther_5 (by decide) (by omega) (by omega) (fun h5 => ?_) (fun h5 => ?_)) | refine e_icmp_ne (tgt := 16) dX5_goFurther_5 (by decide) (fun h5 => ?_) (fun h5 => ?_)
  · try first | contradiction | omega
    all_goals
      refine e_aload_n dX5_goFurther_16 rfl rfl ?_
      refine e_getE dX5_goFurther_17 fl_X5_87 rfl (k_m2 hK (by first | omega | (simp (disch := omega) only [upN_n, upN_s]; omega))) ?_
      try simp (disch := omega) only [upN_n, upN_s]
      refine e_iconst (v := nI 2) dX5_goFurther_20 rfl ?_
      first | ((with_reducible refine mk_mo ?_); refine p_icmp_ne (tgt := 39) dX5_goFurther_21 (by decide) (fun h21 => ?_) (fun h21 => ?_)) | ((with_reducible refine mk_ms ?_); refine s_icmp_ne (tgt := 39) dX5_goFurther_21 (by decide) (by omega) (fun h21 => ?_) (fun h21 => ?_)) | ((with_reducible refine mk_mn ?_); refine q_icmp_ne (tgt := 39) dX5_goFurther_21 (by decide) (by omega) (fun h21 => ?_) (fun h21 => ?_)) | ((with_reducible refine mk_nn ?_); refine n_icmp_ne (tgt := 39) dX5_goFurther_21 (by decide) (by omega) (by omega) (fun h21 => ?_) (fun h21 => ?_)) | refine e_icmp_ne (tgt := 39) dX5_goFurther_21 (by decide) (fun h21 => ?_) (fun h21 => ?_)
      · try first | contradiction | omega
        all_goals
          refine e_iload_n dX5_goFurther_39 rfl rfl ?_
          first | ((with_reducible refine mk_b ?_); refine b_if_eq (tgt := 73) dX5_goFurther_40 (by decide) (fun h40 => ?_) (fun h40 => ?_)) | ((with_reducible refine mk_ll ?_); refine m_if_eq (tgt := 73) dX5_goFurther_40 (by decide) (by omega) (by omega) (fun h40 => ?_) (fun h40 => ?_)) | ((with_reducible refine mk_lc ?_); refine l_if_eq (tgt := 73) dX5_goFurther_40 (by decide) (fun h40 => ?_) (fun h40 => ?_)) | ((with_reducible refine mk_n ?_); refine n_if_eq (tgt := 73) dX5_goFurther_40 (by decide) (by omega) (fun h40 => ?_) (fun h40 => ?_)) | refine e_if_eq (tgt := 73) dX5_goFurther_40 (by decide) (fun h40 => ?_) (fun h40 => ?_)
          · try first | contradiction | omega | (simp only [decide_eq_true_eq, decide_eq_false_iff_not] at h40; omega)
            all_goals
              refine e_ret none rfl (r_void dX5_goFurther_73 rfl) ?_
              refine kq rfl hF (K_eq hK ?_)
              unfold gfW
              first | (rw [if_pos (by omega), if_pos (by omega)]; done) | (rw [if_pos (by omega), if_neg (by omega)]; done) | (rw [if_neg (by omega), if_pos (by omega)]; done) | (rw [if_neg (by omega), if_neg (by omega), if_pos (by omega)]; done) | (rw [if_neg (by omega), if_neg (by omega), if_neg (by omega)]; done)
          · try first | contradiction | omega | (simp only [decide_eq_true_eq, decide_eq_false_iff_not] at h40; omega)
            all_goals
              refine e_aload_n dX5_goFurther_43 rfl rfl ?_
              refine e_aload_n dX5_goFurther_44 rfl rfl ?_
              refine e_getE dX5_goFurther_45 fl_X5_124 rfl (k_m4 hK (by first | omega | (simp (disch := omega) only [upN_n, upN_s]; omega))) ?_
              try simp (disch := omega) only [upN_n, upN_s]
              refine e_pm (f := 7) (dd := 5) dX5_goFurther_48 fl_X5_127 (by decide) rfl rfl rfl rfl rfl bd hK (by first | omega | (simp (disch := omega) only [upN_n, upN_s]; omega)) hF (fun fi hF hK => ?_)
              have bd := Bd_K bd hK (by omega)
              refine e_aload_n dX5_goFurther_51 rfl rfl ?_
              refine e_getE dX5_goFurther_52 fl_X5_87 rfl (k_m2 hK (by first | omega | (simp (disch := omega) only [upN_n, upN_s]; omega))) ?_
              try simp (disch := omega) only [upN_n, upN_s]
              refine e_iconst (v := nI 1) dX5_goFurther_55 rfl ?_
              first | ((with_reducible refine mk_mo ?_); refine p_icmp_ne (tgt := 67) dX5_goFurther_56 (by decide) (fun h56 => ?_) (fun h56 => ?_)) | ((with_reducible refine mk_ms ?_); refine s_icmp_ne (tgt := 67) dX5_goFurther_56 (by decide) (by omega) (fun h56 => ?_) (fun h56 => ?_)) | ((with_reducible refine mk_mn ?_); refine q_icmp_ne (tgt := 67) dX5_goFurther_56 (by decide) (by omega) (fun h56 => ?_) (fun h56 => ?_)) | ((with_reducible refine mk_nn ?_); refine n_icmp_ne (tgt := 67) dX5_goFurther_56 (by decide) (by omega) (by omega) (fun h56 => ?_) (fun h56 => ?_)) | refine e_icmp_ne (tgt := 67) dX5_goFurther_56 (by decide) (fun h56 => ?_) (fun h56 => ?_)
              · try first | contradiction | omega
                all_goals
                  refine e_aload_n dX5_goFurther_67 rfl rfl ?_
                  refine e_aload_n dX5_goFurther_68 rfl rfl ?_
                  refine e_iconst (v := nI 5) dX5_goFurther_69 rfl ?_
                  refine ky_V2 (M' := mX5_endAs) dX5_goFurther_70 ml_X5_130 ok_X5_endAs (by decide) rfl im_X5_endAs se_X5_endAs (ct_X5_endAs cm bd hK (by simp (disch := omega) only [upN_n]; omega) (by omega)) (Nat.le_of_ble_eq_true rfl) (by decide) (Nat.le_of_ble_eq_true rfl) (fun fi ai hG hK => ?_)
                  have hF := FR1_tr hF hG
                  rw [if_pos rfl, upN_n (q := 8558 + 9) (by omega)] at hK
                  refine e_ret none rfl (r_void dX5_goFurther_73 rfl) ?_
                  refine kq rfl hF (K_eq hK ?_)
                  unfold gfW
                  first | (rw [if_pos (by omega), if_pos (by omega)]; done) | (rw [if_pos (by omega), if_neg (by omega)]; done) | (rw [if_neg (by omega), if_pos (by omega)]; done) | (rw [if_neg (by omega), if_neg (by omega), if_pos (by omega)]; done) | (rw [if_neg (by omega), if_neg (by omega), if_neg (by omega)]; done)
              · try first | contradiction | omega
                all_goals
                  refine e_aload_n dX5_goFurther_59 rfl rfl ?_
                  refine e_iconst (v := nI 2) dX5_goFurther_60 rfl ?_
                  refine e_pm (f := 2) (dd := 0) dX5_goFurther_61 fl_X5_87 (by decide) rfl rfl rfl rfl rfl bd hK (by first | omega | (simp (disch := omega) only [upN_n, upN_s]; omega)) hF (fun fi hF hK => ?_)
                  have bd := Bd_K bd hK (by omega)
                  refine e_goto (tgt := 73) dX5_goFurther_64 (by decide) ?_
                  refine e_ret none rfl (r_void dX5_goFurther_73 rfl) ?_
                  refine kq rfl hF (K_eq hK ?_)
                  unfold gfW
                  first | (rw [if_pos (by omega), if_pos (by omega)]; done) | (rw [if_pos (by omega), if_neg (by omega)]; done) | (rw [if_neg (by omega), if_pos (by omega)]; done) | (rw [if_neg (by omega), if_neg (by omega), if_pos (by omega)]; done) | (rw [if_neg (by omega), if_neg (by omega), if_neg (by omega)]; done)
      · try first | contradiction | omega
        all_goals
          refine e_aload_n dX5_goFurther_24 rfl rfl ?_
          refine e_getE dX5_goFurther_25 fl_X5_121 rfl (k_m1 hK (by first | omega | (simp (disch := omega) only [upN_n, upN_s]; omega))) ?_
          try simp (disch := omega) only [upN_n, upN_s]
          first | ((with_reducible refine mk_b ?_); refine b_if_ne (tgt := 73) dX5_goFurther_28 (by decide) (fun h28 => ?_) (fun h28 => ?_)) | ((with_reducible refine mk_ll ?_); refine m_if_ne (tgt := 73) dX5_goFurther_28 (by decide) (by omega) (by omega) (fun h28 => ?_) (fun h28 => ?_)) | ((with_reducible refine mk_lc ?_); refine l_if_ne (tgt := 73) dX5_goFurther_28 (by decide) (fun h28 => ?_) (fun h28 => ?_)) | ((with_reducible refine mk_n ?_); refine n_if_ne (tgt := 73) dX5_goFurther_28 (by decide) (by omega) (fun h28 => ?_) (fun h28 => ?_)) | refine e_if_ne (tgt := 73) dX5_goFurther_28 (by decide) (fun h28 => ?_) (fun h28 => ?_)
          · try first | contradiction | omega | (simp only [decide_eq_true_eq, decide_eq_false_iff_not] at h28; omega)
            all_goals
              refine e_ret none rfl (r_void dX5_goFurther_73 rfl) ?_
              refine kq rfl hF (K_eq hK ?_)
              unfold gfW
              first | (rw [if_pos (by omega), if_pos (by omega)]; done) | (rw [if_pos (by omega), if_neg (by omega)]; done) | (rw [if_neg (by omega), if_pos (by omega)]; done) | (rw [if_neg (by omega), if_neg (by omega), if_pos (by omega)]; done) | (rw [if_neg (by omega), if_neg (by omega), if_neg (by omega)]; done)
          · try first | contradiction | omega | (simp only [decide_eq_true_eq, decide_eq_false_iff_not] at h28; omega)
            all_goals
              refine e_aload_n dX5_goFurther_31 rfl rfl ?_
              refine e_iconst (v := nI 3) dX5_goFurther_32 rfl ?_
              refine e_pm (f := 2) (dd := 0) dX5_goFurther_33 fl_X5_87 (by decide) rfl rfl rfl rfl rfl bd hK (by first | omega | (simp (disch := omega) only [upN_n, upN_s]; omega)) hF (fun fi hF hK => ?_)
              have bd := Bd_K bd hK (by omega)
              refine e_goto (tgt := 73) dX5_goFurther_36 (by decide) ?_
              refine e_ret none rfl (r_void dX5_goFurther_73 rfl) ?_
              refine kq rfl hF (K_eq hK ?_)
              unfold gfW
              first | (rw [if_pos (by omega), if_pos (by omega)]; done) | (rw [if_pos (by omega), if_neg (by omega)]; done) | (rw [if_neg (by omega), if_pos (by omega)]; done) | (rw [if_neg (by omega), if_neg (by omega), if_pos (by omega)]; done) | (rw [if_neg (by omega), if_neg (by omega), if_neg (by omega)]; done)
  · try first | contradiction | omega
    all_goals
      omega
theorem ct_gf3 {fi : FI} {fr : FR} {ai : FI} {ar : FR} {N : Nat} {w lg : Nat → Nat} (cm : CM fr ar) (iv : Inv w) (i2 : Inv2 w) (hK : K fi ai w lg (w 0)) {m bb : Nat} (hm : m < w 3) (hbb : bb ≤ 1) (h33 : w (7694 + 72 * m + 0) = 3) (h01 : w 0 < 1999) : CP mX5_goFurther 2 0 0 [.ref (rf 5 73), .ref (rf 4 (34 + 2 * m)), .int (nI bb)] fi fr ai ar N (kQ (none) fi fr ai ar N (fun fi ai => K fi ai (swiW w m) (lgN lg (w 0 + 1) 3 (w (7694 + 72 * m + 1)) (w (7694 + 72 * m + 4))) (w 0 + 1))) := by
  have h1 := iv_n iv
  have h3 := iv_mm iv
  have bd := Bd_iv iv
  have hF : FR1 fi ai fi ai := FR1_rf
  have hg : goB w m = true := decide_eq_true (by omega)
  change EV mX5_goFurther 2 0 0 0 [some (.ref (rf 5 73)), some (.ref (rf 4 (34 + 2 * m))), some (.int (nI bb))] [] fi fr ai ar N (kQ (none) fi fr ai ar N (fun fi ai => K fi ai (swiW w m) (lgN lg (w 0 + 1) 3 (w (7694 + 72 * m + 1)) (w (7694 + 72 * m + 4))) (w 0 + 1)))
  refine e_aload_n dX5_goFurther_0 rfl rfl ?_
  refine e_getE dX5_goFurther_1 fl_X5_87 rfl (k_m2 hK (by first | omega | (simp (disch := omega) only [upN_n, upN_s]; omega))) ?_
  refine e_iconst (v := nI 3) dX5_goFurther_4 rfl ?_
  first | ((with_reducible refine mk_mo ?_); refine p_icmp_ne (tgt := 16) dX5_goFurther_5 (by decide) (fun h5 => ?_) (fun h5 => ?_)) | ((with_reducible refine mk_ms ?_); refine s_icmp_ne (tgt := 16) dX5_goFurther_5 (by decide) (by omega) (fun h5 => ?_) (fun h5 => ?_)) | ((with_reducible refine mk_mn ?_); refine q_icmp_ne (tgt := 16) dX5_goFurther_5 (by decide) (by omega) (fun h5 => ?_) (fun h5 => ?_)) | ((with_reducible refine mk_nn ?_); refine n_icmp_ne (tgt := 16) dX5_goFurther_5 (by decide) (by omega) (by omega) (fun h5 => ?_) (fun h5 => ?_)) | refine e_icmp_ne (tgt := 16) dX5_goFurther_5 (by decide) (fun h5 => ?_) (fun h5 => ?_)
  · try first | contradiction | omega
    all_goals
      omega
  · try first | contradiction | omega
    all_goals
      refine e_aload_n dX5_goFurther_8 rfl rfl ?_
      refine e_aload_n dX5_goFurther_9 rfl rfl ?_
      refine ky_V1 (M' := mX5_switchOwner) dX5_goFurther_10 ml_X5_118 ok_X5_switchOwner (by decide) rfl im_X5_switchOwner se_X5_switchOwner (ct_X5_switchOwner cm iv ‹_› hK (by omega) (by assumption) (by omega)) (Nat.le_of_ble_eq_true rfl) (by decide) (Nat.le_of_ble_eq_true rfl) (fun fi ai hG hK => ?_)
      have hF := FR1_tr hF hG
      refine e_goto (tgt := 73) dX5_goFurther_13 (by decide) ?_
      refine e_ret none rfl (r_void dX5_goFurther_73 rfl) ?_
      exact kq rfl hF hK
theorem go_up2 {w : Nat → Nat} (iv : Inv w) {m ch q v : Nat} {cl : Bool} (hm : m < w 3) (hq : 7106 ≤ q) (h3 : q ≠ 7694 + 72 * m + 3) (h4 : q ≠ 7694 + 72 * m + 4) (h5 : q ≠ 7694 + 72 * m + 5) : ∀ j, w (7694 + 72 * m + 5) + j ≤ 1000 → goS (upN w q v) m ch cl j = (upN (goS w m ch cl j).1 q v, (goS w m ch cl j).2)
  | 0, _ => rfl
  | j + 1, hj => by
    have ih := go_up2 iv (ch := ch) (cl := cl) (v := v) hm hq h3 h4 h5 j (by omega)
    have hb := iv_mv iv hm
    obtain ⟨g1, -⟩ := goS_in iv (ch := ch) (cl := cl) hm j (by omega)
    have a3 := g1 (7694 + 72 * m + 3) (by omega) (by omega)
    have a4 := g1 (7694 + 72 * m + 4) (by omega) (by omega)
    rw [goS_s, goS_s, ih, upN_n (Ne.symm h5)]
    show go1 (upN (goS w m ch cl j).1 q v) m ch cl _ (goS w m ch cl j).2 = _
    have r3 : upN (goS w m ch cl j).1 q v (7694 + 72 * m + 3) = (goS w m ch cl j).1 (7694 + 72 * m + 3) := upN_n (Ne.symm h3)
    have r4 : upN (goS w m ch cl j).1 q v (7694 + 72 * m + 4) = (goS w m ch cl j).1 (7694 + 72 * m + 4) := upN_n (Ne.symm h4)
    have rv : upN (goS w m ch cl j).1 q v (1106 + 1000 * (goS w m ch cl j).1 (7694 + 72 * m + 3) + (w (7694 + 72 * m + 5) + j)) = (goS w m ch cl j).1 (1106 + 1000 * (goS w m ch cl j).1 (7694 + 72 * m + 3) + (w (7694 + 72 * m + 5) + j)) := upN_n (by omega)
    by_cases hc : (goS w m ch cl j).2 < ch ∧ (goS w m ch cl j).1 (1106 + 1000 * (goS w m ch cl j).1 (7694 + 72 * m + 3) + (w (7694 + 72 * m + 5) + j)) ≠ 0
    · rw [go1_t hc, go1_t (by rw [r3, rv]; exact hc), r3, r4, rv]
      cases cl
      · show (upN (upN (upN _ q v) _ _) _ _, _) = (upN (upN (upN _ _ _) _ _) q v, _)
        rw [upN_cm (a := q) (b := 1106 + 1000 * (goS w m ch false j).1 (7694 + 72 * m + 4) + (w (7694 + 72 * m + 5) + j)) (by omega), upN_cm (a := q) (b := 7694 + 72 * m + 5) h5]
      · show (upN (upN (upN _ q v) _ _) _ _, _) = (upN (upN (upN _ _ _) _ _) q v, _)
        rw [upN_cm (a := q) (b := 1106 + 1000 * (goS w m ch true j).1 (7694 + 72 * m + 3) + (w (7694 + 72 * m + 5) + j)) (by omega), upN_cm (a := q) (b := 7694 + 72 * m + 5) h5]
    · rw [go1_f hc, go1_f (by rw [r3, rv]; exact hc)]
theorem gov_up {w : Nat → Nat} (iv : Inv w) {m ch q v : Nat} {cl : Bool} (hm : m < w 3) (hq : 7106 ≤ q) (h2 : q ≠ 7694 + 72 * m + 2) (h3 : q ≠ 7694 + 72 * m + 3) (h4 : q ≠ 7694 + 72 * m + 4) (h5 : q ≠ 7694 + 72 * m + 5) (h13 : q ≠ 8558 + 13 ∧ q ≠ 8558 + 14) : govW (upN w q v) m ch cl = upN (govW w m ch cl) q v ∧ govN (upN w q v) m ch cl = govN w m ch cl := by
  have hv := iv_mv iv hm
  have hmm := iv_mm iv
  have eL : govL (upN w q v) m = govL w m := by unfold govL; rw [upN_n (Ne.symm h2), upN_n (Ne.symm h5)]
  have hL : w (7694 + 72 * m + 5) + govL w m ≤ 1000 := by unfold govL; omega
  have e : goS (upN w q v) m ch cl (govL w m) = (upN (goS w m ch cl (govL w m)).1 q v, (goS w m ch cl (govL w m)).2) := by
    refine go_up2 iv hm hq h3 h4 h5 (govL w m) hL
  have e2 : govN (upN w q v) m ch cl = govN w m ch cl := by unfold govN; rw [eL, e]
  refine ⟨?_, e2⟩
  unfold govW
  rw [eL, e, e2]
  cases cl
  · show upN (upN _ q v) (8558 + 13) (upN w q v (8558 + 13) + _) = upN (upN _ (8558 + 13) (w (8558 + 13) + _)) q v
    rw [upN_n (Ne.symm h13.1), upN_cm h13.1]
  · show upN (upN _ q v) (8558 + 14) (upN w q v (8558 + 14) + _) = upN (upN _ (8558 + 14) (w (8558 + 14) + _)) q v
    rw [upN_n (Ne.symm h13.2), upN_cm h13.2]
theorem cu_up {w : Nat → Nat} (iv : Inv w) {m q v : Nat} (hm : m < w 3) (hq : 7106 ≤ q) (h3 : q ≠ 7694 + 72 * m + 3) (h4 : q ≠ 7694 + 72 * m + 4) (h12 : q < 7694 + 72 * m + 12 ∨ 7694 + 72 * m + 72 ≤ q) : ∀ j, j ≤ w (7694 + 72 * m + 6) → cuS (upN w q v) m j = upN (cuS w m j) q v
  | 0, _ => rfl
  | j + 1, hj => by
    have hv := iv_mv iv hm
    have ht := hv.2.2.2.2.2.2.2.2.2.2.2 j (by omega)
    rw [cuS_s, cuS_s, cu_up iv hm hq h3 h4 h12 j (by omega), upN_n (Ne.symm h3), upN_n (Ne.symm h4), upN_n (q := 7694 + 72 * m + 12 + j) (by omega), upN_n (q := 1106 + 1000 * w (7694 + 72 * m + 3) + w (7694 + 72 * m + 12 + j)) (by omega), upN_cm (a := q) (by omega)]
theorem cat_up {w : Nat → Nat} (iv : Inv w) {m ch q v : Nat} (hm : m < w 3) (hq : 7106 ≤ q) (h3 : q ≠ 7694 + 72 * m + 3) (h4 : q ≠ 7694 + 72 * m + 4) (h6 : q ≠ 7694 + 72 * m + 6) (h12 : q < 7694 + 72 * m + 12 ∨ 7694 + 72 * m + 72 ≤ q) (h13 : q ≠ 8558 + 13) : catW (upN w q v) m ch = upN (catW w m ch) q v := by
  have hv := iv_mv iv hm
  have hcn : cuN w m ch ≤ w (7694 + 72 * m + 6) := by unfold cuN; split <;> omega
  have ec : cuN (upN w q v) m ch = cuN w m ch := by unfold cuN; rw [upN_n (Ne.symm h6)]
  have et : ∀ (x : Nat → Nat) (n j : Nat), n + j ≤ 60 → tsF (upN x q v) m n j = upN (tsF x m n j) q v := fun x n j hn => by
    funext p
    unfold tsF
    show (if 7694 + 72 * m + 12 ≤ p ∧ p < 7694 + 72 * m + 12 + j then upN x q v (p + n) else upN x q v p) = (if p = q then v else if 7694 + 72 * m + 12 ≤ p ∧ p < 7694 + 72 * m + 12 + j then x (p + n) else x p)
    unfold upN
    repeat' split
    all_goals first | rfl | omega
  unfold catW
  rw [ec, upN_n (Ne.symm h6), upN_n (Ne.symm h13), cu_up iv hm hq h3 h4 h12 _ hcn, et _ _ _ (by omega), upN_cm (a := q) (b := 7694 + 72 * m + 6) h6, upN_cm (a := q) (b := 8558 + 13) h13]
