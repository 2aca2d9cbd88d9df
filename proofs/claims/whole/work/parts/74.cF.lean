theorem nm_some {w : Nat → Nat} (iv : Inv w) {x : Int32} {i : Nat} (h : nmO w x = some i) : i < w 1 ∧ x = nI (w (10 + i)) := by
  unfold nmO at h
  split at h
  · rename_i hx
    obtain ⟨k, hk, hk2, rfl⟩ := inR_ex hx
    rw [nI_clamp hk2] at h
    split at h
    · rename_i e
      obtain rfl := Option.some.inj h
      exact ⟨spW_lt iv k, by rw [e]⟩
    · cases h
  · cases h
def lgN (lg : Nat → Nat) (e a b c : Nat) : Nat → Nat := upN lg e ((b * 6 + c) * 4 + a)
def sptL (lg w : Nat → Nat) (q : Option Nat) (y : Int32) : Nat → Nat := match q with
  | none => lg
  | some i => if csB w i y then lgN lg (w 0 + 1) 1 (w (10 + i)) (w (42 + i)) else lg
theorem sptR_s (w : Nat → Nat) (i : Nat) (y t : Int32) : sptR w (some i) y t = if csB w i y then (if t = -1 then nI (w 0 + 1) else t) else -1 := rfl
theorem sptW_s (w : Nat → Nat) (i : Nat) (y : Int32) : sptW w (some i) y = if csB w i y then spcW w i y.toNatClampNeg else w := rfl
theorem sptL_s (lg w : Nat → Nat) (i : Nat) (y : Int32) : sptL lg w (some i) y = if csB w i y then lgN lg (w 0 + 1) 1 (w (10 + i)) (w (42 + i)) else lg := rfl
def jonL (lg w : Nat → Nat) (q : Option Nat) : Nat → Nat := if joiB w q then (match q with | none => lg | some i => lgN lg (w 0 + 1) 2 (w (10 + i)) (w (42 + i))) else lg
def mdlL (lg w : Nat → Nat) (x : Int32) : Nat → Nat := match mdlO w x with
  | none => lg
  | some (i, k) => sptL lg w (some i) (nI k)
theorem K_E {fi ai : FI} {w lg : Nat → Nat} {E E' : Nat} (h : K fi ai w lg E) (e : E = E') : K fi ai w lg E' := e ▸ h
theorem K_map {fi fi' ai ai' : FI} {w w' lg : Nat → Nat} {E : Nat} (bd : Bd w) (hK : K fi ai w lg E) (hw : ∀ q, q ≠ 0 → q ≠ 1 → (q < 10 ∨ 106 ≤ q) → w' q = w q) (fo : ∀ f r, r ≠ rf 8 4 → fi' f r = fi f r) (ao : ∀ A q, ¬ tb3 A → ai' A q = ai A q) (hT : TBR fi' ai' 4 (w' 1) (w' 0) (fun i => w' (10 + i)) (fun i => w' (42 + i)) (fun i => w' (74 + i))) : K fi' ai' w' lg E := by
  refine K_kw hK (KW_map bd.1 bd.2.1 bd.2.2.1 bd.2.2.2 (fun q a b c => hw q a b c) (fun f r hr => fo f r hr) (fun a x y z => funext fun q => ao a q (fun t => ?_)) hT hK.1) (fun a x y => funext fun q => ao a q (fun t => ?_)) (fun q hq => hw q (by omega) (by omega) (by omega))
  · rcases t with t | t | t
    · exact x t
    · exact y t
    · exact z t
  · have := tb3_r t; omega
theorem k_spl {fi fi' ai ai' : FI} {w lg : Nat → Nat} {E i key : Nat} (bd : Bd w) (hi : i < w 1) (hn : w 1 ≤ 31) (hK : K fi ai w lg E) (f3 : fi' (32 * 8 + 3) (rf 8 4) = nI (w 1 + 1)) (f4 : fi' (32 * 8 + 4) (rf 8 4) = nI (w 0 + 1)) (fo : ∀ f r, r ≠ rf 8 4 → fi' f r = fi f r)
    (ha : ∀ A, tb3 A → (∀ q, q < i → ai' A q = ai A q) ∧ ∀ q, i + 1 < q → q ≤ w 1 → ai' A q = ai A (q - 1)) (ao : ∀ A q, ¬ tb3 A → ai' A q = ai A q)
    (p0 : ai' (rf 16 5) i = nI (w (10 + i)) ∧ ai' (rf 16 6) i = nI (w (42 + i)) ∧ ai' (rf 16 7) i = nI (w 0 + 1)) (p1 : ai' (rf 16 5) (i + 1) = nI key ∧ ai' (rf 16 6) (i + 1) = nI (w (42 + i)) ∧ ai' (rf 16 7) (i + 1) = nI (w 0 + 1)) : K fi' ai' (splW w i key) lg E := by
  obtain ⟨v0, v1, vl, vo, ve, vf⟩ := spl_v (key := key) hi hn
  refine K_map bd hK (fun q a b c => vf q (by omega)) fo ao ⟨by rw [v1]; exact f3, by rw [v0]; exact f4, fun j hj => ?_⟩
  rw [v1] at hj
  show ai' (rf 16 5) j = nI (splW w i key (10 + j)) ∧ ai' (rf 16 6) j = nI (splW w i key (42 + j)) ∧ ai' (rf 16 7) j = nI (splW w i key (74 + j))
  have t5 : tb3 (rf 16 5) := Or.inl rfl
  have t6 : tb3 (rf 16 6) := Or.inr (Or.inl rfl)
  have t7 : tb3 (rf 16 7) := Or.inr (Or.inr rfl)
  rw [vl j (by omega), vo j (by omega), ve j (by omega)]
  rcases (show j < i ∨ j = i ∨ j = i + 1 ∨ i + 1 < j by omega) with e | e | e | e
  · rw [if_pos (by omega), if_pos (by omega), if_pos e, (ha _ t5).1 j e, (ha _ t6).1 j e, (ha _ t7).1 j e]
    exact ⟨k_lo hK (by omega), k_ow hK (by omega), k_ep hK (by omega)⟩
  · subst e; rw [if_pos (by omega), if_pos (by omega), if_neg (by omega), if_pos (by omega)]; exact p0
  · subst e; rw [if_neg (by omega), if_pos rfl, if_neg (by omega), if_pos rfl, if_neg (by omega), if_pos (by omega)]; exact p1
  · rw [if_neg (by omega), if_neg (by omega), if_neg (by omega), if_neg (by omega), if_neg (by omega), if_neg (by omega), (ha _ t5).2 j e (by omega), (ha _ t6).2 j e (by omega), (ha _ t7).2 j e (by omega)]
    exact ⟨k_lo hK (by omega), k_ow hK (by omega), k_ep hK (by omega)⟩
def jo3 (w : Nat → Nat) (i : Nat) : Nat → Nat := upN (jnF (jo2 w i) i (w 1 - (i + 1) - 1)) 1 (w 1 - 1)
theorem jo3_j (w : Nat → Nat) (i q : Nat) (h : q ≠ 8558 + 7) : jo3 w i q = joiW w i q := by unfold joiW; rw [upN_n h]; rfl
theorem k_joi {fi fi' ai ai' : FI} {w lg : Nat → Nat} {E i : Nat} (bd : Bd w) (hi : i + 1 < w 1) (hn : w 1 ≤ 32) (hK : K fi ai w lg E) (f3 : fi' (32 * 8 + 3) (rf 8 4) = nI (w 1 - 1)) (f4 : fi' (32 * 8 + 4) (rf 8 4) = nI (w 0 + 1)) (fo : ∀ f r, r ≠ rf 8 4 → fi' f r = fi f r)
    (ha : ∀ A, tb3 A → (∀ q, q < i → ai' A q = ai A q) ∧ ∀ q, i < q → q < w 1 - 1 → ai' A q = ai A (q + 1)) (ao : ∀ A q, ¬ tb3 A → ai' A q = ai A q)
    (p0 : ai' (rf 16 5) i = nI (w (10 + i)) ∧ ai' (rf 16 6) i = nI (w (42 + i)) ∧ ai' (rf 16 7) i = nI (w 0 + 1)) : K fi' ai' (jo3 w i) lg E := by
  obtain ⟨v0, v1, vl, vo, ve, vf⟩ := joi_v hi hn
  have e0 := jo3_j w i 0 (by omega)
  have e1 := jo3_j w i 1 (by omega)
  have c7 : jo3 w i (8558 + 7) = w (8558 + 7) := by unfold jo3; rw [upN_n (by omega), jnF_fr (by omega)]; unfold jo2; rw [upN_n (by omega), upN_n (by omega)]
  refine K_map bd hK (fun q a b c => ?_) fo ao ⟨by rw [e1, v1]; exact f3, by rw [e0, v0]; exact f4, fun j hj => ?_⟩
  · by_cases e : q = 8558 + 7
    · rw [e]; exact c7
    · rw [jo3_j w i q e]; exact vf q (by omega)
  rw [e1, v1] at hj
  show ai' (rf 16 5) j = nI (jo3 w i (10 + j)) ∧ ai' (rf 16 6) j = nI (jo3 w i (42 + j)) ∧ ai' (rf 16 7) j = nI (jo3 w i (74 + j))
  have t5 : tb3 (rf 16 5) := Or.inl rfl
  have t6 : tb3 (rf 16 6) := Or.inr (Or.inl rfl)
  have t7 : tb3 (rf 16 7) := Or.inr (Or.inr rfl)
  rw [jo3_j w i _ (by omega), jo3_j w i _ (by omega), jo3_j w i _ (by omega), vl j (by omega), vo j (by omega), ve j (by omega)]
  rcases (show j < i ∨ j = i ∨ i < j by omega) with e | e | e
  · rw [if_pos (by omega), if_pos (by omega), if_pos e, (ha _ t5).1 j e, (ha _ t6).1 j e, (ha _ t7).1 j e]
    exact ⟨k_lo hK (by omega), k_ow hK (by omega), k_ep hK (by omega)⟩
  · subst e; rw [if_pos (by omega), if_pos (by omega), if_neg (by omega), if_pos rfl]; exact p0
  · rw [if_neg (by omega), if_neg (by omega), if_neg (by omega), if_neg (by omega), (ha _ t5).2 j e (by omega), (ha _ t6).2 j e (by omega), (ha _ t7).2 j e (by omega)]
    exact ⟨k_lo hK (by omega), k_ow hK (by omega), k_ep hK (by omega)⟩
theorem Bd_mp {w w' : Nat → Nat} (h1 : w' 1 ≤ 32) (hw : ∀ q, q ≠ 0 → q ≠ 1 → (q < 10 ∨ 106 ≤ q) → w' q = w q) (bd : Bd w) : Bd w' := by
  obtain ⟨a, b, c, d⟩ := bd
  refine ⟨h1, by rw [hw _ (by omega) (by omega) (by omega)]; exact b, fun k hk => by rw [hw _ (by omega) (by omega) (by omega)]; exact c k hk, fun m hm => ?_⟩
  rw [hw 3 (by omega) (by omega) (by omega)] at hm
  rw [hw _ (by omega) (by omega) (by omega)]; exact d m hm
theorem ct_X2_cutAt {fi : FI} {fr : FR} {ai : FI} {ar : FR} {N : Nat} {w lg : Nat → Nat} (cm : CM fr ar) (iv : Inv w) (hK : K fi ai w lg (w 0)) (h01 : w 0 < 1999) (x y : Int32) : CP mX2_cutAt 2 0 0 [.ref (rf 2 72), .int x, .int y] fi fr ai ar N (kQ (some (.int (sptR w (nmO w x) y (-1)))) fi fr ai ar N (fun fi ai => K fi ai (sptW w (nmO w x) y) (sptL lg w (nmO w x) y) (sptW w (nmO w x) y 0))) := by
  have h1 := iv_n iv
  have h3 := iv_mm iv
  have bd := Bd_iv iv
  have hF : FR1 fi ai fi ai := FR1_rf
  change EV mX2_cutAt 2 0 0 0 [some (.ref (rf 2 72)), some (.int x), some (.int y), none, none, none] [] fi fr ai ar N (kQ (some (.int (sptR w (nmO w x) y (-1)))) fi fr ai ar N (fun fi ai => K fi ai (sptW w (nmO w x) y) (sptL lg w (nmO w x) y) (sptW w (nmO w x) y 0)))
  cases hq : nmO w x with
  | none =>
    have e1 : sptR w none y (-1) = -1 := rfl
    have e2 : sptW w none y = w := rfl
    have e3 : sptL lg w none y = lg := rfl
    rw [e1, e2, e3]
    refine e_aload_n dX2_cutAt_0 rfl rfl ?_
    refine e_getR dX2_cutAt_1 fl_X2_9 rfl (cc_w cm) ?_
    refine e_getR dX2_cutAt_4 fl_X2_23 rfl (cm_map cm) ?_
    refine e_astore_n dX2_cutAt_7 rfl (Nat.le_of_ble_eq_true rfl) rfl ?_
    refine e_aload_n dX2_cutAt_8 rfl rfl ?_
    refine e_iload_n dX2_cutAt_9 rfl rfl ?_
    refine x_V1 (M' := mX8_indexOfLow) dX2_cutAt_10 ml_X2_29 ok_X8_indexOfLow (by decide) rfl im_X8_indexOfLow se_X8_indexOfLow (ct_X8_indexOfLow cm iv hK _) (Nat.le_of_ble_eq_true rfl) (by decide) (Nat.le_of_ble_eq_true rfl) ?_
    rw [hq]
    refine e_istore dX2_cutAt_13 (Nat.le_of_ble_eq_true rfl) rfl ?_
    refine e_iload dX2_cutAt_15 rfl ?_
    refine e_iconst (v := -1) dX2_cutAt_17 rfl ?_
    first | ((with_reducible refine mk_mo ?_); refine p_icmp_eq (tgt := 36) dX2_cutAt_18 (by decide) (fun h18 => ?_) (fun h18 => ?_)) | ((with_reducible refine mk_ms ?_); refine s_icmp_eq (tgt := 36) dX2_cutAt_18 (by decide) (by omega) (fun h18 => ?_) (fun h18 => ?_)) | ((with_reducible refine mk_mn ?_); refine q_icmp_eq (tgt := 36) dX2_cutAt_18 (by decide) (by omega) (fun h18 => ?_) (fun h18 => ?_)) | ((with_reducible refine mk_nn ?_); refine n_icmp_eq (tgt := 36) dX2_cutAt_18 (by decide) (by omega) (by omega) (fun h18 => ?_) (fun h18 => ?_)) | refine e_icmp_eq (tgt := 36) dX2_cutAt_18 (by decide) (fun h18 => ?_) (fun h18 => ?_)
    · try first | contradiction | omega
      all_goals
        refine e_iconst (v := -1) dX2_cutAt_36 rfl ?_
        refine e_ret (some _) rfl (r_int dX2_cutAt_37 rfl) ?_
        exact kq rfl hF hK
    · try first | contradiction | omega
      all_goals
        contradiction
  | some i =>
    obtain ⟨hi, hx⟩ := nm_some iv hq
    have he := enF_le iv hi
    have hl := iv_low iv hi
    have ho := iv_own iv hi
    have ti1 : (nI (w (10 + i))).toInt = w (10 + i) := nI_toInt (b31 (by omega))
    have ti2 : (nI (enF w i)).toInt = enF w i := nI_toInt (b31 (by omega))
    subst hx
    cases hcs : csB w i y with
    | false =>
      have e1 : sptR w (some i) y (-1) = -1 := by rw [sptR_s, hcs]; rfl
      have e2 : sptW w (some i) y = w := by rw [sptW_s, hcs]; rfl
      have e3 : sptL lg w (some i) y = lg := by rw [sptL_s, hcs]; rfl
      rw [e1, e2, e3]
      cases hmv : mvL w (w (10 + i)) with
      | none =>
        refine e_aload_n dX2_cutAt_0 rfl rfl ?_
        refine e_getR dX2_cutAt_1 fl_X2_9 rfl (cc_w cm) ?_
        refine e_getR dX2_cutAt_4 fl_X2_23 rfl (cm_map cm) ?_
        refine e_astore_n dX2_cutAt_7 rfl (Nat.le_of_ble_eq_true rfl) rfl ?_
        refine e_aload_n dX2_cutAt_8 rfl rfl ?_
        refine e_iload_n dX2_cutAt_9 rfl rfl ?_
        refine x_V1 (M' := mX8_indexOfLow) dX2_cutAt_10 ml_X2_29 ok_X8_indexOfLow (by decide) rfl im_X8_indexOfLow se_X8_indexOfLow (ct_X8_indexOfLow cm iv hK _) (Nat.le_of_ble_eq_true rfl) (by decide) (Nat.le_of_ble_eq_true rfl) ?_
        rw [hq, oI_s]
        refine e_istore dX2_cutAt_13 (Nat.le_of_ble_eq_true rfl) rfl ?_
        refine e_iload dX2_cutAt_15 rfl ?_
        refine e_iconst (v := -1) dX2_cutAt_17 rfl ?_
        first | ((with_reducible refine mk_mo ?_); refine p_icmp_eq (tgt := 36) dX2_cutAt_18 (by decide) (fun h18 => ?_) (fun h18 => ?_)) | ((with_reducible refine mk_ms ?_); refine s_icmp_eq (tgt := 36) dX2_cutAt_18 (by decide) (by omega) (fun h18 => ?_) (fun h18 => ?_)) | ((with_reducible refine mk_mn ?_); refine q_icmp_eq (tgt := 36) dX2_cutAt_18 (by decide) (by omega) (fun h18 => ?_) (fun h18 => ?_)) | ((with_reducible refine mk_nn ?_); refine n_icmp_eq (tgt := 36) dX2_cutAt_18 (by decide) (by omega) (by omega) (fun h18 => ?_) (fun h18 => ?_)) | refine e_icmp_eq (tgt := 36) dX2_cutAt_18 (by decide) (fun h18 => ?_) (fun h18 => ?_)
        · try first | contradiction | omega
          all_goals
            refine e_iconst (v := -1) dX2_cutAt_36 rfl ?_
            refine e_ret (some _) rfl (r_int dX2_cutAt_37 rfl) ?_
            exact kq rfl hF hK
        · try first | contradiction | omega
          all_goals
            refine e_iload_n dX2_cutAt_21 rfl rfl ?_
            refine e_iload_n dX2_cutAt_22 rfl rfl ?_
            first | ((with_reducible refine mk_nn ?_); refine n_icmp_le (tgt := 36) dX2_cutAt_23 (by decide) (by omega) (by omega) (fun h23 => ?_) (fun h23 => ?_)) | refine e_icmp_le (tgt := 36) dX2_cutAt_23 (by decide) (fun h23 => ?_) (fun h23 => ?_)
            · try first | contradiction | omega
              all_goals
                refine e_iconst (v := -1) dX2_cutAt_36 rfl ?_
                refine e_ret (some _) rfl (r_int dX2_cutAt_37 rfl) ?_
                exact kq rfl hF hK
            · try first | contradiction | omega
              all_goals
                refine e_iload_n dX2_cutAt_26 rfl rfl ?_
                refine e_aload_n dX2_cutAt_27 rfl rfl ?_
                refine e_iload dX2_cutAt_28 rfl ?_
                refine x_V1 (M' := mX8_endOf) dX2_cutAt_30 ml_X2_35 ok_X8_endOf (by decide) rfl im_X8_endOf se_X8_endOf (ct_X8_endOf cm iv hK (by omega)) (Nat.le_of_ble_eq_true rfl) (by decide) (Nat.le_of_ble_eq_true rfl) ?_
                first | ((with_reducible refine mk_nn ?_); refine n_icmp_lt (tgt := 38) dX2_cutAt_33 (by decide) (by omega) (by omega) (fun h33 => ?_) (fun h33 => ?_)) | refine e_icmp_lt (tgt := 38) dX2_cutAt_33 (by decide) (fun h33 => ?_) (fun h33 => ?_)
                · try first | contradiction | omega
                  all_goals
                    refine e_aload_n dX2_cutAt_38 rfl rfl ?_
                    refine e_getE dX2_cutAt_39 fl_X2_38 rfl (by first | exact k_n hK | exact k_cn hK (by first | omega | (simp (disch := omega) only [upN_n, upN_s]; omega)) | assumption) ?_
                    refine e_bipush (v := nI 32) dX2_cutAt_42 rfl ?_
                    first | ((with_reducible refine mk_nn ?_); refine n_icmp_ge (tgt := 59) dX2_cutAt_44 (by decide) (by omega) (by omega) (fun h44 => ?_) (fun h44 => ?_)) | refine e_icmp_ge (tgt := 59) dX2_cutAt_44 (by decide) (fun h44 => ?_) (fun h44 => ?_)
                    · try first | contradiction | omega
                      all_goals
                        refine e_iconst (v := -1) dX2_cutAt_59 rfl ?_
                        refine e_ret (some _) rfl (r_int dX2_cutAt_60 rfl) ?_
                        exact kq rfl hF hK
                    · try first | contradiction | omega
                      all_goals
                        refine e_aload_n dX2_cutAt_47 rfl rfl ?_
                        refine e_getR dX2_cutAt_48 fl_X2_9 rfl (cc_w cm) ?_
                        refine e_iload_n dX2_cutAt_51 rfl rfl ?_
                        refine x_V1 (M' := mX9_moveAt) dX2_cutAt_52 ml_X2_42 ok_X9_moveAt (by decide) rfl im_X9_moveAt se_X9_moveAt (ct_X9_moveAt cm iv hK (by omega)) (Nat.le_of_ble_eq_true rfl) (by decide) (Nat.le_of_ble_eq_true rfl) ?_
                        rw [hmv]
                        refine e_iconst (v := -1) dX2_cutAt_55 rfl ?_
                        first | ((with_reducible refine mk_mo ?_); refine p_icmp_eq (tgt := 61) dX2_cutAt_56 (by decide) (fun h56 => ?_) (fun h56 => ?_)) | ((with_reducible refine mk_ms ?_); refine s_icmp_eq (tgt := 61) dX2_cutAt_56 (by decide) (by omega) (fun h56 => ?_) (fun h56 => ?_)) | ((with_reducible refine mk_mn ?_); refine q_icmp_eq (tgt := 61) dX2_cutAt_56 (by decide) (by omega) (fun h56 => ?_) (fun h56 => ?_)) | ((with_reducible refine mk_nn ?_); refine n_icmp_eq (tgt := 61) dX2_cutAt_56 (by decide) (by omega) (by omega) (fun h56 => ?_) (fun h56 => ?_)) | refine e_icmp_eq (tgt := 61) dX2_cutAt_56 (by decide) (fun h56 => ?_) (fun h56 => ?_)
                        · try first | contradiction | omega
                          all_goals
                            exfalso; simp only [Int32.lt_iff_toInt_lt, Int32.le_iff_toInt_le, ti1, ti2] at h23 h33; have : csB w i y = true := (by unfold csB; rw [hmv, decide_eq_true (show w 1 < 32 by omega), decide_eq_true (by omega)]; rfl); rw [this] at hcs; exact absurd hcs (by decide)
                        · try first | contradiction | omega
                          all_goals
                            refine e_iconst (v := -1) dX2_cutAt_59 rfl ?_
                            refine e_ret (some _) rfl (r_int dX2_cutAt_60 rfl) ?_
                            exact kq rfl hF hK
                · try first | contradiction | omega
                  all_goals
                    refine e_iconst (v := -1) dX2_cutAt_36 rfl ?_
                    refine e_ret (some _) rfl (r_int dX2_cutAt_37 rfl) ?_
                    exact kq rfl hF hK
      | some m =>
        have hm := mvL_lt hmv
        refine e_aload_n dX2_cutAt_0 rfl rfl ?_
        refine e_getR dX2_cutAt_1 fl_X2_9 rfl (cc_w cm) ?_
        refine e_getR dX2_cutAt_4 fl_X2_23 rfl (cm_map cm) ?_
        refine e_astore_n dX2_cutAt_7 rfl (Nat.le_of_ble_eq_true rfl) rfl ?_
        refine e_aload_n dX2_cutAt_8 rfl rfl ?_
        refine e_iload_n dX2_cutAt_9 rfl rfl ?_
        refine x_V1 (M' := mX8_indexOfLow) dX2_cutAt_10 ml_X2_29 ok_X8_indexOfLow (by decide) rfl im_X8_indexOfLow se_X8_indexOfLow (ct_X8_indexOfLow cm iv hK _) (Nat.le_of_ble_eq_true rfl) (by decide) (Nat.le_of_ble_eq_true rfl) ?_
        rw [hq, oI_s]
        refine e_istore dX2_cutAt_13 (Nat.le_of_ble_eq_true rfl) rfl ?_
        refine e_iload dX2_cutAt_15 rfl ?_
        refine e_iconst (v := -1) dX2_cutAt_17 rfl ?_
        first | ((with_reducible refine mk_mo ?_); refine p_icmp_eq (tgt := 36) dX2_cutAt_18 (by decide) (fun h18 => ?_) (fun h18 => ?_)) | ((with_reducible refine mk_ms ?_); refine s_icmp_eq (tgt := 36) dX2_cutAt_18 (by decide) (by omega) (fun h18 => ?_) (fun h18 => ?_)) | ((with_reducible refine mk_mn ?_); refine q_icmp_eq (tgt := 36) dX2_cutAt_18 (by decide) (by omega) (fun h18 => ?_) (fun h18 => ?_)) | ((with_reducible refine mk_nn ?_); refine n_icmp_eq (tgt := 36) dX2_cutAt_18 (by decide) (by omega) (by omega) (fun h18 => ?_) (fun h18 => ?_)) | refine e_icmp_eq (tgt := 36) dX2_cutAt_18 (by decide) (fun h18 => ?_) (fun h18 => ?_)
        · try first | contradiction | omega
          all_goals
            refine e_iconst (v := -1) dX2_cutAt_36 rfl ?_
            refine e_ret (some _) rfl (r_int dX2_cutAt_37 rfl) ?_
            exact kq rfl hF hK
        · try first | contradiction | omega
          all_goals
            refine e_iload_n dX2_cutAt_21 rfl rfl ?_
            refine e_iload_n dX2_cutAt_22 rfl rfl ?_
            first | ((with_reducible refine mk_nn ?_); refine n_icmp_le (tgt := 36) dX2_cutAt_23 (by decide) (by omega) (by omega) (fun h23 => ?_) (fun h23 => ?_)) | refine e_icmp_le (tgt := 36) dX2_cutAt_23 (by decide) (fun h23 => ?_) (fun h23 => ?_)
            · try first | contradiction | omega
              all_goals
                refine e_iconst (v := -1) dX2_cutAt_36 rfl ?_
                refine e_ret (some _) rfl (r_int dX2_cutAt_37 rfl) ?_
                exact kq rfl hF hK
            · try first | contradiction | omega
              all_goals
                refine e_iload_n dX2_cutAt_26 rfl rfl ?_
                refine e_aload_n dX2_cutAt_27 rfl rfl ?_
                refine e_iload dX2_cutAt_28 rfl ?_
                refine x_V1 (M' := mX8_endOf) dX2_cutAt_30 ml_X2_35 ok_X8_endOf (by decide) rfl im_X8_endOf se_X8_endOf (ct_X8_endOf cm iv hK (by omega)) (Nat.le_of_ble_eq_true rfl) (by decide) (Nat.le_of_ble_eq_true rfl) ?_
                first | ((with_reducible refine mk_nn ?_); refine n_icmp_lt (tgt := 38) dX2_cutAt_33 (by decide) (by omega) (by omega) (fun h33 => ?_) (fun h33 => ?_)) | refine e_icmp_lt (tgt := 38) dX2_cutAt_33 (by decide) (fun h33 => ?_) (fun h33 => ?_)
                · try first | contradiction | omega
                  all_goals
                    refine e_aload_n dX2_cutAt_38 rfl rfl ?_
                    refine e_getE dX2_cutAt_39 fl_X2_38 rfl (by first | exact k_n hK | exact k_cn hK (by first | omega | (simp (disch := omega) only [upN_n, upN_s]; omega)) | assumption) ?_
                    refine e_bipush (v := nI 32) dX2_cutAt_42 rfl ?_
                    first | ((with_reducible refine mk_nn ?_); refine n_icmp_ge (tgt := 59) dX2_cutAt_44 (by decide) (by omega) (by omega) (fun h44 => ?_) (fun h44 => ?_)) | refine e_icmp_ge (tgt := 59) dX2_cutAt_44 (by decide) (fun h44 => ?_) (fun h44 => ?_)
                    · try first | contradiction | omega
                      all_goals
                        refine e_iconst (v := -1) dX2_cutAt_59 rfl ?_
                        refine e_ret (some _) rfl (r_int dX2_cutAt_60 rfl) ?_
                        exact kq rfl hF hK
                    · try first | contradiction | omega
                      all_goals
                        refine e_aload_n dX2_cutAt_47 rfl rfl ?_
                        refine e_getR dX2_cutAt_48 fl_X2_9 rfl (cc_w cm) ?_
                        refine e_iload_n dX2_cutAt_51 rfl rfl ?_
                        refine x_V1 (M' := mX9_moveAt) dX2_cutAt_52 ml_X2_42 ok_X9_moveAt (by decide) rfl im_X9_moveAt se_X9_moveAt (ct_X9_moveAt cm iv hK (by omega)) (Nat.le_of_ble_eq_true rfl) (by decide) (Nat.le_of_ble_eq_true rfl) ?_
                        rw [hmv, oI_s]
                        refine e_iconst (v := -1) dX2_cutAt_55 rfl ?_
                        first | ((with_reducible refine mk_mo ?_); refine p_icmp_eq (tgt := 61) dX2_cutAt_56 (by decide) (fun h56 => ?_) (fun h56 => ?_)) | ((with_reducible refine mk_ms ?_); refine s_icmp_eq (tgt := 61) dX2_cutAt_56 (by decide) (by omega) (fun h56 => ?_) (fun h56 => ?_)) | ((with_reducible refine mk_mn ?_); refine q_icmp_eq (tgt := 61) dX2_cutAt_56 (by decide) (by omega) (fun h56 => ?_) (fun h56 => ?_)) | ((with_reducible refine mk_nn ?_); refine n_icmp_eq (tgt := 61) dX2_cutAt_56 (by decide) (by omega) (by omega) (fun h56 => ?_) (fun h56 => ?_)) | refine e_icmp_eq (tgt := 61) dX2_cutAt_56 (by decide) (fun h56 => ?_) (fun h56 => ?_)
                        · try first | contradiction | omega
                          all_goals
                            contradiction
                        · try first | contradiction | omega
                          all_goals
                            refine e_iconst (v := -1) dX2_cutAt_59 rfl ?_
                            refine e_ret (some _) rfl (r_int dX2_cutAt_60 rfl) ?_
                            exact kq rfl hF hK
                · try first | contradiction | omega
                  all_goals
                    refine e_iconst (v := -1) dX2_cutAt_36 rfl ?_
                    refine e_ret (some _) rfl (r_int dX2_cutAt_37 rfl) ?_
                    exact kq rfl hF hK
    | true =>
      have hcs2 := hcs
      unfold csB at hcs2
      simp only [Bool.and_eq_true, decide_eq_true_eq] at hcs2
      obtain ⟨⟨hn, hnone⟩, hy⟩ := hcs2
      have hmv : mvL w (w (10 + i)) = none := by cases q : mvL w (w (10 + i)) <;> simp_all
      obtain ⟨key, hk1, hk2, rfl⟩ := inR_ex (x := y) (n := 1000) (by unfold inR; exact decide_eq_true (by omega))
      rw [nI_toInt (b31 hk2)] at hy
      have e1 : sptR w (some i) (nI key) (-1) = nI (w 0 + 1) := by rw [sptR_s, hcs]; rfl
      have e2 : sptW w (some i) (nI key) = spcW w i key := by rw [sptW_s, hcs, if_pos rfl, nI_clamp hk2]
      have e3 : sptL lg w (some i) (nI key) = lgN lg (w 0 + 1) 1 (w (10 + i)) (w (42 + i)) := by rw [sptL_s, hcs, if_pos rfl]
      have e4 : spcW w i key 0 = w 0 + 1 := by unfold spcW; rw [upN_n (by omega)]; exact splW_0 hi (by omega)
      rw [e1, e2, e3, e4]
      obtain ⟨v0, v1, vl, vo, ve, vf⟩ := spl_v (key := key) hi (show w 1 ≤ 31 by omega)
      refine e_aload_n dX2_cutAt_0 rfl rfl ?_
      refine e_getR dX2_cutAt_1 fl_X2_9 rfl (cc_w cm) ?_
      refine e_getR dX2_cutAt_4 fl_X2_23 rfl (cm_map cm) ?_
      refine e_astore_n dX2_cutAt_7 rfl (Nat.le_of_ble_eq_true rfl) rfl ?_
      refine e_aload_n dX2_cutAt_8 rfl rfl ?_
      refine e_iload_n dX2_cutAt_9 rfl rfl ?_
      refine x_V1 (M' := mX8_indexOfLow) dX2_cutAt_10 ml_X2_29 ok_X8_indexOfLow (by decide) rfl im_X8_indexOfLow se_X8_indexOfLow (ct_X8_indexOfLow cm iv hK _) (Nat.le_of_ble_eq_true rfl) (by decide) (Nat.le_of_ble_eq_true rfl) ?_
      rw [hq, oI_s]
      refine e_istore dX2_cutAt_13 (Nat.le_of_ble_eq_true rfl) rfl ?_
      refine e_iload dX2_cutAt_15 rfl ?_
      refine e_iconst (v := -1) dX2_cutAt_17 rfl ?_
      first | ((with_reducible refine mk_mo ?_); refine p_icmp_eq (tgt := 36) dX2_cutAt_18 (by decide) (fun h18 => ?_) (fun h18 => ?_)) | ((with_reducible refine mk_ms ?_); refine s_icmp_eq (tgt := 36) dX2_cutAt_18 (by decide) (by omega) (fun h18 => ?_) (fun h18 => ?_)) | ((with_reducible refine mk_mn ?_); refine q_icmp_eq (tgt := 36) dX2_cutAt_18 (by decide) (by omega) (fun h18 => ?_) (fun h18 => ?_)) | ((with_reducible refine mk_nn ?_); refine n_icmp_eq (tgt := 36) dX2_cutAt_18 (by decide) (by omega) (by omega) (fun h18 => ?_) (fun h18 => ?_)) | refine e_icmp_eq (tgt := 36) dX2_cutAt_18 (by decide) (fun h18 => ?_) (fun h18 => ?_)
      · try first | contradiction | omega
        all_goals
          omega
      · try first | contradiction | omega
        all_goals
          refine e_iload_n dX2_cutAt_21 rfl rfl ?_
          refine e_iload_n dX2_cutAt_22 rfl rfl ?_
          first | ((with_reducible refine mk_nn ?_); refine n_icmp_le (tgt := 36) dX2_cutAt_23 (by decide) (by omega) (by omega) (fun h23 => ?_) (fun h23 => ?_)) | refine e_icmp_le (tgt := 36) dX2_cutAt_23 (by decide) (fun h23 => ?_) (fun h23 => ?_)
          · try first | contradiction | omega
            all_goals
              omega
          · try first | contradiction | omega
            all_goals
              refine e_iload_n dX2_cutAt_26 rfl rfl ?_
              refine e_aload_n dX2_cutAt_27 rfl rfl ?_
              refine e_iload dX2_cutAt_28 rfl ?_
              refine x_V1 (M' := mX8_endOf) dX2_cutAt_30 ml_X2_35 ok_X8_endOf (by decide) rfl im_X8_endOf se_X8_endOf (ct_X8_endOf cm iv hK (by omega)) (Nat.le_of_ble_eq_true rfl) (by decide) (Nat.le_of_ble_eq_true rfl) ?_
              first | ((with_reducible refine mk_nn ?_); refine n_icmp_lt (tgt := 38) dX2_cutAt_33 (by decide) (by omega) (by omega) (fun h33 => ?_) (fun h33 => ?_)) | refine e_icmp_lt (tgt := 38) dX2_cutAt_33 (by decide) (fun h33 => ?_) (fun h33 => ?_)
              · try first | contradiction | omega
                all_goals
                  refine e_aload_n dX2_cutAt_38 rfl rfl ?_
                  refine e_getE dX2_cutAt_39 fl_X2_38 rfl (by first | exact k_n hK | exact k_cn hK (by first | omega | (simp (disch := omega) only [upN_n, upN_s]; omega)) | assumption) ?_
                  refine e_bipush (v := nI 32) dX2_cutAt_42 rfl ?_
                  first | ((with_reducible refine mk_nn ?_); refine n_icmp_ge (tgt := 59) dX2_cutAt_44 (by decide) (by omega) (by omega) (fun h44 => ?_) (fun h44 => ?_)) | refine e_icmp_ge (tgt := 59) dX2_cutAt_44 (by decide) (fun h44 => ?_) (fun h44 => ?_)
                  · try first | contradiction | omega
                    all_goals
                      first | omega | contradiction
                  · try first | contradiction | omega
                    all_goals
                      refine e_aload_n dX2_cutAt_47 rfl rfl ?_
                      refine e_getR dX2_cutAt_48 fl_X2_9 rfl (cc_w cm) ?_
                      refine e_iload_n dX2_cutAt_51 rfl rfl ?_
                      refine x_V1 (M' := mX9_moveAt) dX2_cutAt_52 ml_X2_42 ok_X9_moveAt (by decide) rfl im_X9_moveAt se_X9_moveAt (ct_X9_moveAt cm iv hK (by omega)) (Nat.le_of_ble_eq_true rfl) (by decide) (Nat.le_of_ble_eq_true rfl) ?_
                      rw [hmv]
                      refine e_iconst (v := -1) dX2_cutAt_55 rfl ?_
                      first | ((with_reducible refine mk_mo ?_); refine p_icmp_eq (tgt := 61) dX2_cutAt_56 (by decide) (fun h56 => ?_) (fun h56 => ?_)) | ((with_reducible refine mk_ms ?_); refine s_icmp_eq (tgt := 61) dX2_cutAt_56 (by decide) (by omega) (fun h56 => ?_) (fun h56 => ?_)) | ((with_reducible refine mk_mn ?_); refine q_icmp_eq (tgt := 61) dX2_cutAt_56 (by decide) (by omega) (fun h56 => ?_) (fun h56 => ?_)) | ((with_reducible refine mk_nn ?_); refine n_icmp_eq (tgt := 61) dX2_cutAt_56 (by decide) (by omega) (by omega) (fun h56 => ?_) (fun h56 => ?_)) | refine e_icmp_eq (tgt := 61) dX2_cutAt_56 (by decide) (fun h56 => ?_) (fun h56 => ?_)
                      · try first | contradiction | omega
                        all_goals
                          refine e_aload_n dX2_cutAt_61 rfl rfl ?_
                          refine e_getR dX2_cutAt_62 fl_X2_45 rfl (by first | exact cm_tow cm | exact cm_ctow cm (by omega) | assumption) ?_
                          refine e_iload dX2_cutAt_65 rfl ?_
                          refine e_iadE _ dX2_cutAt_67 ⟨by decide, by decide⟩ rfl rfl (by simp only [lenK]; omega) (by first | exact k_ow hK (by first | omega | (simp (disch := omega) only [upN_n, upN_s]; omega)) | exact k_cow hK (by omega) (by first | omega | (simp (disch := omega) only [upN_n, upN_s]; omega)) | assumption) ?_
                          refine e_istore dX2_cutAt_68 (Nat.le_of_ble_eq_true rfl) rfl ?_
                          refine e_aload_n dX2_cutAt_70 rfl rfl ?_
                          refine e_dup dX2_cutAt_71 rfl ?_
                          refine e_getE dX2_cutAt_72 fl_X2_49 rfl (by first | exact k_e hK | exact k_ce hK (by first | omega | (simp (disch := omega) only [upN_n, upN_s]; omega)) | assumption) ?_
                          refine e_iconst (v := nI 1) dX2_cutAt_75 rfl ?_
                          first | ((with_reducible refine mk_nn ?_); refine n_iadd dX2_cutAt_76 ?_) | refine e_iadd dX2_cutAt_76 ?_
                          refine e_pg dX2_cutAt_77 fl_X2_49 rfl rfl rfl rfl (fun fi77 g77 o77 => ?_)
                          refine e_aload_n dX2_cutAt_80 rfl rfl ?_
                          refine e_iload dX2_cutAt_81 rfl ?_
                          refine ky_V1 (M' := mX8_insertBehind) dX2_cutAt_83 ml_X2_52 ok_X8_insertBehind (by decide) rfl im_X8_insertBehind se_X8_insertBehind (ct_X8_insertBehind cm ((o77 _ _ (by omega)).trans (k_n hK)) hi (by omega)) (Nat.le_of_ble_eq_true rfl) (by decide) (Nat.le_of_ble_eq_true rfl) (fun fi3 ai83 hG hR => ?_)
                          obtain ⟨rfl, a1, a2⟩ := hR
                          refine e_aload_n dX2_cutAt_86 rfl rfl ?_
                          refine e_iload dX2_cutAt_87 rfl ?_
                          refine e_iload_n dX2_cutAt_89 rfl rfl ?_
                          refine e_iload dX2_cutAt_90 rfl ?_
                          refine ky_V3 (M' := mX8_put) dX2_cutAt_92 ml_X2_56 ok_X8_put (by decide) rfl im_X8_put se_X8_put (ct_X8_put (e := w 0 + 1) cm (by omega) ((up2_n _ _ (by omega)).trans g77)) (Nat.le_of_ble_eq_true rfl) (by decide) (Nat.le_of_ble_eq_true rfl) (fun fi3 ai92 hG hR => ?_)
                          obtain ⟨rfl, p1, p2, p3, p4⟩ := hR
                          refine e_aload_n dX2_cutAt_95 rfl rfl ?_
                          refine e_iload dX2_cutAt_96 rfl ?_
                          refine e_iconst (v := nI 1) dX2_cutAt_98 rfl ?_
                          first | ((with_reducible refine mk_nn ?_); refine n_iadd dX2_cutAt_99 ?_) | refine e_iadd dX2_cutAt_99 ?_
                          refine e_iload_n dX2_cutAt_100 rfl rfl ?_
                          refine e_iload dX2_cutAt_101 rfl ?_
                          refine ky_V3 (M' := mX8_put) dX2_cutAt_103 ml_X2_56 ok_X8_put (by decide) rfl im_X8_put se_X8_put (ct_X8_put (e := w 0 + 1) cm (by omega) ((up2_n _ _ (by omega)).trans g77)) (Nat.le_of_ble_eq_true rfl) (by decide) (Nat.le_of_ble_eq_true rfl) (fun fi3 ai103 hG hR => ?_)
                          obtain ⟨rfl, q1, q2, q3, q4⟩ := hR
                          have hF : FR1 fi ai (up2 fi77 (32 * 8 + 3) (rf 8 4) (nI (w 1 + 1))) ai103 := ⟨fun f r hr => (up2_n _ _ (fun e => by rw [e.2, rf_div (by decide)] at hr; omega)).trans (o77 f r (fun e => by rw [e.2, rf_div (by decide)] at hr; omega)), fun a ha => funext fun q => by
                            have nt : ¬ tb3 a := fun t => by have := tb3_r t; omega
                            rw [q4 a q (fun e => nt e.1), p4 a q (fun e => nt e.1)]; exact a2 a q nt⟩
                          have hK := k_spl (key := key) bd hi (by omega) hK (up2_s _ _ _ _) ((up2_n _ _ (by omega)).trans g77) (fun f r hr => (up2_n _ _ (fun e => hr e.2)).trans (o77 f r (fun e => hr e.2))) (fun A hA => ⟨fun q hq => by rw [q4 A q (fun e => by have := e.2; omega), p4 A q (fun e => by have := e.2; omega)]; exact (a1 A hA).1 q (by omega), fun q x1 x2 => by rw [q4 A q (fun e => by have := e.2; omega), p4 A q (fun e => by have := e.2; omega)]; exact (a1 A hA).2 q x1 x2⟩) (fun A q hA => by rw [q4 A q (fun e => hA e.1), p4 A q (fun e => hA e.1)]; exact a2 A q hA) ⟨(q4 _ _ (fun e => by have := e.2; omega)).trans p1, (q4 _ _ (fun e => by have := e.2; omega)).trans p2, (q4 _ _ (fun e => by have := e.2; omega)).trans p3⟩ ⟨q1, q2, q3⟩
                          have bd := Bd_mp (w' := splW w i key) (by omega) (fun q a b c => vf q (by omega)) bd
                          generalize up2 fi77 (32 * 8 + 3) (rf 8 4) (nI (w 1 + 1)) = fi103 at *
                          refine e_aload_n dX2_cutAt_106 rfl rfl ?_
                          refine e_getR dX2_cutAt_107 fl_X2_15 rfl (cc_l cm) ?_
                          refine e_bipush (v := nI 6) dX2_cutAt_110 rfl ?_
                          refine e_iconst (v := nI 1) dX2_cutAt_112 rfl ?_
                          refine ky_V2 (M' := mX3_add) dX2_cutAt_113 ml_X2_60 ok_X3_add (by decide) rfl im_X3_add se_X3_add (ct_X3_add cm bd hK (by omega)) (Nat.le_of_ble_eq_true rfl) (by decide) (Nat.le_of_ble_eq_true rfl) (fun fi ai hG hK => ?_)
                          have hF := FR1_tr hF hG
                          rw [vf (8558 + 6) (by omega)] at hK
                          change K _ _ (spcW w i key) _ _ at hK
                          have bd : Bd (spcW w i key) := Bd_up bd (by omega)
                          refine e_aload_n dX2_cutAt_116 rfl rfl ?_
                          refine e_getR dX2_cutAt_117 fl_X2_15 rfl (cc_l cm) ?_
                          refine e_aload_n dX2_cutAt_120 rfl rfl ?_
                          refine e_getE dX2_cutAt_121 fl_X2_49 rfl ((k_e hK).trans (by rw [e4])) ?_
                          refine e_iconst (v := nI 1) dX2_cutAt_124 rfl ?_
                          refine e_iload_n dX2_cutAt_125 rfl rfl ?_
                          refine e_iload dX2_cutAt_126 rfl ?_
                          refine ky_V4 (M' := mX3_noteChange) dX2_cutAt_128 ml_X2_66 ok_X3_noteChange (by decide) rfl im_X3_noteChange se_X3_noteChange (ct_X3_noteChange cm bd hK (by omega) (by omega)) (Nat.le_of_ble_eq_true rfl) (by decide) (Nat.le_of_ble_eq_true rfl) (fun fi ai hG hK => ?_)
                          have hF := FR1_tr hF hG
                          refine e_aload_n dX2_cutAt_131 rfl rfl ?_
                          refine e_getE dX2_cutAt_132 fl_X2_49 rfl ((k_e hK).trans (by rw [e4])) ?_
                          refine e_ret (some _) rfl (r_int dX2_cutAt_135 rfl) ?_
                          exact kq rfl hF hK
                      · try first | contradiction | omega
                        all_goals
                          first | omega | contradiction
              · try first | contradiction | omega
                all_goals
                  omega
theorem ct_X2_joinWithNext {fi : FI} {fr : FR} {ai : FI} {ar : FR} {N : Nat} {w lg : Nat → Nat} (cm : CM fr ar) (iv : Inv w) (hK : K fi ai w lg (w 0)) (h01 : w 0 < 1999) (x : Int32) : CP mX2_joinWithNext 2 0 0 [.ref (rf 2 72), .int x] fi fr ai ar N (kQ (some (.int (jonR w (nmO w x)))) fi fr ai ar N (fun fi ai => K fi ai (jonW w (nmO w x)) (jonL lg w (nmO w x)) (jonW w (nmO w x) 0))) := by
  have h1 := iv_n iv
  have h3 := iv_mm iv
  have bd := Bd_iv iv
  have hF : FR1 fi ai fi ai := FR1_rf
  change EV mX2_joinWithNext 2 0 0 0 [some (.ref (rf 2 72)), some (.int x), none, none, none] [] fi fr ai ar N (kQ (some (.int (jonR w (nmO w x)))) fi fr ai ar N (fun fi ai => K fi ai (jonW w (nmO w x)) (jonL lg w (nmO w x)) (jonW w (nmO w x) 0)))
  cases hq : nmO w x with
  | none =>
    have e1 : jonR w none = -1 := rfl
    have e2 : jonW w none = w := rfl
    have e3 : jonL lg w none = lg := rfl
    rw [e1, e2, e3]
    refine e_aload_n dX2_joinWithNext_0 rfl rfl ?_
    refine e_getR dX2_joinWithNext_1 fl_X2_9 rfl (cc_w cm) ?_
    refine e_getR dX2_joinWithNext_4 fl_X2_23 rfl (cm_map cm) ?_
    refine e_astore_n dX2_joinWithNext_7 rfl (Nat.le_of_ble_eq_true rfl) rfl ?_
    refine e_aload_n dX2_joinWithNext_8 rfl rfl ?_
    refine e_iload_n dX2_joinWithNext_9 rfl rfl ?_
    refine x_V1 (M' := mX8_indexOfLow) dX2_joinWithNext_10 ml_X2_29 ok_X8_indexOfLow (by decide) rfl im_X8_indexOfLow se_X8_indexOfLow (ct_X8_indexOfLow cm iv hK _) (Nat.le_of_ble_eq_true rfl) (by decide) (Nat.le_of_ble_eq_true rfl) ?_
    rw [hq]
    refine e_istore_n dX2_joinWithNext_13 rfl (Nat.le_of_ble_eq_true rfl) rfl ?_
    refine e_iload_n dX2_joinWithNext_14 rfl rfl ?_
    refine e_iconst (v := -1) dX2_joinWithNext_15 rfl ?_
    first | ((with_reducible refine mk_mo ?_); refine p_icmp_eq (tgt := 46) dX2_joinWithNext_16 (by decide) (fun h16 => ?_) (fun h16 => ?_)) | ((with_reducible refine mk_ms ?_); refine s_icmp_eq (tgt := 46) dX2_joinWithNext_16 (by decide) (by omega) (fun h16 => ?_) (fun h16 => ?_)) | ((with_reducible refine mk_mn ?_); refine q_icmp_eq (tgt := 46) dX2_joinWithNext_16 (by decide) (by omega) (fun h16 => ?_) (fun h16 => ?_)) | ((with_reducible refine mk_nn ?_); refine n_icmp_eq (tgt := 46) dX2_joinWithNext_16 (by decide) (by omega) (by omega) (fun h16 => ?_) (fun h16 => ?_)) | refine e_icmp_eq (tgt := 46) dX2_joinWithNext_16 (by decide) (fun h16 => ?_) (fun h16 => ?_)
    · try first | contradiction | omega
      all_goals
        refine e_iconst (v := -1) dX2_joinWithNext_46 rfl ?_
        refine e_ret (some _) rfl (r_int dX2_joinWithNext_47 rfl) ?_
        exact kq rfl hF hK
    · try first | contradiction | omega
      all_goals
        contradiction
  | some i =>
    obtain ⟨hi, hx⟩ := nm_some iv hq
    have he := enF_le iv hi
    have hl := iv_low iv hi
    have ho := iv_own iv hi
    have hl2 : i + 1 < w 1 → w (10 + (i + 1)) < 1000 ∧ w (42 + (i + 1)) < 6 := fun h => ⟨iv_low iv h, iv_own iv h⟩
    subst hx
    have ej : joiB w (some i) = (decide (i + 1 ≠ w 1) && decide (w (42 + i) = w (42 + i + 1)) && (mvL w (w (10 + i))).isNone && (mvL w (w (10 + (i + 1)))).isNone) := rfl
    by_cases hlast : i + 1 = w 1
    · have eb : joiB w (some i) = false := by rw [ej, decide_eq_false (fun q => q hlast)]; rfl
      have e1 : jonR w (some i) = -1 := by unfold jonR; rw [eb]; rfl
      have e2 : jonW w (some i) = w := by unfold jonW; rw [eb]; rfl
      have e3 : jonL lg w (some i) = lg := by unfold jonL; rw [eb]; rfl
      rw [e1, e2, e3]
      refine e_aload_n dX2_joinWithNext_0 rfl rfl ?_
      refine e_getR dX2_joinWithNext_1 fl_X2_9 rfl (cc_w cm) ?_
      refine e_getR dX2_joinWithNext_4 fl_X2_23 rfl (cm_map cm) ?_
      refine e_astore_n dX2_joinWithNext_7 rfl (Nat.le_of_ble_eq_true rfl) rfl ?_
      refine e_aload_n dX2_joinWithNext_8 rfl rfl ?_
      refine e_iload_n dX2_joinWithNext_9 rfl rfl ?_
      refine x_V1 (M' := mX8_indexOfLow) dX2_joinWithNext_10 ml_X2_29 ok_X8_indexOfLow (by decide) rfl im_X8_indexOfLow se_X8_indexOfLow (ct_X8_indexOfLow cm iv hK _) (Nat.le_of_ble_eq_true rfl) (by decide) (Nat.le_of_ble_eq_true rfl) ?_
      rw [hq, oI_s]
      refine e_istore_n dX2_joinWithNext_13 rfl (Nat.le_of_ble_eq_true rfl) rfl ?_
      refine e_iload_n dX2_joinWithNext_14 rfl rfl ?_
      refine e_iconst (v := -1) dX2_joinWithNext_15 rfl ?_
      first | ((with_reducible refine mk_mo ?_); refine p_icmp_eq (tgt := 46) dX2_joinWithNext_16 (by decide) (fun h16 => ?_) (fun h16 => ?_)) | ((with_reducible refine mk_ms ?_); refine s_icmp_eq (tgt := 46) dX2_joinWithNext_16 (by decide) (by omega) (fun h16 => ?_) (fun h16 => ?_)) | ((with_reducible refine mk_mn ?_); refine q_icmp_eq (tgt := 46) dX2_joinWithNext_16 (by decide) (by omega) (fun h16 => ?_) (fun h16 => ?_)) | ((with_reducible refine mk_nn ?_); refine n_icmp_eq (tgt := 46) dX2_joinWithNext_16 (by decide) (by omega) (by omega) (fun h16 => ?_) (fun h16 => ?_)) | refine e_icmp_eq (tgt := 46) dX2_joinWithNext_16 (by decide) (fun h16 => ?_) (fun h16 => ?_)
      · try first | contradiction | omega
        all_goals
          refine e_iconst (v := -1) dX2_joinWithNext_46 rfl ?_
          refine e_ret (some _) rfl (r_int dX2_joinWithNext_47 rfl) ?_
          exact kq rfl hF hK
      · try first | contradiction | omega
        all_goals
          refine e_iload_n dX2_joinWithNext_19 rfl rfl ?_
          refine e_iconst (v := nI 1) dX2_joinWithNext_20 rfl ?_
          first | ((with_reducible refine mk_nn ?_); refine n_iadd dX2_joinWithNext_21 ?_) | refine e_iadd dX2_joinWithNext_21 ?_
          refine e_aload_n dX2_joinWithNext_22 rfl rfl ?_
          refine e_getE dX2_joinWithNext_23 fl_X2_38 rfl (by first | exact k_n hK | exact k_cn hK (by first | omega | (simp (disch := omega) only [upN_n, upN_s]; omega)) | assumption) ?_
          first | ((with_reducible refine mk_nn ?_); refine n_icmp_ge (tgt := 46) dX2_joinWithNext_26 (by decide) (by omega) (by omega) (fun h26 => ?_) (fun h26 => ?_)) | refine e_icmp_ge (tgt := 46) dX2_joinWithNext_26 (by decide) (fun h26 => ?_) (fun h26 => ?_)
          · try first | contradiction | omega
            all_goals
              refine e_iconst (v := -1) dX2_joinWithNext_46 rfl ?_
              refine e_ret (some _) rfl (r_int dX2_joinWithNext_47 rfl) ?_
              exact kq rfl hF hK
          · try first | contradiction | omega
            all_goals
              omega
    · have hi1 : i + 1 < w 1 := by omega
      obtain ⟨hl3, ho3⟩ := hl2 hi1
      by_cases how : w (42 + i) = w (42 + (i + 1))
      · cases hmv : mvL w (w (10 + i)) with
        | some m =>
          have hm := mvL_lt hmv
          have eb : joiB w (some i) = false := by rw [ej, hmv, Bool.and_assoc, Bool.and_assoc]; simp
          have e1 : jonR w (some i) = -1 := by unfold jonR; rw [eb]; rfl
          have e2 : jonW w (some i) = w := by unfold jonW; rw [eb]; rfl
          have e3 : jonL lg w (some i) = lg := by unfold jonL; rw [eb]; rfl
          rw [e1, e2, e3]
          refine e_aload_n dX2_joinWithNext_0 rfl rfl ?_
          refine e_getR dX2_joinWithNext_1 fl_X2_9 rfl (cc_w cm) ?_
          refine e_getR dX2_joinWithNext_4 fl_X2_23 rfl (cm_map cm) ?_
          refine e_astore_n dX2_joinWithNext_7 rfl (Nat.le_of_ble_eq_true rfl) rfl ?_
          refine e_aload_n dX2_joinWithNext_8 rfl rfl ?_
          refine e_iload_n dX2_joinWithNext_9 rfl rfl ?_
          refine x_V1 (M' := mX8_indexOfLow) dX2_joinWithNext_10 ml_X2_29 ok_X8_indexOfLow (by decide) rfl im_X8_indexOfLow se_X8_indexOfLow (ct_X8_indexOfLow cm iv hK _) (Nat.le_of_ble_eq_true rfl) (by decide) (Nat.le_of_ble_eq_true rfl) ?_
          rw [hq, oI_s]
          refine e_istore_n dX2_joinWithNext_13 rfl (Nat.le_of_ble_eq_true rfl) rfl ?_
          refine e_iload_n dX2_joinWithNext_14 rfl rfl ?_
          refine e_iconst (v := -1) dX2_joinWithNext_15 rfl ?_
          first | ((with_reducible refine mk_mo ?_); refine p_icmp_eq (tgt := 46) dX2_joinWithNext_16 (by decide) (fun h16 => ?_) (fun h16 => ?_)) | ((with_reducible refine mk_ms ?_); refine s_icmp_eq (tgt := 46) dX2_joinWithNext_16 (by decide) (by omega) (fun h16 => ?_) (fun h16 => ?_)) | ((with_reducible refine mk_mn ?_); refine q_icmp_eq (tgt := 46) dX2_joinWithNext_16 (by decide) (by omega) (fun h16 => ?_) (fun h16 => ?_)) | ((with_reducible refine mk_nn ?_); refine n_icmp_eq (tgt := 46) dX2_joinWithNext_16 (by decide) (by omega) (by omega) (fun h16 => ?_) (fun h16 => ?_)) | refine e_icmp_eq (tgt := 46) dX2_joinWithNext_16 (by decide) (fun h16 => ?_) (fun h16 => ?_)
          · try first | contradiction | omega
            all_goals
              omega
          · try first | contradiction | omega
            all_goals
              refine e_iload_n dX2_joinWithNext_19 rfl rfl ?_
              refine e_iconst (v := nI 1) dX2_joinWithNext_20 rfl ?_
              first | ((with_reducible refine mk_nn ?_); refine n_iadd dX2_joinWithNext_21 ?_) | refine e_iadd dX2_joinWithNext_21 ?_
              refine e_aload_n dX2_joinWithNext_22 rfl rfl ?_
              refine e_getE dX2_joinWithNext_23 fl_X2_38 rfl (by first | exact k_n hK | exact k_cn hK (by first | omega | (simp (disch := omega) only [upN_n, upN_s]; omega)) | assumption) ?_
              first | ((with_reducible refine mk_nn ?_); refine n_icmp_ge (tgt := 46) dX2_joinWithNext_26 (by decide) (by omega) (by omega) (fun h26 => ?_) (fun h26 => ?_)) | refine e_icmp_ge (tgt := 46) dX2_joinWithNext_26 (by decide) (fun h26 => ?_) (fun h26 => ?_)
              · try first | contradiction | omega
                all_goals
                  omega
              · try first | contradiction | omega
                all_goals
                  refine e_aload_n dX2_joinWithNext_29 rfl rfl ?_
                  refine e_getR dX2_joinWithNext_30 fl_X2_45 rfl (by first | exact cm_tow cm | exact cm_ctow cm (by omega) | assumption) ?_
                  refine e_iload_n dX2_joinWithNext_33 rfl rfl ?_
                  refine e_iadE _ dX2_joinWithNext_34 ⟨by decide, by decide⟩ rfl rfl (by simp only [lenK]; omega) (by first | exact k_ow hK (by first | omega | (simp (disch := omega) only [upN_n, upN_s]; omega)) | exact k_cow hK (by omega) (by first | omega | (simp (disch := omega) only [upN_n, upN_s]; omega)) | assumption) ?_
                  refine e_aload_n dX2_joinWithNext_35 rfl rfl ?_
                  refine e_getR dX2_joinWithNext_36 fl_X2_45 rfl (by first | exact cm_tow cm | exact cm_ctow cm (by omega) | assumption) ?_
                  refine e_iload_n dX2_joinWithNext_39 rfl rfl ?_
                  refine e_iconst (v := nI 1) dX2_joinWithNext_40 rfl ?_
                  first | ((with_reducible refine mk_nn ?_); refine n_iadd dX2_joinWithNext_41 ?_) | refine e_iadd dX2_joinWithNext_41 ?_
                  refine e_iadE _ dX2_joinWithNext_42 ⟨by decide, by decide⟩ rfl rfl (by simp only [lenK]; omega) (by first | exact k_ow hK (by first | omega | (simp (disch := omega) only [upN_n, upN_s]; omega)) | exact k_cow hK (by omega) (by first | omega | (simp (disch := omega) only [upN_n, upN_s]; omega)) | assumption) ?_
                  first | ((with_reducible refine mk_mo ?_); refine p_icmp_eq (tgt := 48) dX2_joinWithNext_43 (by decide) (fun h43 => ?_) (fun h43 => ?_)) | ((with_reducible refine mk_ms ?_); refine s_icmp_eq (tgt := 48) dX2_joinWithNext_43 (by decide) (by omega) (fun h43 => ?_) (fun h43 => ?_)) | ((with_reducible refine mk_mn ?_); refine q_icmp_eq (tgt := 48) dX2_joinWithNext_43 (by decide) (by omega) (fun h43 => ?_) (fun h43 => ?_)) | ((with_reducible refine mk_nn ?_); refine n_icmp_eq (tgt := 48) dX2_joinWithNext_43 (by decide) (by omega) (by omega) (fun h43 => ?_) (fun h43 => ?_)) | refine e_icmp_eq (tgt := 48) dX2_joinWithNext_43 (by decide) (fun h43 => ?_) (fun h43 => ?_)
                  · try first | contradiction | omega
                    all_goals
                      refine e_aload_n dX2_joinWithNext_48 rfl rfl ?_
                      refine e_getR dX2_joinWithNext_49 fl_X2_9 rfl (cc_w cm) ?_
                      refine e_iload_n dX2_joinWithNext_52 rfl rfl ?_
                      refine x_V1 (M' := mX9_moveAt) dX2_joinWithNext_53 ml_X2_42 ok_X9_moveAt (by decide) rfl im_X9_moveAt se_X9_moveAt (ct_X9_moveAt cm iv hK (by omega)) (Nat.le_of_ble_eq_true rfl) (by decide) (Nat.le_of_ble_eq_true rfl) ?_
                      rw [hmv, oI_s]
                      refine e_iconst (v := -1) dX2_joinWithNext_56 rfl ?_
                      first | ((with_reducible refine mk_mo ?_); refine p_icmp_ne (tgt := 79) dX2_joinWithNext_57 (by decide) (fun h57 => ?_) (fun h57 => ?_)) | ((with_reducible refine mk_ms ?_); refine s_icmp_ne (tgt := 79) dX2_joinWithNext_57 (by decide) (by omega) (fun h57 => ?_) (fun h57 => ?_)) | ((with_reducible refine mk_mn ?_); refine q_icmp_ne (tgt := 79) dX2_joinWithNext_57 (by decide) (by omega) (fun h57 => ?_) (fun h57 => ?_)) | ((with_reducible refine mk_nn ?_); refine n_icmp_ne (tgt := 79) dX2_joinWithNext_57 (by decide) (by omega) (by omega) (fun h57 => ?_) (fun h57 => ?_)) | refine e_icmp_ne (tgt := 79) dX2_joinWithNext_57 (by decide) (fun h57 => ?_) (fun h57 => ?_)
                      · try first | contradiction | omega
                        all_goals
                          refine e_iconst (v := -1) dX2_joinWithNext_79 rfl ?_
                          refine e_ret (some _) rfl (r_int dX2_joinWithNext_80 rfl) ?_
                          exact kq rfl hF hK
                      · try first | contradiction | omega
                        all_goals
                          contradiction
                  · try first | contradiction | omega
                    all_goals
                      omega
        | none =>
          cases hmv2 : mvL w (w (10 + (i + 1))) with
          | some m =>
            have hm := mvL_lt hmv2
            have eb : joiB w (some i) = false := by rw [ej, hmv2]; simp
            have e1 : jonR w (some i) = -1 := by unfold jonR; rw [eb]; rfl
            have e2 : jonW w (some i) = w := by unfold jonW; rw [eb]; rfl
            have e3 : jonL lg w (some i) = lg := by unfold jonL; rw [eb]; rfl
            rw [e1, e2, e3]
            refine e_aload_n dX2_joinWithNext_0 rfl rfl ?_
            refine e_getR dX2_joinWithNext_1 fl_X2_9 rfl (cc_w cm) ?_
            refine e_getR dX2_joinWithNext_4 fl_X2_23 rfl (cm_map cm) ?_
            refine e_astore_n dX2_joinWithNext_7 rfl (Nat.le_of_ble_eq_true rfl) rfl ?_
            refine e_aload_n dX2_joinWithNext_8 rfl rfl ?_
            refine e_iload_n dX2_joinWithNext_9 rfl rfl ?_
            refine x_V1 (M' := mX8_indexOfLow) dX2_joinWithNext_10 ml_X2_29 ok_X8_indexOfLow (by decide) rfl im_X8_indexOfLow se_X8_indexOfLow (ct_X8_indexOfLow cm iv hK _) (Nat.le_of_ble_eq_true rfl) (by decide) (Nat.le_of_ble_eq_true rfl) ?_
            rw [hq, oI_s]
            refine e_istore_n dX2_joinWithNext_13 rfl (Nat.le_of_ble_eq_true rfl) rfl ?_
            refine e_iload_n dX2_joinWithNext_14 rfl rfl ?_
            refine e_iconst (v := -1) dX2_joinWithNext_15 rfl ?_
            first | ((with_reducible refine mk_mo ?_); refine p_icmp_eq (tgt := 46) dX2_joinWithNext_16 (by decide) (fun h16 => ?_) (fun h16 => ?_)) | ((with_reducible refine mk_ms ?_); refine s_icmp_eq (tgt := 46) dX2_joinWithNext_16 (by decide) (by omega) (fun h16 => ?_) (fun h16 => ?_)) | ((with_reducible refine mk_mn ?_); refine q_icmp_eq (tgt := 46) dX2_joinWithNext_16 (by decide) (by omega) (fun h16 => ?_) (fun h16 => ?_)) | ((with_reducible refine mk_nn ?_); refine n_icmp_eq (tgt := 46) dX2_joinWithNext_16 (by decide) (by omega) (by omega) (fun h16 => ?_) (fun h16 => ?_)) | refine e_icmp_eq (tgt := 46) dX2_joinWithNext_16 (by decide) (fun h16 => ?_) (fun h16 => ?_)
            · try first | contradiction | omega
              all_goals
                omega
            · try first | contradiction | omega
              all_goals
                refine e_iload_n dX2_joinWithNext_19 rfl rfl ?_
                refine e_iconst (v := nI 1) dX2_joinWithNext_20 rfl ?_
                first | ((with_reducible refine mk_nn ?_); refine n_iadd dX2_joinWithNext_21 ?_) | refine e_iadd dX2_joinWithNext_21 ?_
                refine e_aload_n dX2_joinWithNext_22 rfl rfl ?_
                refine e_getE dX2_joinWithNext_23 fl_X2_38 rfl (by first | exact k_n hK | exact k_cn hK (by first | omega | (simp (disch := omega) only [upN_n, upN_s]; omega)) | assumption) ?_
                first | ((with_reducible refine mk_nn ?_); refine n_icmp_ge (tgt := 46) dX2_joinWithNext_26 (by decide) (by omega) (by omega) (fun h26 => ?_) (fun h26 => ?_)) | refine e_icmp_ge (tgt := 46) dX2_joinWithNext_26 (by decide) (fun h26 => ?_) (fun h26 => ?_)
                · try first | contradiction | omega
                  all_goals
                    omega
                · try first | contradiction | omega
                  all_goals
                    refine e_aload_n dX2_joinWithNext_29 rfl rfl ?_
                    refine e_getR dX2_joinWithNext_30 fl_X2_45 rfl (by first | exact cm_tow cm | exact cm_ctow cm (by omega) | assumption) ?_
                    refine e_iload_n dX2_joinWithNext_33 rfl rfl ?_
                    refine e_iadE _ dX2_joinWithNext_34 ⟨by decide, by decide⟩ rfl rfl (by simp only [lenK]; omega) (by first | exact k_ow hK (by first | omega | (simp (disch := omega) only [upN_n, upN_s]; omega)) | exact k_cow hK (by omega) (by first | omega | (simp (disch := omega) only [upN_n, upN_s]; omega)) | assumption) ?_
                    refine e_aload_n dX2_joinWithNext_35 rfl rfl ?_
                    refine e_getR dX2_joinWithNext_36 fl_X2_45 rfl (by first | exact cm_tow cm | exact cm_ctow cm (by omega) | assumption) ?_
                    refine e_iload_n dX2_joinWithNext_39 rfl rfl ?_
                    refine e_iconst (v := nI 1) dX2_joinWithNext_40 rfl ?_
                    first | ((with_reducible refine mk_nn ?_); refine n_iadd dX2_joinWithNext_41 ?_) | refine e_iadd dX2_joinWithNext_41 ?_
                    refine e_iadE _ dX2_joinWithNext_42 ⟨by decide, by decide⟩ rfl rfl (by simp only [lenK]; omega) (by first | exact k_ow hK (by first | omega | (simp (disch := omega) only [upN_n, upN_s]; omega)) | exact k_cow hK (by omega) (by first | omega | (simp (disch := omega) only [upN_n, upN_s]; omega)) | assumption) ?_
                    first | ((with_reducible refine mk_mo ?_); refine p_icmp_eq (tgt := 48) dX2_joinWithNext_43 (by decide) (fun h43 => ?_) (fun h43 => ?_)) | ((with_reducible refine mk_ms ?_); refine s_icmp_eq (tgt := 48) dX2_joinWithNext_43 (by decide) (by omega) (fun h43 => ?_) (fun h43 => ?_)) | ((with_reducible refine mk_mn ?_); refine q_icmp_eq (tgt := 48) dX2_joinWithNext_43 (by decide) (by omega) (fun h43 => ?_) (fun h43 => ?_)) | ((with_reducible refine mk_nn ?_); refine n_icmp_eq (tgt := 48) dX2_joinWithNext_43 (by decide) (by omega) (by omega) (fun h43 => ?_) (fun h43 => ?_)) | refine e_icmp_eq (tgt := 48) dX2_joinWithNext_43 (by decide) (fun h43 => ?_) (fun h43 => ?_)
                    · try first | contradiction | omega
                      all_goals
                        refine e_aload_n dX2_joinWithNext_48 rfl rfl ?_
                        refine e_getR dX2_joinWithNext_49 fl_X2_9 rfl (cc_w cm) ?_
                        refine e_iload_n dX2_joinWithNext_52 rfl rfl ?_
                        refine x_V1 (M' := mX9_moveAt) dX2_joinWithNext_53 ml_X2_42 ok_X9_moveAt (by decide) rfl im_X9_moveAt se_X9_moveAt (ct_X9_moveAt cm iv hK (by omega)) (Nat.le_of_ble_eq_true rfl) (by decide) (Nat.le_of_ble_eq_true rfl) ?_
                        rw [hmv]
                        refine e_iconst (v := -1) dX2_joinWithNext_56 rfl ?_
                        first | ((with_reducible refine mk_mo ?_); refine p_icmp_ne (tgt := 79) dX2_joinWithNext_57 (by decide) (fun h57 => ?_) (fun h57 => ?_)) | ((with_reducible refine mk_ms ?_); refine s_icmp_ne (tgt := 79) dX2_joinWithNext_57 (by decide) (by omega) (fun h57 => ?_) (fun h57 => ?_)) | ((with_reducible refine mk_mn ?_); refine q_icmp_ne (tgt := 79) dX2_joinWithNext_57 (by decide) (by omega) (fun h57 => ?_) (fun h57 => ?_)) | ((with_reducible refine mk_nn ?_); refine n_icmp_ne (tgt := 79) dX2_joinWithNext_57 (by decide) (by omega) (by omega) (fun h57 => ?_) (fun h57 => ?_)) | refine e_icmp_ne (tgt := 79) dX2_joinWithNext_57 (by decide) (fun h57 => ?_) (fun h57 => ?_)
                        · try first | contradiction | omega
                          all_goals
                            refine e_iconst (v := -1) dX2_joinWithNext_79 rfl ?_
                            refine e_ret (some _) rfl (r_int dX2_joinWithNext_80 rfl) ?_
                            exact kq rfl hF hK
                        · try first | contradiction | omega
                          all_goals
                            refine e_aload_n dX2_joinWithNext_60 rfl rfl ?_
                            refine e_getR dX2_joinWithNext_61 fl_X2_9 rfl (cc_w cm) ?_
                            refine e_aload_n dX2_joinWithNext_64 rfl rfl ?_
                            refine e_getR dX2_joinWithNext_65 fl_X2_83 rfl (by first | exact cm_tlo cm | exact cm_ctlo cm (by omega) | assumption) ?_
                            refine e_iload_n dX2_joinWithNext_68 rfl rfl ?_
                            refine e_iconst (v := nI 1) dX2_joinWithNext_69 rfl ?_
                            first | ((with_reducible refine mk_nn ?_); refine n_iadd dX2_joinWithNext_70 ?_) | refine e_iadd dX2_joinWithNext_70 ?_
                            refine e_iadE _ dX2_joinWithNext_71 ⟨by decide, by decide⟩ rfl rfl (by simp only [lenK]; omega) (by first | exact k_lo hK (by first | omega | (simp (disch := omega) only [upN_n, upN_s]; omega)) | exact k_clo hK (by omega) (by first | omega | (simp (disch := omega) only [upN_n, upN_s]; omega)) | assumption) ?_
                            refine x_V1 (M' := mX9_moveAt) dX2_joinWithNext_72 ml_X2_42 ok_X9_moveAt (by decide) rfl im_X9_moveAt se_X9_moveAt (ct_X9_moveAt cm iv hK (by omega)) (Nat.le_of_ble_eq_true rfl) (by decide) (Nat.le_of_ble_eq_true rfl) ?_
                            rw [hmv2, oI_s]
                            refine e_iconst (v := -1) dX2_joinWithNext_75 rfl ?_
                            first | ((with_reducible refine mk_mo ?_); refine p_icmp_eq (tgt := 81) dX2_joinWithNext_76 (by decide) (fun h76 => ?_) (fun h76 => ?_)) | ((with_reducible refine mk_ms ?_); refine s_icmp_eq (tgt := 81) dX2_joinWithNext_76 (by decide) (by omega) (fun h76 => ?_) (fun h76 => ?_)) | ((with_reducible refine mk_mn ?_); refine q_icmp_eq (tgt := 81) dX2_joinWithNext_76 (by decide) (by omega) (fun h76 => ?_) (fun h76 => ?_)) | ((with_reducible refine mk_nn ?_); refine n_icmp_eq (tgt := 81) dX2_joinWithNext_76 (by decide) (by omega) (by omega) (fun h76 => ?_) (fun h76 => ?_)) | refine e_icmp_eq (tgt := 81) dX2_joinWithNext_76 (by decide) (fun h76 => ?_) (fun h76 => ?_)
                            · try first | contradiction | omega
                              all_goals
                                contradiction
                            · try first | contradiction | omega
                              all_goals
                                refine e_iconst (v := -1) dX2_joinWithNext_79 rfl ?_
                                refine e_ret (some _) rfl (r_int dX2_joinWithNext_80 rfl) ?_
                                exact kq rfl hF hK
                    · try first | contradiction | omega
                      all_goals
                        omega
          | none =>
            have eb : joiB w (some i) = true := by rw [ej, hmv, hmv2, decide_eq_true hlast, decide_eq_true (show w (42 + i) = w (42 + i + 1) from how)]; rfl
            have e1 : jonR w (some i) = nI (w 0 + 1) := by unfold jonR; rw [eb]; rfl
            have e2 : jonW w (some i) = joiW w i := by unfold jonW; rw [eb]; rfl
            have e3 : jonL lg w (some i) = lgN lg (w 0 + 1) 2 (w (10 + i)) (w (42 + i)) := by unfold jonL; rw [eb]; rfl
            obtain ⟨v0, v1, vl, vo, ve, vf⟩ := joi_v hi1 h1.2
            rw [e1, e2, e3, v0]
            have c7 : jo3 w i (8558 + 7) = w (8558 + 7) := by unfold jo3; rw [upN_n (by omega), jnF_fr (by omega)]; unfold jo2; rw [upN_n (by omega), upN_n (by omega)]
            have ej1 := jo3_j w i 1 (by omega)
            refine e_aload_n dX2_joinWithNext_0 rfl rfl ?_
            refine e_getR dX2_joinWithNext_1 fl_X2_9 rfl (cc_w cm) ?_
            refine e_getR dX2_joinWithNext_4 fl_X2_23 rfl (cm_map cm) ?_
            refine e_astore_n dX2_joinWithNext_7 rfl (Nat.le_of_ble_eq_true rfl) rfl ?_
            refine e_aload_n dX2_joinWithNext_8 rfl rfl ?_
            refine e_iload_n dX2_joinWithNext_9 rfl rfl ?_
            refine x_V1 (M' := mX8_indexOfLow) dX2_joinWithNext_10 ml_X2_29 ok_X8_indexOfLow (by decide) rfl im_X8_indexOfLow se_X8_indexOfLow (ct_X8_indexOfLow cm iv hK _) (Nat.le_of_ble_eq_true rfl) (by decide) (Nat.le_of_ble_eq_true rfl) ?_
            rw [hq, oI_s]
            refine e_istore_n dX2_joinWithNext_13 rfl (Nat.le_of_ble_eq_true rfl) rfl ?_
            refine e_iload_n dX2_joinWithNext_14 rfl rfl ?_
            refine e_iconst (v := -1) dX2_joinWithNext_15 rfl ?_
            first | ((with_reducible refine mk_mo ?_); refine p_icmp_eq (tgt := 46) dX2_joinWithNext_16 (by decide) (fun h16 => ?_) (fun h16 => ?_)) | ((with_reducible refine mk_ms ?_); refine s_icmp_eq (tgt := 46) dX2_joinWithNext_16 (by decide) (by omega) (fun h16 => ?_) (fun h16 => ?_)) | ((with_reducible refine mk_mn ?_); refine q_icmp_eq (tgt := 46) dX2_joinWithNext_16 (by decide) (by omega) (fun h16 => ?_) (fun h16 => ?_)) | ((with_reducible refine mk_nn ?_); refine n_icmp_eq (tgt := 46) dX2_joinWithNext_16 (by decide) (by omega) (by omega) (fun h16 => ?_) (fun h16 => ?_)) | refine e_icmp_eq (tgt := 46) dX2_joinWithNext_16 (by decide) (fun h16 => ?_) (fun h16 => ?_)
            · try first | contradiction | omega
              all_goals
                omega
            · try first | contradiction | omega
              all_goals
                refine e_iload_n dX2_joinWithNext_19 rfl rfl ?_
                refine e_iconst (v := nI 1) dX2_joinWithNext_20 rfl ?_
                first | ((with_reducible refine mk_nn ?_); refine n_iadd dX2_joinWithNext_21 ?_) | refine e_iadd dX2_joinWithNext_21 ?_
                refine e_aload_n dX2_joinWithNext_22 rfl rfl ?_
                refine e_getE dX2_joinWithNext_23 fl_X2_38 rfl (by first | exact k_n hK | exact k_cn hK (by first | omega | (simp (disch := omega) only [upN_n, upN_s]; omega)) | assumption) ?_
                first | ((with_reducible refine mk_nn ?_); refine n_icmp_ge (tgt := 46) dX2_joinWithNext_26 (by decide) (by omega) (by omega) (fun h26 => ?_) (fun h26 => ?_)) | refine e_icmp_ge (tgt := 46) dX2_joinWithNext_26 (by decide) (fun h26 => ?_) (fun h26 => ?_)
                · try first | contradiction | omega
                  all_goals
                    omega
                · try first | contradiction | omega
                  all_goals
                    refine e_aload_n dX2_joinWithNext_29 rfl rfl ?_
                    refine e_getR dX2_joinWithNext_30 fl_X2_45 rfl (by first | exact cm_tow cm | exact cm_ctow cm (by omega) | assumption) ?_
                    refine e_iload_n dX2_joinWithNext_33 rfl rfl ?_
                    refine e_iadE _ dX2_joinWithNext_34 ⟨by decide, by decide⟩ rfl rfl (by simp only [lenK]; omega) (by first | exact k_ow hK (by first | omega | (simp (disch := omega) only [upN_n, upN_s]; omega)) | exact k_cow hK (by omega) (by first | omega | (simp (disch := omega) only [upN_n, upN_s]; omega)) | assumption) ?_
                    refine e_aload_n dX2_joinWithNext_35 rfl rfl ?_
                    refine e_getR dX2_joinWithNext_36 fl_X2_45 rfl (by first | exact cm_tow cm | exact cm_ctow cm (by omega) | assumption) ?_
                    refine e_iload_n dX2_joinWithNext_39 rfl rfl ?_
                    refine e_iconst (v := nI 1) dX2_joinWithNext_40 rfl ?_
                    first | ((with_reducible refine mk_nn ?_); refine n_iadd dX2_joinWithNext_41 ?_) | refine e_iadd dX2_joinWithNext_41 ?_
                    refine e_iadE _ dX2_joinWithNext_42 ⟨by decide, by decide⟩ rfl rfl (by simp only [lenK]; omega) (by first | exact k_ow hK (by first | omega | (simp (disch := omega) only [upN_n, upN_s]; omega)) | exact k_cow hK (by omega) (by first | omega | (simp (disch := omega) only [upN_n, upN_s]; omega)) | assumption) ?_
                    first | ((with_reducible refine mk_mo ?_); refine p_icmp_eq (tgt := 48) dX2_joinWithNext_43 (by decide) (fun h43 => ?_) (fun h43 => ?_)) | ((with_reducible refine mk_ms ?_); refine s_icmp_eq (tgt := 48) dX2_joinWithNext_43 (by decide) (by omega) (fun h43 => ?_) (fun h43 => ?_)) | ((with_reducible refine mk_mn ?_); refine q_icmp_eq (tgt := 48) dX2_joinWithNext_43 (by decide) (by omega) (fun h43 => ?_) (fun h43 => ?_)) | ((with_reducible refine mk_nn ?_); refine n_icmp_eq (tgt := 48) dX2_joinWithNext_43 (by decide) (by omega) (by omega) (fun h43 => ?_) (fun h43 => ?_)) | refine e_icmp_eq (tgt := 48) dX2_joinWithNext_43 (by decide) (fun h43 => ?_) (fun h43 => ?_)
                    · try first | contradiction | omega
                      all_goals
                        refine e_aload_n dX2_joinWithNext_48 rfl rfl ?_
                        refine e_getR dX2_joinWithNext_49 fl_X2_9 rfl (cc_w cm) ?_
                        refine e_iload_n dX2_joinWithNext_52 rfl rfl ?_
                        refine x_V1 (M' := mX9_moveAt) dX2_joinWithNext_53 ml_X2_42 ok_X9_moveAt (by decide) rfl im_X9_moveAt se_X9_moveAt (ct_X9_moveAt cm iv hK (by omega)) (Nat.le_of_ble_eq_true rfl) (by decide) (Nat.le_of_ble_eq_true rfl) ?_
                        rw [hmv]
                        refine e_iconst (v := -1) dX2_joinWithNext_56 rfl ?_
                        first | ((with_reducible refine mk_mo ?_); refine p_icmp_ne (tgt := 79) dX2_joinWithNext_57 (by decide) (fun h57 => ?_) (fun h57 => ?_)) | ((with_reducible refine mk_ms ?_); refine s_icmp_ne (tgt := 79) dX2_joinWithNext_57 (by decide) (by omega) (fun h57 => ?_) (fun h57 => ?_)) | ((with_reducible refine mk_mn ?_); refine q_icmp_ne (tgt := 79) dX2_joinWithNext_57 (by decide) (by omega) (fun h57 => ?_) (fun h57 => ?_)) | ((with_reducible refine mk_nn ?_); refine n_icmp_ne (tgt := 79) dX2_joinWithNext_57 (by decide) (by omega) (by omega) (fun h57 => ?_) (fun h57 => ?_)) | refine e_icmp_ne (tgt := 79) dX2_joinWithNext_57 (by decide) (fun h57 => ?_) (fun h57 => ?_)
                        · try first | contradiction | omega
                          all_goals
                            contradiction
                        · try first | contradiction | omega
                          all_goals
                            refine e_aload_n dX2_joinWithNext_60 rfl rfl ?_
                            refine e_getR dX2_joinWithNext_61 fl_X2_9 rfl (cc_w cm) ?_
                            refine e_aload_n dX2_joinWithNext_64 rfl rfl ?_
                            refine e_getR dX2_joinWithNext_65 fl_X2_83 rfl (by first | exact cm_tlo cm | exact cm_ctlo cm (by omega) | assumption) ?_
                            refine e_iload_n dX2_joinWithNext_68 rfl rfl ?_
                            refine e_iconst (v := nI 1) dX2_joinWithNext_69 rfl ?_
                            first | ((with_reducible refine mk_nn ?_); refine n_iadd dX2_joinWithNext_70 ?_) | refine e_iadd dX2_joinWithNext_70 ?_
                            refine e_iadE _ dX2_joinWithNext_71 ⟨by decide, by decide⟩ rfl rfl (by simp only [lenK]; omega) (by first | exact k_lo hK (by first | omega | (simp (disch := omega) only [upN_n, upN_s]; omega)) | exact k_clo hK (by omega) (by first | omega | (simp (disch := omega) only [upN_n, upN_s]; omega)) | assumption) ?_
                            refine x_V1 (M' := mX9_moveAt) dX2_joinWithNext_72 ml_X2_42 ok_X9_moveAt (by decide) rfl im_X9_moveAt se_X9_moveAt (ct_X9_moveAt cm iv hK (by omega)) (Nat.le_of_ble_eq_true rfl) (by decide) (Nat.le_of_ble_eq_true rfl) ?_
                            rw [hmv2]
                            refine e_iconst (v := -1) dX2_joinWithNext_75 rfl ?_
                            first | ((with_reducible refine mk_mo ?_); refine p_icmp_eq (tgt := 81) dX2_joinWithNext_76 (by decide) (fun h76 => ?_) (fun h76 => ?_)) | ((with_reducible refine mk_ms ?_); refine s_icmp_eq (tgt := 81) dX2_joinWithNext_76 (by decide) (by omega) (fun h76 => ?_) (fun h76 => ?_)) | ((with_reducible refine mk_mn ?_); refine q_icmp_eq (tgt := 81) dX2_joinWithNext_76 (by decide) (by omega) (fun h76 => ?_) (fun h76 => ?_)) | ((with_reducible refine mk_nn ?_); refine n_icmp_eq (tgt := 81) dX2_joinWithNext_76 (by decide) (by omega) (by omega) (fun h76 => ?_) (fun h76 => ?_)) | refine e_icmp_eq (tgt := 81) dX2_joinWithNext_76 (by decide) (fun h76 => ?_) (fun h76 => ?_)
                            · try first | contradiction | omega
                              all_goals
                                refine e_aload_n dX2_joinWithNext_81 rfl rfl ?_
                                refine e_getR dX2_joinWithNext_82 fl_X2_45 rfl (by first | exact cm_tow cm | exact cm_ctow cm (by omega) | assumption) ?_
                                refine e_iload_n dX2_joinWithNext_85 rfl rfl ?_
                                refine e_iadE _ dX2_joinWithNext_86 ⟨by decide, by decide⟩ rfl rfl (by simp only [lenK]; omega) (by first | exact k_ow hK (by first | omega | (simp (disch := omega) only [upN_n, upN_s]; omega)) | exact k_cow hK (by omega) (by first | omega | (simp (disch := omega) only [upN_n, upN_s]; omega)) | assumption) ?_
                                refine e_istore dX2_joinWithNext_87 (Nat.le_of_ble_eq_true rfl) rfl ?_
                                refine e_aload_n dX2_joinWithNext_89 rfl rfl ?_
                                refine e_dup dX2_joinWithNext_90 rfl ?_
                                refine e_getE dX2_joinWithNext_91 fl_X2_49 rfl (by first | exact k_e hK | exact k_ce hK (by first | omega | (simp (disch := omega) only [upN_n, upN_s]; omega)) | assumption) ?_
                                refine e_iconst (v := nI 1) dX2_joinWithNext_94 rfl ?_
                                first | ((with_reducible refine mk_nn ?_); refine n_iadd dX2_joinWithNext_95 ?_) | refine e_iadd dX2_joinWithNext_95 ?_
                                refine e_pg dX2_joinWithNext_96 fl_X2_49 rfl rfl rfl rfl (fun fi96 g96 o96 => ?_)
                                refine e_aload_n dX2_joinWithNext_99 rfl rfl ?_
                                refine e_iload_n dX2_joinWithNext_100 rfl rfl ?_
                                refine ky_V1 (M' := mX8_removeBehind) dX2_joinWithNext_101 ml_X2_86 ok_X8_removeBehind (by decide) rfl im_X8_removeBehind se_X8_removeBehind (ct_X8_removeBehind cm ((o96 _ _ (by omega)).trans (k_n hK)) (by omega) (by omega)) (Nat.le_of_ble_eq_true rfl) (by decide) (Nat.le_of_ble_eq_true rfl) (fun fi3 ai101 hG hR => ?_)
                                obtain ⟨rfl, a1, a2⟩ := hR
                                refine e_aload_n dX2_joinWithNext_104 rfl rfl ?_
                                refine e_iload_n dX2_joinWithNext_105 rfl rfl ?_
                                refine e_iload_n dX2_joinWithNext_106 rfl rfl ?_
                                refine e_iload dX2_joinWithNext_107 rfl ?_
                                refine ky_V3 (M' := mX8_put) dX2_joinWithNext_109 ml_X2_56 ok_X8_put (by decide) rfl im_X8_put se_X8_put (ct_X8_put (e := w 0 + 1) cm (by omega) ((up2_n _ _ (by omega)).trans g96)) (Nat.le_of_ble_eq_true rfl) (by decide) (Nat.le_of_ble_eq_true rfl) (fun fi3 ai109 hG hR => ?_)
                                obtain ⟨rfl, p1, p2, p3, p4⟩ := hR
                                have hF : FR1 fi ai (up2 fi96 (32 * 8 + 3) (rf 8 4) (nI (w 1 - 1))) ai109 := ⟨fun f r hr => (up2_n _ _ (fun e => by rw [e.2, rf_div (by decide)] at hr; omega)).trans (o96 f r (fun e => by rw [e.2, rf_div (by decide)] at hr; omega)), fun a ha => funext fun q => by
                                  have nt : ¬ tb3 a := fun t => by have := tb3_r t; omega
                                  rw [p4 a q (fun e => nt e.1)]; exact a2 a q nt⟩
                                have hK := k_joi bd hi1 h1.2 hK (up2_s _ _ _ _) ((up2_n _ _ (by omega)).trans g96) (fun f r hr => (up2_n _ _ (fun e => hr e.2)).trans (o96 f r (fun e => hr e.2))) (fun A hA => ⟨fun q hq => by rw [p4 A q (fun e => by have := e.2; omega)]; exact (a1 A hA).1 q (by omega), fun q x1 x2 => by rw [p4 A q (fun e => by have := e.2; omega)]; exact (a1 A hA).2 q x1 x2⟩) (fun A q hA => by rw [p4 A q (fun e => hA e.1)]; exact a2 A q hA) ⟨p1, p2, p3⟩
                                have bd : Bd (jo3 w i) := Bd_mp (by omega) (fun q a b c => by
                                  by_cases e : q = 8558 + 7
                                  · rw [e]; exact c7
                                  · rw [jo3_j w i q e]; exact vf q (by omega)) bd
                                generalize up2 fi96 (32 * 8 + 3) (rf 8 4) (nI (w 1 - 1)) = fi109 at *
                                refine e_aload_n dX2_joinWithNext_112 rfl rfl ?_
                                refine e_getR dX2_joinWithNext_113 fl_X2_15 rfl (cc_l cm) ?_
                                refine e_bipush (v := nI 7) dX2_joinWithNext_116 rfl ?_
                                refine e_iconst (v := nI 1) dX2_joinWithNext_118 rfl ?_
                                refine ky_V2 (M' := mX3_add) dX2_joinWithNext_119 ml_X2_60 ok_X3_add (by decide) rfl im_X3_add se_X3_add (ct_X3_add cm bd hK (by omega)) (Nat.le_of_ble_eq_true rfl) (by decide) (Nat.le_of_ble_eq_true rfl) (fun fi ai hG hK => ?_)
                                have hF := FR1_tr hF hG
                                rw [c7] at hK
                                change K _ _ (joiW w i) _ _ at hK
                                have bd : Bd (joiW w i) := Bd_up bd (by omega)
                                refine e_aload_n dX2_joinWithNext_122 rfl rfl ?_
                                refine e_getR dX2_joinWithNext_123 fl_X2_15 rfl (cc_l cm) ?_
                                refine e_aload_n dX2_joinWithNext_126 rfl rfl ?_
                                refine e_getE dX2_joinWithNext_127 fl_X2_49 rfl ((k_e hK).trans (by rw [v0])) ?_
                                refine e_iconst (v := nI 2) dX2_joinWithNext_130 rfl ?_
                                refine e_iload_n dX2_joinWithNext_131 rfl rfl ?_
                                refine e_iload dX2_joinWithNext_132 rfl ?_
                                refine ky_V4 (M' := mX3_noteChange) dX2_joinWithNext_134 ml_X2_66 ok_X3_noteChange (by decide) rfl im_X3_noteChange se_X3_noteChange (ct_X3_noteChange cm bd hK (by omega) (by omega)) (Nat.le_of_ble_eq_true rfl) (by decide) (Nat.le_of_ble_eq_true rfl) (fun fi ai hG hK => ?_)
                                have hF := FR1_tr hF hG
                                refine e_aload_n dX2_joinWithNext_137 rfl rfl ?_
                                refine e_getE dX2_joinWithNext_138 fl_X2_49 rfl ((k_e hK).trans (by rw [v0])) ?_
                                refine e_ret (some _) rfl (r_int dX2_joinWithNext_141 rfl) ?_
                                exact kq rfl hF hK
                            · try first | contradiction | omega
                              all_goals
                                contradiction
                    · try first | contradiction | omega
                      all_goals
                        omega
      · have eb : joiB w (some i) = false := by rw [ej, decide_eq_false (show ¬ w (42 + i) = w (42 + i + 1) from how)]; simp
        have e1 : jonR w (some i) = -1 := by unfold jonR; rw [eb]; rfl
        have e2 : jonW w (some i) = w := by unfold jonW; rw [eb]; rfl
        have e3 : jonL lg w (some i) = lg := by unfold jonL; rw [eb]; rfl
        rw [e1, e2, e3]
        refine e_aload_n dX2_joinWithNext_0 rfl rfl ?_
        refine e_getR dX2_joinWithNext_1 fl_X2_9 rfl (cc_w cm) ?_
        refine e_getR dX2_joinWithNext_4 fl_X2_23 rfl (cm_map cm) ?_
        refine e_astore_n dX2_joinWithNext_7 rfl (Nat.le_of_ble_eq_true rfl) rfl ?_
        refine e_aload_n dX2_joinWithNext_8 rfl rfl ?_
        refine e_iload_n dX2_joinWithNext_9 rfl rfl ?_
        refine x_V1 (M' := mX8_indexOfLow) dX2_joinWithNext_10 ml_X2_29 ok_X8_indexOfLow (by decide) rfl im_X8_indexOfLow se_X8_indexOfLow (ct_X8_indexOfLow cm iv hK _) (Nat.le_of_ble_eq_true rfl) (by decide) (Nat.le_of_ble_eq_true rfl) ?_
        rw [hq, oI_s]
        refine e_istore_n dX2_joinWithNext_13 rfl (Nat.le_of_ble_eq_true rfl) rfl ?_
        refine e_iload_n dX2_joinWithNext_14 rfl rfl ?_
        refine e_iconst (v := -1) dX2_joinWithNext_15 rfl ?_
        first | ((with_reducible refine mk_mo ?_); refine p_icmp_eq (tgt := 46) dX2_joinWithNext_16 (by decide) (fun h16 => ?_) (fun h16 => ?_)) | ((with_reducible refine mk_ms ?_); refine s_icmp_eq (tgt := 46) dX2_joinWithNext_16 (by decide) (by omega) (fun h16 => ?_) (fun h16 => ?_)) | ((with_reducible refine mk_mn ?_); refine q_icmp_eq (tgt := 46) dX2_joinWithNext_16 (by decide) (by omega) (fun h16 => ?_) (fun h16 => ?_)) | ((with_reducible refine mk_nn ?_); refine n_icmp_eq (tgt := 46) dX2_joinWithNext_16 (by decide) (by omega) (by omega) (fun h16 => ?_) (fun h16 => ?_)) | refine e_icmp_eq (tgt := 46) dX2_joinWithNext_16 (by decide) (fun h16 => ?_) (fun h16 => ?_)
        · try first | contradiction | omega
          all_goals
            refine e_iconst (v := -1) dX2_joinWithNext_46 rfl ?_
            refine e_ret (some _) rfl (r_int dX2_joinWithNext_47 rfl) ?_
            exact kq rfl hF hK
        · try first | contradiction | omega
          all_goals
            refine e_iload_n dX2_joinWithNext_19 rfl rfl ?_
            refine e_iconst (v := nI 1) dX2_joinWithNext_20 rfl ?_
            first | ((with_reducible refine mk_nn ?_); refine n_iadd dX2_joinWithNext_21 ?_) | refine e_iadd dX2_joinWithNext_21 ?_
            refine e_aload_n dX2_joinWithNext_22 rfl rfl ?_
            refine e_getE dX2_joinWithNext_23 fl_X2_38 rfl (by first | exact k_n hK | exact k_cn hK (by first | omega | (simp (disch := omega) only [upN_n, upN_s]; omega)) | assumption) ?_
            first | ((with_reducible refine mk_nn ?_); refine n_icmp_ge (tgt := 46) dX2_joinWithNext_26 (by decide) (by omega) (by omega) (fun h26 => ?_) (fun h26 => ?_)) | refine e_icmp_ge (tgt := 46) dX2_joinWithNext_26 (by decide) (fun h26 => ?_) (fun h26 => ?_)
            · try first | contradiction | omega
              all_goals
                refine e_iconst (v := -1) dX2_joinWithNext_46 rfl ?_
                refine e_ret (some _) rfl (r_int dX2_joinWithNext_47 rfl) ?_
                exact kq rfl hF hK
            · try first | contradiction | omega
              all_goals
                refine e_aload_n dX2_joinWithNext_29 rfl rfl ?_
                refine e_getR dX2_joinWithNext_30 fl_X2_45 rfl (by first | exact cm_tow cm | exact cm_ctow cm (by omega) | assumption) ?_
                refine e_iload_n dX2_joinWithNext_33 rfl rfl ?_
                refine e_iadE _ dX2_joinWithNext_34 ⟨by decide, by decide⟩ rfl rfl (by simp only [lenK]; omega) (by first | exact k_ow hK (by first | omega | (simp (disch := omega) only [upN_n, upN_s]; omega)) | exact k_cow hK (by omega) (by first | omega | (simp (disch := omega) only [upN_n, upN_s]; omega)) | assumption) ?_
                refine e_aload_n dX2_joinWithNext_35 rfl rfl ?_
                refine e_getR dX2_joinWithNext_36 fl_X2_45 rfl (by first | exact cm_tow cm | exact cm_ctow cm (by omega) | assumption) ?_
                refine e_iload_n dX2_joinWithNext_39 rfl rfl ?_
                refine e_iconst (v := nI 1) dX2_joinWithNext_40 rfl ?_
                first | ((with_reducible refine mk_nn ?_); refine n_iadd dX2_joinWithNext_41 ?_) | refine e_iadd dX2_joinWithNext_41 ?_
                refine e_iadE _ dX2_joinWithNext_42 ⟨by decide, by decide⟩ rfl rfl (by simp only [lenK]; omega) (by first | exact k_ow hK (by first | omega | (simp (disch := omega) only [upN_n, upN_s]; omega)) | exact k_cow hK (by omega) (by first | omega | (simp (disch := omega) only [upN_n, upN_s]; omega)) | assumption) ?_
                first | ((with_reducible refine mk_mo ?_); refine p_icmp_eq (tgt := 48) dX2_joinWithNext_43 (by decide) (fun h43 => ?_) (fun h43 => ?_)) | ((with_reducible refine mk_ms ?_); refine s_icmp_eq (tgt := 48) dX2_joinWithNext_43 (by decide) (by omega) (fun h43 => ?_) (fun h43 => ?_)) | ((with_reducible refine mk_mn ?_); refine q_icmp_eq (tgt := 48) dX2_joinWithNext_43 (by decide) (by omega) (fun h43 => ?_) (fun h43 => ?_)) | ((with_reducible refine mk_nn ?_); refine n_icmp_eq (tgt := 48) dX2_joinWithNext_43 (by decide) (by omega) (by omega) (fun h43 => ?_) (fun h43 => ?_)) | refine e_icmp_eq (tgt := 48) dX2_joinWithNext_43 (by decide) (fun h43 => ?_) (fun h43 => ?_)
                · try first | contradiction | omega
                  all_goals
                    omega
                · try first | contradiction | omega
                  all_goals
                    refine e_iconst (v := -1) dX2_joinWithNext_46 rfl ?_
                    refine e_ret (some _) rfl (r_int dX2_joinWithNext_47 rfl) ?_
                    exact kq rfl hF hK
theorem ct_X2_cutInMiddle {fi : FI} {fr : FR} {ai : FI} {ar : FR} {N : Nat} {w lg : Nat → Nat} (cm : CM fr ar) (iv : Inv w) (hK : K fi ai w lg (w 0)) (h01 : w 0 < 1999) (x : Int32) : CP mX2_cutInMiddle 3 0 0 [.ref (rf 2 72), .int x] fi fr ai ar N (kQ (some (.int (mdlR w x))) fi fr ai ar N (fun fi ai => K fi ai (mdlW w x) (mdlL lg w x) (mdlW w x 0))) := by
  have h1 := iv_n iv
  have h3 := iv_mm iv
  have bd := Bd_iv iv
  have hF : FR1 fi ai fi ai := FR1_rf
  change EV mX2_cutInMiddle 3 0 0 0 [some (.ref (rf 2 72)), some (.int x), none, none] [] fi fr ai ar N (kQ (some (.int (mdlR w x))) fi fr ai ar N (fun fi ai => K fi ai (mdlW w x) (mdlL lg w x) (mdlW w x 0)))
  cases hq : nmO w x with
  | none =>
    have e0 : mdlO w x = none := by unfold mdlO; rw [hq]
    have e1 : mdlR w x = -1 := by unfold mdlR; rw [e0]
    have e2 : mdlW w x = w := by unfold mdlW; rw [e0]
    have e3 : mdlL lg w x = lg := by unfold mdlL; rw [e0]
    rw [e1, e2, e3]
    refine e_aload_n dX2_cutInMiddle_0 rfl rfl ?_
    refine e_getR dX2_cutInMiddle_1 fl_X2_9 rfl (cc_w cm) ?_
    refine e_getR dX2_cutInMiddle_4 fl_X2_23 rfl (cm_map cm) ?_
    refine e_iload_n dX2_cutInMiddle_7 rfl rfl ?_
    refine x_V1 (M' := mX8_indexOfLow) dX2_cutInMiddle_8 ml_X2_29 ok_X8_indexOfLow (by decide) rfl im_X8_indexOfLow se_X8_indexOfLow (ct_X8_indexOfLow cm iv hK _) (Nat.le_of_ble_eq_true rfl) (by decide) (Nat.le_of_ble_eq_true rfl) ?_
    rw [hq]
    refine e_istore_n dX2_cutInMiddle_11 rfl (Nat.le_of_ble_eq_true rfl) rfl ?_
    refine e_iload_n dX2_cutInMiddle_12 rfl rfl ?_
    refine e_iconst (v := -1) dX2_cutInMiddle_13 rfl ?_
    first | ((with_reducible refine mk_mo ?_); refine p_icmp_ne (tgt := 19) dX2_cutInMiddle_14 (by decide) (fun h14 => ?_) (fun h14 => ?_)) | ((with_reducible refine mk_ms ?_); refine s_icmp_ne (tgt := 19) dX2_cutInMiddle_14 (by decide) (by omega) (fun h14 => ?_) (fun h14 => ?_)) | ((with_reducible refine mk_mn ?_); refine q_icmp_ne (tgt := 19) dX2_cutInMiddle_14 (by decide) (by omega) (fun h14 => ?_) (fun h14 => ?_)) | ((with_reducible refine mk_nn ?_); refine n_icmp_ne (tgt := 19) dX2_cutInMiddle_14 (by decide) (by omega) (by omega) (fun h14 => ?_) (fun h14 => ?_)) | refine e_icmp_ne (tgt := 19) dX2_cutInMiddle_14 (by decide) (fun h14 => ?_) (fun h14 => ?_)
    · try first | contradiction | omega
      all_goals
        contradiction
    · try first | contradiction | omega
      all_goals
        refine e_iconst (v := -1) dX2_cutInMiddle_17 rfl ?_
        refine e_ret (some _) rfl (r_int dX2_cutInMiddle_18 rfl) ?_
        exact kq rfl hF hK
  | some i =>
    obtain ⟨hi, hx⟩ := nm_some iv hq
    have he := enF_le iv hi
    cases hm : mdO w i with
    | none =>
      have e0 : mdlO w x = none := by unfold mdlO; rw [hq]; show (match mdO w i with | none => none | some k => some (i, k)) = none; rw [hm]
      have e1 : mdlR w x = -1 := by unfold mdlR; rw [e0]
      have e2 : mdlW w x = w := by unfold mdlW; rw [e0]
      have e3 : mdlL lg w x = lg := by unfold mdlL; rw [e0]
      rw [e1, e2, e3]
      refine e_aload_n dX2_cutInMiddle_0 rfl rfl ?_
      refine e_getR dX2_cutInMiddle_1 fl_X2_9 rfl (cc_w cm) ?_
      refine e_getR dX2_cutInMiddle_4 fl_X2_23 rfl (cm_map cm) ?_
      refine e_iload_n dX2_cutInMiddle_7 rfl rfl ?_
      refine x_V1 (M' := mX8_indexOfLow) dX2_cutInMiddle_8 ml_X2_29 ok_X8_indexOfLow (by decide) rfl im_X8_indexOfLow se_X8_indexOfLow (ct_X8_indexOfLow cm iv hK _) (Nat.le_of_ble_eq_true rfl) (by decide) (Nat.le_of_ble_eq_true rfl) ?_
      rw [hq, oI_s]
      refine e_istore_n dX2_cutInMiddle_11 rfl (Nat.le_of_ble_eq_true rfl) rfl ?_
      refine e_iload_n dX2_cutInMiddle_12 rfl rfl ?_
      refine e_iconst (v := -1) dX2_cutInMiddle_13 rfl ?_
      first | ((with_reducible refine mk_mo ?_); refine p_icmp_ne (tgt := 19) dX2_cutInMiddle_14 (by decide) (fun h14 => ?_) (fun h14 => ?_)) | ((with_reducible refine mk_ms ?_); refine s_icmp_ne (tgt := 19) dX2_cutInMiddle_14 (by decide) (by omega) (fun h14 => ?_) (fun h14 => ?_)) | ((with_reducible refine mk_mn ?_); refine q_icmp_ne (tgt := 19) dX2_cutInMiddle_14 (by decide) (by omega) (fun h14 => ?_) (fun h14 => ?_)) | ((with_reducible refine mk_nn ?_); refine n_icmp_ne (tgt := 19) dX2_cutInMiddle_14 (by decide) (by omega) (by omega) (fun h14 => ?_) (fun h14 => ?_)) | refine e_icmp_ne (tgt := 19) dX2_cutInMiddle_14 (by decide) (fun h14 => ?_) (fun h14 => ?_)
      · try first | contradiction | omega
        all_goals
          refine e_aload_n dX2_cutInMiddle_19 rfl rfl ?_
          refine e_getR dX2_cutInMiddle_20 fl_X2_19 rfl (cc_p cm) ?_
          refine e_aload_n dX2_cutInMiddle_23 rfl rfl ?_
          refine e_getR dX2_cutInMiddle_24 fl_X2_9 rfl (cc_w cm) ?_
          refine ky_V1 (M' := mX6_take) dX2_cutInMiddle_27 ml_X2_70 ok_X6_take (by decide) rfl im_X6_take se_X6_take (ct_X6_take cm iv hK) (Nat.le_of_ble_eq_true rfl) (by decide) (Nat.le_of_ble_eq_true rfl) (fun fi ai hG hKP => ?_)
          have hF := FR1_tr hF hG
          have hK := hKP.1
          have hP := hKP.2
          refine e_aload_n dX2_cutInMiddle_30 rfl rfl ?_
          refine e_getR dX2_cutInMiddle_31 fl_X2_19 rfl (cc_p cm) ?_
          refine e_iload_n dX2_cutInMiddle_34 rfl rfl ?_
          refine x_V1 (M' := mX6_middleIn) dX2_cutInMiddle_35 ml_X2_76 ok_X6_middleIn (by decide) rfl im_X6_middleIn se_X6_middleIn (ct_X6_middleIn cm iv hP (by omega)) (Nat.le_of_ble_eq_true rfl) (by decide) (Nat.le_of_ble_eq_true rfl) ?_
          rw [hm]
          refine e_istore_n dX2_cutInMiddle_38 rfl (Nat.le_of_ble_eq_true rfl) rfl ?_
          refine e_iload_n dX2_cutInMiddle_39 rfl rfl ?_
          refine e_iconst (v := -1) dX2_cutInMiddle_40 rfl ?_
          first | ((with_reducible refine mk_mo ?_); refine p_icmp_eq (tgt := 54) dX2_cutInMiddle_41 (by decide) (fun h41 => ?_) (fun h41 => ?_)) | ((with_reducible refine mk_ms ?_); refine s_icmp_eq (tgt := 54) dX2_cutInMiddle_41 (by decide) (by omega) (fun h41 => ?_) (fun h41 => ?_)) | ((with_reducible refine mk_mn ?_); refine q_icmp_eq (tgt := 54) dX2_cutInMiddle_41 (by decide) (by omega) (fun h41 => ?_) (fun h41 => ?_)) | ((with_reducible refine mk_nn ?_); refine n_icmp_eq (tgt := 54) dX2_cutInMiddle_41 (by decide) (by omega) (by omega) (fun h41 => ?_) (fun h41 => ?_)) | refine e_icmp_eq (tgt := 54) dX2_cutInMiddle_41 (by decide) (fun h41 => ?_) (fun h41 => ?_)
          · try first | contradiction | omega
            all_goals
              refine e_iconst (v := -1) dX2_cutInMiddle_54 rfl ?_
              refine e_ret (some _) rfl (r_int dX2_cutInMiddle_55 rfl) ?_
              exact kq rfl hF hK
          · try first | contradiction | omega
            all_goals
              contradiction
      · try first | contradiction | omega
        all_goals
          contradiction
    | some k =>
      have hmk := mdO_in iv hi hm
      have e0 : mdlO w x = some (i, k) := by unfold mdlO; rw [hq]; show (match mdO w i with | none => none | some k => some (i, k)) = _; rw [hm]
      have e1 : mdlR w x = sptR w (some i) (nI k) (nI k) := by unfold mdlR; rw [e0]
      have e2 : mdlW w x = sptW w (some i) (nI k) := by unfold mdlW; rw [e0]
      have e3 : mdlL lg w x = sptL lg w (some i) (nI k) := by unfold mdlL; rw [e0]
      rw [e1, e2, e3]
      cases hcs : csB w i (nI k) with
      | false =>
        have g1 : sptR w (some i) (nI k) (nI k) = -1 := by rw [sptR_s, hcs]; rfl
        have g2 : sptR w (some i) (nI k) (-1) = -1 := by rw [sptR_s, hcs]; rfl
        rw [g1]
        refine e_aload_n dX2_cutInMiddle_0 rfl rfl ?_
        refine e_getR dX2_cutInMiddle_1 fl_X2_9 rfl (cc_w cm) ?_
        refine e_getR dX2_cutInMiddle_4 fl_X2_23 rfl (cm_map cm) ?_
        refine e_iload_n dX2_cutInMiddle_7 rfl rfl ?_
        refine x_V1 (M' := mX8_indexOfLow) dX2_cutInMiddle_8 ml_X2_29 ok_X8_indexOfLow (by decide) rfl im_X8_indexOfLow se_X8_indexOfLow (ct_X8_indexOfLow cm iv hK _) (Nat.le_of_ble_eq_true rfl) (by decide) (Nat.le_of_ble_eq_true rfl) ?_
        rw [hq, oI_s]
        refine e_istore_n dX2_cutInMiddle_11 rfl (Nat.le_of_ble_eq_true rfl) rfl ?_
        refine e_iload_n dX2_cutInMiddle_12 rfl rfl ?_
        refine e_iconst (v := -1) dX2_cutInMiddle_13 rfl ?_
        first | ((with_reducible refine mk_mo ?_); refine p_icmp_ne (tgt := 19) dX2_cutInMiddle_14 (by decide) (fun h14 => ?_) (fun h14 => ?_)) | ((with_reducible refine mk_ms ?_); refine s_icmp_ne (tgt := 19) dX2_cutInMiddle_14 (by decide) (by omega) (fun h14 => ?_) (fun h14 => ?_)) | ((with_reducible refine mk_mn ?_); refine q_icmp_ne (tgt := 19) dX2_cutInMiddle_14 (by decide) (by omega) (fun h14 => ?_) (fun h14 => ?_)) | ((with_reducible refine mk_nn ?_); refine n_icmp_ne (tgt := 19) dX2_cutInMiddle_14 (by decide) (by omega) (by omega) (fun h14 => ?_) (fun h14 => ?_)) | refine e_icmp_ne (tgt := 19) dX2_cutInMiddle_14 (by decide) (fun h14 => ?_) (fun h14 => ?_)
        · try first | contradiction | omega
          all_goals
            refine e_aload_n dX2_cutInMiddle_19 rfl rfl ?_
            refine e_getR dX2_cutInMiddle_20 fl_X2_19 rfl (cc_p cm) ?_
            refine e_aload_n dX2_cutInMiddle_23 rfl rfl ?_
            refine e_getR dX2_cutInMiddle_24 fl_X2_9 rfl (cc_w cm) ?_
            refine ky_V1 (M' := mX6_take) dX2_cutInMiddle_27 ml_X2_70 ok_X6_take (by decide) rfl im_X6_take se_X6_take (ct_X6_take cm iv hK) (Nat.le_of_ble_eq_true rfl) (by decide) (Nat.le_of_ble_eq_true rfl) (fun fi ai hG hKP => ?_)
            have hF := FR1_tr hF hG
            have hK := hKP.1
            have hP := hKP.2
            refine e_aload_n dX2_cutInMiddle_30 rfl rfl ?_
            refine e_getR dX2_cutInMiddle_31 fl_X2_19 rfl (cc_p cm) ?_
            refine e_iload_n dX2_cutInMiddle_34 rfl rfl ?_
            refine x_V1 (M' := mX6_middleIn) dX2_cutInMiddle_35 ml_X2_76 ok_X6_middleIn (by decide) rfl im_X6_middleIn se_X6_middleIn (ct_X6_middleIn cm iv hP (by omega)) (Nat.le_of_ble_eq_true rfl) (by decide) (Nat.le_of_ble_eq_true rfl) ?_
            rw [hm, oI_s]
            refine e_istore_n dX2_cutInMiddle_38 rfl (Nat.le_of_ble_eq_true rfl) rfl ?_
            refine e_iload_n dX2_cutInMiddle_39 rfl rfl ?_
            refine e_iconst (v := -1) dX2_cutInMiddle_40 rfl ?_
            first | ((with_reducible refine mk_mo ?_); refine p_icmp_eq (tgt := 54) dX2_cutInMiddle_41 (by decide) (fun h41 => ?_) (fun h41 => ?_)) | ((with_reducible refine mk_ms ?_); refine s_icmp_eq (tgt := 54) dX2_cutInMiddle_41 (by decide) (by omega) (fun h41 => ?_) (fun h41 => ?_)) | ((with_reducible refine mk_mn ?_); refine q_icmp_eq (tgt := 54) dX2_cutInMiddle_41 (by decide) (by omega) (fun h41 => ?_) (fun h41 => ?_)) | ((with_reducible refine mk_nn ?_); refine n_icmp_eq (tgt := 54) dX2_cutInMiddle_41 (by decide) (by omega) (by omega) (fun h41 => ?_) (fun h41 => ?_)) | refine e_icmp_eq (tgt := 54) dX2_cutInMiddle_41 (by decide) (fun h41 => ?_) (fun h41 => ?_)
            · try first | contradiction | omega
              all_goals
                refine e_iconst (v := -1) dX2_cutInMiddle_54 rfl ?_
                refine e_ret (some _) rfl (r_int dX2_cutInMiddle_55 rfl) ?_
                first | exact kq rfl hF hK | contradiction
            · try first | contradiction | omega
              all_goals
                refine e_aload_n dX2_cutInMiddle_44 rfl rfl ?_
                refine e_iload_n dX2_cutInMiddle_45 rfl rfl ?_
                refine e_iload_n dX2_cutInMiddle_46 rfl rfl ?_
                refine kx_V2 (M' := mX2_cutAt) dX2_cutInMiddle_47 ml_X2_79 ok_X2_cutAt (by decide) rfl im_X2_cutAt se_X2_cutAt (ct_X2_cutAt cm iv hK (by omega) _ _) (Nat.le_of_ble_eq_true rfl) (by decide) (Nat.le_of_ble_eq_true rfl) (fun fi ai hG hK => ?_)
                have hF := FR1_tr hF hG
                rw [hq] at hK
                rw [hq, g2]
                refine e_iconst (v := -1) dX2_cutInMiddle_50 rfl ?_
                first | ((with_reducible refine mk_mo ?_); refine p_icmp_ne (tgt := 56) dX2_cutInMiddle_51 (by decide) (fun h51 => ?_) (fun h51 => ?_)) | ((with_reducible refine mk_ms ?_); refine s_icmp_ne (tgt := 56) dX2_cutInMiddle_51 (by decide) (by omega) (fun h51 => ?_) (fun h51 => ?_)) | ((with_reducible refine mk_mn ?_); refine q_icmp_ne (tgt := 56) dX2_cutInMiddle_51 (by decide) (by omega) (fun h51 => ?_) (fun h51 => ?_)) | ((with_reducible refine mk_nn ?_); refine n_icmp_ne (tgt := 56) dX2_cutInMiddle_51 (by decide) (by omega) (by omega) (fun h51 => ?_) (fun h51 => ?_)) | refine e_icmp_ne (tgt := 56) dX2_cutInMiddle_51 (by decide) (fun h51 => ?_) (fun h51 => ?_)
                · try first | contradiction | omega
                  all_goals
                    exact absurd rfl h51
                · try first | contradiction | omega
                  all_goals
                    refine e_iconst (v := -1) dX2_cutInMiddle_54 rfl ?_
                    refine e_ret (some _) rfl (r_int dX2_cutInMiddle_55 rfl) ?_
                    first | exact kq rfl hF hK | contradiction
        · try first | contradiction | omega
          all_goals
            contradiction
      | true =>
        have g1 : sptR w (some i) (nI k) (nI k) = nI k := by rw [sptR_s, hcs, if_pos rfl, if_neg (nI_m1 (by omega))]
        have g2 : sptR w (some i) (nI k) (-1) = nI (w 0 + 1) := by rw [sptR_s, hcs]; rfl
        rw [g1]
        refine e_aload_n dX2_cutInMiddle_0 rfl rfl ?_
        refine e_getR dX2_cutInMiddle_1 fl_X2_9 rfl (cc_w cm) ?_
        refine e_getR dX2_cutInMiddle_4 fl_X2_23 rfl (cm_map cm) ?_
        refine e_iload_n dX2_cutInMiddle_7 rfl rfl ?_
        refine x_V1 (M' := mX8_indexOfLow) dX2_cutInMiddle_8 ml_X2_29 ok_X8_indexOfLow (by decide) rfl im_X8_indexOfLow se_X8_indexOfLow (ct_X8_indexOfLow cm iv hK _) (Nat.le_of_ble_eq_true rfl) (by decide) (Nat.le_of_ble_eq_true rfl) ?_
        rw [hq, oI_s]
        refine e_istore_n dX2_cutInMiddle_11 rfl (Nat.le_of_ble_eq_true rfl) rfl ?_
        refine e_iload_n dX2_cutInMiddle_12 rfl rfl ?_
        refine e_iconst (v := -1) dX2_cutInMiddle_13 rfl ?_
        first | ((with_reducible refine mk_mo ?_); refine p_icmp_ne (tgt := 19) dX2_cutInMiddle_14 (by decide) (fun h14 => ?_) (fun h14 => ?_)) | ((with_reducible refine mk_ms ?_); refine s_icmp_ne (tgt := 19) dX2_cutInMiddle_14 (by decide) (by omega) (fun h14 => ?_) (fun h14 => ?_)) | ((with_reducible refine mk_mn ?_); refine q_icmp_ne (tgt := 19) dX2_cutInMiddle_14 (by decide) (by omega) (fun h14 => ?_) (fun h14 => ?_)) | ((with_reducible refine mk_nn ?_); refine n_icmp_ne (tgt := 19) dX2_cutInMiddle_14 (by decide) (by omega) (by omega) (fun h14 => ?_) (fun h14 => ?_)) | refine e_icmp_ne (tgt := 19) dX2_cutInMiddle_14 (by decide) (fun h14 => ?_) (fun h14 => ?_)
        · try first | contradiction | omega
          all_goals
            refine e_aload_n dX2_cutInMiddle_19 rfl rfl ?_
            refine e_getR dX2_cutInMiddle_20 fl_X2_19 rfl (cc_p cm) ?_
            refine e_aload_n dX2_cutInMiddle_23 rfl rfl ?_
            refine e_getR dX2_cutInMiddle_24 fl_X2_9 rfl (cc_w cm) ?_
            refine ky_V1 (M' := mX6_take) dX2_cutInMiddle_27 ml_X2_70 ok_X6_take (by decide) rfl im_X6_take se_X6_take (ct_X6_take cm iv hK) (Nat.le_of_ble_eq_true rfl) (by decide) (Nat.le_of_ble_eq_true rfl) (fun fi ai hG hKP => ?_)
            have hF := FR1_tr hF hG
            have hK := hKP.1
            have hP := hKP.2
            refine e_aload_n dX2_cutInMiddle_30 rfl rfl ?_
            refine e_getR dX2_cutInMiddle_31 fl_X2_19 rfl (cc_p cm) ?_
            refine e_iload_n dX2_cutInMiddle_34 rfl rfl ?_
            refine x_V1 (M' := mX6_middleIn) dX2_cutInMiddle_35 ml_X2_76 ok_X6_middleIn (by decide) rfl im_X6_middleIn se_X6_middleIn (ct_X6_middleIn cm iv hP (by omega)) (Nat.le_of_ble_eq_true rfl) (by decide) (Nat.le_of_ble_eq_true rfl) ?_
            rw [hm, oI_s]
            refine e_istore_n dX2_cutInMiddle_38 rfl (Nat.le_of_ble_eq_true rfl) rfl ?_
            refine e_iload_n dX2_cutInMiddle_39 rfl rfl ?_
            refine e_iconst (v := -1) dX2_cutInMiddle_40 rfl ?_
            first | ((with_reducible refine mk_mo ?_); refine p_icmp_eq (tgt := 54) dX2_cutInMiddle_41 (by decide) (fun h41 => ?_) (fun h41 => ?_)) | ((with_reducible refine mk_ms ?_); refine s_icmp_eq (tgt := 54) dX2_cutInMiddle_41 (by decide) (by omega) (fun h41 => ?_) (fun h41 => ?_)) | ((with_reducible refine mk_mn ?_); refine q_icmp_eq (tgt := 54) dX2_cutInMiddle_41 (by decide) (by omega) (fun h41 => ?_) (fun h41 => ?_)) | ((with_reducible refine mk_nn ?_); refine n_icmp_eq (tgt := 54) dX2_cutInMiddle_41 (by decide) (by omega) (by omega) (fun h41 => ?_) (fun h41 => ?_)) | refine e_icmp_eq (tgt := 54) dX2_cutInMiddle_41 (by decide) (fun h41 => ?_) (fun h41 => ?_)
            · try first | contradiction | omega
              all_goals
                contradiction
            · try first | contradiction | omega
              all_goals
                refine e_aload_n dX2_cutInMiddle_44 rfl rfl ?_
                refine e_iload_n dX2_cutInMiddle_45 rfl rfl ?_
                refine e_iload_n dX2_cutInMiddle_46 rfl rfl ?_
                refine kx_V2 (M' := mX2_cutAt) dX2_cutInMiddle_47 ml_X2_79 ok_X2_cutAt (by decide) rfl im_X2_cutAt se_X2_cutAt (ct_X2_cutAt cm iv hK (by omega) _ _) (Nat.le_of_ble_eq_true rfl) (by decide) (Nat.le_of_ble_eq_true rfl) (fun fi ai hG hK => ?_)
                have hF := FR1_tr hF hG
                rw [hq] at hK
                rw [hq, g2]
                refine e_iconst (v := -1) dX2_cutInMiddle_50 rfl ?_
                first | ((with_reducible refine mk_mo ?_); refine p_icmp_ne (tgt := 56) dX2_cutInMiddle_51 (by decide) (fun h51 => ?_) (fun h51 => ?_)) | ((with_reducible refine mk_ms ?_); refine s_icmp_ne (tgt := 56) dX2_cutInMiddle_51 (by decide) (by omega) (fun h51 => ?_) (fun h51 => ?_)) | ((with_reducible refine mk_mn ?_); refine q_icmp_ne (tgt := 56) dX2_cutInMiddle_51 (by decide) (by omega) (fun h51 => ?_) (fun h51 => ?_)) | ((with_reducible refine mk_nn ?_); refine n_icmp_ne (tgt := 56) dX2_cutInMiddle_51 (by decide) (by omega) (by omega) (fun h51 => ?_) (fun h51 => ?_)) | refine e_icmp_ne (tgt := 56) dX2_cutInMiddle_51 (by decide) (fun h51 => ?_) (fun h51 => ?_)
                · try first | contradiction | omega
                  all_goals
                    refine e_iload_n dX2_cutInMiddle_56 rfl rfl ?_
                    refine e_ret (some _) rfl (r_int dX2_cutInMiddle_57 rfl) ?_
                    exact kq rfl hF hK
                · try first | contradiction | omega
                  all_goals
                    contradiction
        · try first | contradiction | omega
          all_goals
            contradiction
