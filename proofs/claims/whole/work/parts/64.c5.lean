theorem ct_X9_valuesAtOwners {fi : FI} {fr : FR} {ai : FI} {ar : FR} {N : Nat} {w lg : Nat → Nat} {E : Nat} (cm : CM fr ar) (iv : Inv w) (hK : K fi ai w lg E)  : CP mX9_valuesAtOwners 1 0 0 [.ref (rf 9 1)] fi fr ai ar N (xQ (some (.int (nI (rs (viF w) 0 (w 1))))) fi fr ai ar N) := by
  have h1 := iv_n iv
  have h3 := iv_mm iv
  have bd := Bd_iv iv
  have hF : FR1 fi ai fi ai := FR1_rf
  change EV mX9_valuesAtOwners 1 0 0 0 [some (.ref (rf 9 1)), none, none] [] fi fr ai ar N (xQ (some (.int (nI (rs (viF w) 0 (w 1))))) fi fr ai ar N)
  have key := ev_up (P := (fun j => EV mX9_valuesAtOwners 1 0 0 4 [some (.ref (rf 9 1)), some (.int (nI (rs (viF w) 0 j))), some (.int (nI j))] [] fi fr ai ar N (xQ (some (.int (nI (rs (viF w) 0 (w 1))))) fi fr ai ar N))) (w 1) (fun j hj ih => by
    have he := enF_le iv hj
    have ho := iv_own iv hj
    refine e_iload_n dX9_valuesAtOwners_4 rfl rfl ?_
    refine e_aload_n dX9_valuesAtOwners_5 rfl rfl ?_
    refine e_getR dX9_valuesAtOwners_6 fl_X9_21 rfl (cm_map cm) ?_
    refine e_getE dX9_valuesAtOwners_9 fl_X9_39 rfl (by first | exact k_n hK | exact k_cn hK (by first | omega | (simp (disch := omega) only [upN_n, upN_s]; omega)) | assumption) ?_
    first | ((with_reducible refine mk_nn ?_); refine n_icmp_ge (tgt := 54) dX9_valuesAtOwners_12 (by decide) (by omega) (by omega) (fun h12 => ?_) (fun h12 => ?_)) | refine e_icmp_ge (tgt := 54) dX9_valuesAtOwners_12 (by decide) (fun h12 => ?_) (fun h12 => ?_)
    · try first | contradiction | omega
      all_goals
        refine e_iload_n dX9_valuesAtOwners_54 rfl rfl ?_
        refine e_ret (some _) rfl (r_int dX9_valuesAtOwners_55 rfl) ?_
        exact xq (by first | rfl | simp_all [bI_t, bI_f]) rfl rfl rfl rfl rfl
    · try first | contradiction | omega
      all_goals
        refine e_iload_n dX9_valuesAtOwners_15 rfl rfl ?_
        refine e_aload_n dX9_valuesAtOwners_16 rfl rfl ?_
        refine e_aload_n dX9_valuesAtOwners_17 rfl rfl ?_
        refine e_getR dX9_valuesAtOwners_18 fl_X9_21 rfl (cm_map cm) ?_
        refine e_getR dX9_valuesAtOwners_21 fl_X9_79 rfl (by first | exact cm_tow cm | exact cm_ctow cm (by omega) | assumption) ?_
        refine e_iload_n dX9_valuesAtOwners_24 rfl rfl ?_
        refine e_iadE _ dX9_valuesAtOwners_25 ⟨by decide, by decide⟩ rfl rfl (by simp only [lenK]; omega) (by first | exact k_ow hK (by first | omega | (simp (disch := omega) only [upN_n, upN_s]; omega)) | exact k_cow hK (by omega) (by first | omega | (simp (disch := omega) only [upN_n, upN_s]; omega)) | assumption) ?_
        refine e_aload_n dX9_valuesAtOwners_26 rfl rfl ?_
        refine e_getR dX9_valuesAtOwners_27 fl_X9_21 rfl (cm_map cm) ?_
        refine e_getR dX9_valuesAtOwners_30 fl_X9_82 rfl (by first | exact cm_tlo cm | exact cm_ctlo cm (by omega) | assumption) ?_
        refine e_iload_n dX9_valuesAtOwners_33 rfl rfl ?_
        refine e_iadE _ dX9_valuesAtOwners_34 ⟨by decide, by decide⟩ rfl rfl (by simp only [lenK]; omega) (by first | exact k_lo hK (by first | omega | (simp (disch := omega) only [upN_n, upN_s]; omega)) | exact k_clo hK (by omega) (by first | omega | (simp (disch := omega) only [upN_n, upN_s]; omega)) | assumption) ?_
        refine e_aload_n dX9_valuesAtOwners_35 rfl rfl ?_
        refine e_getR dX9_valuesAtOwners_36 fl_X9_21 rfl (cm_map cm) ?_
        refine e_iload_n dX9_valuesAtOwners_39 rfl rfl ?_
        refine x_V1 (M' := mX8_endOf) dX9_valuesAtOwners_40 ml_X9_85 ok_X8_endOf (by decide) rfl im_X8_endOf se_X8_endOf (ct_X8_endOf cm iv hK (by omega)) (Nat.le_of_ble_eq_true rfl) (by decide) (Nat.le_of_ble_eq_true rfl) ?_
        refine x_V3 (M' := mX9_valuesIn) dX9_valuesAtOwners_43 ml_X9_89 ok_X9_valuesIn (by decide) rfl im_X9_valuesIn se_X9_valuesIn (ct_X9_valuesIn cm iv hK (by omega) (by omega) (by omega)) (Nat.le_of_ble_eq_true rfl) (by decide) (Nat.le_of_ble_eq_true rfl) ?_
        first | ((with_reducible refine mk_nn ?_); refine n_iadd dX9_valuesAtOwners_46 ?_) | refine e_iadd dX9_valuesAtOwners_46 ?_
        refine e_istore_n dX9_valuesAtOwners_47 rfl (Nat.le_of_ble_eq_true rfl) rfl ?_
        first | refine n_inc dX9_valuesAtOwners_48 rfl (Nat.le_of_ble_eq_true rfl) rfl ?_ | refine e_iinc dX9_valuesAtOwners_48 rfl rfl (Nat.le_of_ble_eq_true rfl) rfl ?_
        refine e_goto (tgt := 4) dX9_valuesAtOwners_51 (by decide) ?_
        rw [rs_s, Nat.zero_add] at ih
        exact ih
    ) (by
    refine e_iload_n dX9_valuesAtOwners_4 rfl rfl ?_
    refine e_aload_n dX9_valuesAtOwners_5 rfl rfl ?_
    refine e_getR dX9_valuesAtOwners_6 fl_X9_21 rfl (cm_map cm) ?_
    refine e_getE dX9_valuesAtOwners_9 fl_X9_39 rfl (by first | exact k_n hK | exact k_cn hK (by first | omega | (simp (disch := omega) only [upN_n, upN_s]; omega)) | assumption) ?_
    first | ((with_reducible refine mk_nn ?_); refine n_icmp_ge (tgt := 54) dX9_valuesAtOwners_12 (by decide) (by omega) (by omega) (fun h12 => ?_) (fun h12 => ?_)) | refine e_icmp_ge (tgt := 54) dX9_valuesAtOwners_12 (by decide) (fun h12 => ?_) (fun h12 => ?_)
    · try first | contradiction | omega
      all_goals
        refine e_iload_n dX9_valuesAtOwners_54 rfl rfl ?_
        refine e_ret (some _) rfl (r_int dX9_valuesAtOwners_55 rfl) ?_
        exact xq rfl rfl rfl rfl rfl rfl
    · try first | contradiction | omega
      all_goals
        refine e_iload_n dX9_valuesAtOwners_15 rfl rfl ?_
        refine e_aload_n dX9_valuesAtOwners_16 rfl rfl ?_
        refine e_aload_n dX9_valuesAtOwners_17 rfl rfl ?_
        refine e_getR dX9_valuesAtOwners_18 fl_X9_21 rfl (cm_map cm) ?_
        refine e_getR dX9_valuesAtOwners_21 fl_X9_79 rfl (by first | exact cm_tow cm | exact cm_ctow cm (by omega) | assumption) ?_
        refine e_iload_n dX9_valuesAtOwners_24 rfl rfl ?_
        refine e_iadE _ dX9_valuesAtOwners_25 ⟨by decide, by decide⟩ rfl rfl (by simp only [lenK]; omega) (by first | exact k_ow hK (by first | omega | (simp (disch := omega) only [upN_n, upN_s]; omega)) | exact k_cow hK (by omega) (by first | omega | (simp (disch := omega) only [upN_n, upN_s]; omega)) | assumption) ?_
        refine e_aload_n dX9_valuesAtOwners_26 rfl rfl ?_
        refine e_getR dX9_valuesAtOwners_27 fl_X9_21 rfl (cm_map cm) ?_
        refine e_getR dX9_valuesAtOwners_30 fl_X9_82 rfl (by first | exact cm_tlo cm | exact cm_ctlo cm (by omega) | assumption) ?_
        refine e_iload_n dX9_valuesAtOwners_33 rfl rfl ?_
        refine e_iadE _ dX9_valuesAtOwners_34 ⟨by decide, by decide⟩ rfl rfl (by simp only [lenK]; omega) (by first | exact k_lo hK (by first | omega | (simp (disch := omega) only [upN_n, upN_s]; omega)) | exact k_clo hK (by omega) (by first | omega | (simp (disch := omega) only [upN_n, upN_s]; omega)) | assumption) ?_
        refine e_aload_n dX9_valuesAtOwners_35 rfl rfl ?_
        refine e_getR dX9_valuesAtOwners_36 fl_X9_21 rfl (cm_map cm) ?_
        refine e_iload_n dX9_valuesAtOwners_39 rfl rfl ?_
        refine x_V1 (M' := mX8_endOf) dX9_valuesAtOwners_40 ml_X9_85 ok_X8_endOf (by decide) rfl im_X8_endOf se_X8_endOf (ct_X8_endOf cm iv hK (by omega)) (Nat.le_of_ble_eq_true rfl) (by decide) (Nat.le_of_ble_eq_true rfl) ?_
        refine x_V3 (M' := mX9_valuesIn) dX9_valuesAtOwners_43 ml_X9_89 ok_X9_valuesIn (by decide) rfl im_X9_valuesIn se_X9_valuesIn (ct_X9_valuesIn cm iv hK (by omega) (by omega) (by omega)) (Nat.le_of_ble_eq_true rfl) (by decide) (Nat.le_of_ble_eq_true rfl) ?_
        first | ((with_reducible refine mk_nn ?_); refine n_iadd dX9_valuesAtOwners_46 ?_) | refine e_iadd dX9_valuesAtOwners_46 ?_
        refine e_istore_n dX9_valuesAtOwners_47 rfl (Nat.le_of_ble_eq_true rfl) rfl ?_
        first | refine n_inc dX9_valuesAtOwners_48 rfl (Nat.le_of_ble_eq_true rfl) rfl ?_ | refine e_iinc dX9_valuesAtOwners_48 rfl rfl (Nat.le_of_ble_eq_true rfl) rfl ?_
        refine e_goto (tgt := 4) dX9_valuesAtOwners_51 (by decide) ?_
        rw [rs_s, Nat.zero_add] at ih
        exact ih
    )
  refine e_iconst (v := nI 0) dX9_valuesAtOwners_0 rfl ?_
  refine e_istore_n dX9_valuesAtOwners_1 rfl (Nat.le_of_ble_eq_true rfl) rfl ?_
  refine e_iconst (v := nI 0) dX9_valuesAtOwners_2 rfl ?_
  refine e_istore_n dX9_valuesAtOwners_3 rfl (Nat.le_of_ble_eq_true rfl) rfl ?_
  exact key 0 (by omega)
theorem ct_X9_isFrozen {fi : FI} {fr : FR} {ai : FI} {ar : FR} {N : Nat} {w lg : Nat → Nat} {E : Nat} (cm : CM fr ar) (iv : Inv w) (hK : K fi ai w lg E) {l : Nat} (hl : l < 1000) : CP mX9_isFrozen 2 0 0 [.ref (rf 9 1), .int (nI l)] fi fr ai ar N (xQ (some (.int (bI (match mvL w l with | none => false | some m => decide (w (7694 + 72 * m + 0) = 3))))) fi fr ai ar N) := by
  have h1 := iv_n iv
  have h3 := iv_mm iv
  have bd := Bd_iv iv
  have hF : FR1 fi ai fi ai := FR1_rf
  change EV mX9_isFrozen 2 0 0 0 [some (.ref (rf 9 1)), some (.int (nI l)), none] [] fi fr ai ar N (xQ (some (.int (bI (match mvL w l with | none => false | some m => decide (w (7694 + 72 * m + 0) = 3))))) fi fr ai ar N)
  cases hmv : mvL w l with
  | none =>
    refine e_aload_n dX9_isFrozen_0 rfl rfl ?_
    refine e_iload_n dX9_isFrozen_1 rfl rfl ?_
    refine x_V1 (M' := mX9_moveAt) dX9_isFrozen_2 ml_X9_93 ok_X9_moveAt (by decide) rfl im_X9_moveAt se_X9_moveAt (ct_X9_moveAt cm iv hK (by omega)) (Nat.le_of_ble_eq_true rfl) (by decide) (Nat.le_of_ble_eq_true rfl) ?_
    rw [hmv]
    refine e_istore_n dX9_isFrozen_5 rfl (Nat.le_of_ble_eq_true rfl) rfl ?_
    refine e_iload_n dX9_isFrozen_6 rfl rfl ?_
    refine e_iconst (v := -1) dX9_isFrozen_7 rfl ?_
    first | ((with_reducible refine mk_mo ?_); refine p_icmp_eq (tgt := 28) dX9_isFrozen_8 (by decide) (fun h8 => ?_) (fun h8 => ?_)) | ((with_reducible refine mk_ms ?_); refine s_icmp_eq (tgt := 28) dX9_isFrozen_8 (by decide) (by omega) (fun h8 => ?_) (fun h8 => ?_)) | ((with_reducible refine mk_mn ?_); refine q_icmp_eq (tgt := 28) dX9_isFrozen_8 (by decide) (by omega) (fun h8 => ?_) (fun h8 => ?_)) | ((with_reducible refine mk_nn ?_); refine n_icmp_eq (tgt := 28) dX9_isFrozen_8 (by decide) (by omega) (by omega) (fun h8 => ?_) (fun h8 => ?_)) | refine e_icmp_eq (tgt := 28) dX9_isFrozen_8 (by decide) (fun h8 => ?_) (fun h8 => ?_)
    · try first | contradiction | omega
      all_goals
        refine e_iconst (v := nI 0) dX9_isFrozen_28 rfl ?_
        first | ((with_reducible refine mk_b ?_); refine e_ret (some _) rfl (r_bool dX9_isFrozen_29 rfl) ?_) | ((with_reducible refine mk_n1 ?_); refine e_ret (some _) rfl (r_b1 dX9_isFrozen_29 rfl) ?_) | ((with_reducible refine mk_n0 ?_); refine e_ret (some _) rfl (r_b0 dX9_isFrozen_29 rfl) ?_)
        exact xq (by first | rfl | simp_all [bI_t, bI_f]) rfl rfl rfl rfl rfl
    · try first | contradiction | omega
      all_goals
        refine e_aload_n dX9_isFrozen_11 rfl rfl ?_
        refine e_getR dX9_isFrozen_12 fl_X9_31 rfl (cm_mvs cm) ?_
        refine e_iload_n dX9_isFrozen_15 rfl rfl ?_
        refine e_aald _ dX9_isFrozen_16 ⟨by decide, by decide⟩ rfl rfl (by simp only [lenK]; omega) (cm_mo cm (by omega)) ?_
        refine e_getE dX9_isFrozen_17 fl_X9_109 rfl (k_m2 hK (by first | omega | (simp (disch := omega) only [upN_n, upN_s]; omega))) ?_
        refine e_iconst (v := nI 3) dX9_isFrozen_20 rfl ?_
        first | ((with_reducible refine mk_mo ?_); refine p_icmp_ne (tgt := 28) dX9_isFrozen_21 (by decide) (fun h21 => ?_) (fun h21 => ?_)) | ((with_reducible refine mk_ms ?_); refine s_icmp_ne (tgt := 28) dX9_isFrozen_21 (by decide) (by omega) (fun h21 => ?_) (fun h21 => ?_)) | ((with_reducible refine mk_mn ?_); refine q_icmp_ne (tgt := 28) dX9_isFrozen_21 (by decide) (by omega) (fun h21 => ?_) (fun h21 => ?_)) | ((with_reducible refine mk_nn ?_); refine n_icmp_ne (tgt := 28) dX9_isFrozen_21 (by decide) (by omega) (by omega) (fun h21 => ?_) (fun h21 => ?_)) | refine e_icmp_ne (tgt := 28) dX9_isFrozen_21 (by decide) (fun h21 => ?_) (fun h21 => ?_)
        · try first | contradiction | omega
          all_goals
            refine e_iconst (v := nI 0) dX9_isFrozen_28 rfl ?_
            first | ((with_reducible refine mk_b ?_); refine e_ret (some _) rfl (r_bool dX9_isFrozen_29 rfl) ?_) | ((with_reducible refine mk_n1 ?_); refine e_ret (some _) rfl (r_b1 dX9_isFrozen_29 rfl) ?_) | ((with_reducible refine mk_n0 ?_); refine e_ret (some _) rfl (r_b0 dX9_isFrozen_29 rfl) ?_)
            exact xq (by first | rfl | simp_all [bI_t, bI_f]) rfl rfl rfl rfl rfl
        · try first | contradiction | omega
          all_goals
            refine e_iconst (v := nI 1) dX9_isFrozen_24 rfl ?_
            refine e_goto (tgt := 29) dX9_isFrozen_25 (by decide) ?_
            first | ((with_reducible refine mk_b ?_); refine e_ret (some _) rfl (r_bool dX9_isFrozen_29 rfl) ?_) | ((with_reducible refine mk_n1 ?_); refine e_ret (some _) rfl (r_b1 dX9_isFrozen_29 rfl) ?_) | ((with_reducible refine mk_n0 ?_); refine e_ret (some _) rfl (r_b0 dX9_isFrozen_29 rfl) ?_)
            exact xq (by first | rfl | simp_all [bI_t, bI_f]) rfl rfl rfl rfl rfl
  | some m =>
    have hm := mvL_lt hmv
    have hq := iv_mv iv hm
    refine e_aload_n dX9_isFrozen_0 rfl rfl ?_
    refine e_iload_n dX9_isFrozen_1 rfl rfl ?_
    refine x_V1 (M' := mX9_moveAt) dX9_isFrozen_2 ml_X9_93 ok_X9_moveAt (by decide) rfl im_X9_moveAt se_X9_moveAt (ct_X9_moveAt cm iv hK (by omega)) (Nat.le_of_ble_eq_true rfl) (by decide) (Nat.le_of_ble_eq_true rfl) ?_
    rw [hmv, oI_s]
    refine e_istore_n dX9_isFrozen_5 rfl (Nat.le_of_ble_eq_true rfl) rfl ?_
    refine e_iload_n dX9_isFrozen_6 rfl rfl ?_
    refine e_iconst (v := -1) dX9_isFrozen_7 rfl ?_
    first | ((with_reducible refine mk_mo ?_); refine p_icmp_eq (tgt := 28) dX9_isFrozen_8 (by decide) (fun h8 => ?_) (fun h8 => ?_)) | ((with_reducible refine mk_ms ?_); refine s_icmp_eq (tgt := 28) dX9_isFrozen_8 (by decide) (by omega) (fun h8 => ?_) (fun h8 => ?_)) | ((with_reducible refine mk_mn ?_); refine q_icmp_eq (tgt := 28) dX9_isFrozen_8 (by decide) (by omega) (fun h8 => ?_) (fun h8 => ?_)) | ((with_reducible refine mk_nn ?_); refine n_icmp_eq (tgt := 28) dX9_isFrozen_8 (by decide) (by omega) (by omega) (fun h8 => ?_) (fun h8 => ?_)) | refine e_icmp_eq (tgt := 28) dX9_isFrozen_8 (by decide) (fun h8 => ?_) (fun h8 => ?_)
    · try first | contradiction | omega
      all_goals
        refine e_iconst (v := nI 0) dX9_isFrozen_28 rfl ?_
        first | ((with_reducible refine mk_b ?_); refine e_ret (some _) rfl (r_bool dX9_isFrozen_29 rfl) ?_) | ((with_reducible refine mk_n1 ?_); refine e_ret (some _) rfl (r_b1 dX9_isFrozen_29 rfl) ?_) | ((with_reducible refine mk_n0 ?_); refine e_ret (some _) rfl (r_b0 dX9_isFrozen_29 rfl) ?_)
        refine xq ?_ rfl rfl rfl rfl rfl
        show _ = some (Value.int (bI (decide (w (7694 + 72 * m + 0) = 3))))
        first | (rw [show decide (w (7694 + 72 * m + 0) = 3) = true from decide_eq_true (by omega)]; rfl) | (rw [show decide (w (7694 + 72 * m + 0) = 3) = false from decide_eq_false (by omega)]; rfl)
    · try first | contradiction | omega
      all_goals
        refine e_aload_n dX9_isFrozen_11 rfl rfl ?_
        refine e_getR dX9_isFrozen_12 fl_X9_31 rfl (cm_mvs cm) ?_
        refine e_iload_n dX9_isFrozen_15 rfl rfl ?_
        refine e_aald _ dX9_isFrozen_16 ⟨by decide, by decide⟩ rfl rfl (by simp only [lenK]; omega) (cm_mo cm (by omega)) ?_
        refine e_getE dX9_isFrozen_17 fl_X9_109 rfl (k_m2 hK (by first | omega | (simp (disch := omega) only [upN_n, upN_s]; omega))) ?_
        refine e_iconst (v := nI 3) dX9_isFrozen_20 rfl ?_
        first | ((with_reducible refine mk_mo ?_); refine p_icmp_ne (tgt := 28) dX9_isFrozen_21 (by decide) (fun h21 => ?_) (fun h21 => ?_)) | ((with_reducible refine mk_ms ?_); refine s_icmp_ne (tgt := 28) dX9_isFrozen_21 (by decide) (by omega) (fun h21 => ?_) (fun h21 => ?_)) | ((with_reducible refine mk_mn ?_); refine q_icmp_ne (tgt := 28) dX9_isFrozen_21 (by decide) (by omega) (fun h21 => ?_) (fun h21 => ?_)) | ((with_reducible refine mk_nn ?_); refine n_icmp_ne (tgt := 28) dX9_isFrozen_21 (by decide) (by omega) (by omega) (fun h21 => ?_) (fun h21 => ?_)) | refine e_icmp_ne (tgt := 28) dX9_isFrozen_21 (by decide) (fun h21 => ?_) (fun h21 => ?_)
        · try first | contradiction | omega
          all_goals
            refine e_iconst (v := nI 0) dX9_isFrozen_28 rfl ?_
            first | ((with_reducible refine mk_b ?_); refine e_ret (some _) rfl (r_bool dX9_isFrozen_29 rfl) ?_) | ((with_reducible refine mk_n1 ?_); refine e_ret (some _) rfl (r_b1 dX9_isFrozen_29 rfl) ?_) | ((with_reducible refine mk_n0 ?_); refine e_ret (some _) rfl (r_b0 dX9_isFrozen_29 rfl) ?_)
            refine xq ?_ rfl rfl rfl rfl rfl
            show _ = some (Value.int (bI (decide (w (7694 + 72 * m + 0) = 3))))
            first | (rw [show decide (w (7694 + 72 * m + 0) = 3) = true from decide_eq_true (by omega)]; rfl) | (rw [show decide (w (7694 + 72 * m + 0) = 3) = false from decide_eq_false (by omega)]; rfl)
        · try first | contradiction | omega
          all_goals
            refine e_iconst (v := nI 1) dX9_isFrozen_24 rfl ?_
            refine e_goto (tgt := 29) dX9_isFrozen_25 (by decide) ?_
            first | ((with_reducible refine mk_b ?_); refine e_ret (some _) rfl (r_bool dX9_isFrozen_29 rfl) ?_) | ((with_reducible refine mk_n1 ?_); refine e_ret (some _) rfl (r_b1 dX9_isFrozen_29 rfl) ?_) | ((with_reducible refine mk_n0 ?_); refine e_ret (some _) rfl (r_b0 dX9_isFrozen_29 rfl) ?_)
            refine xq ?_ rfl rfl rfl rfl rfl
            show _ = some (Value.int (bI (decide (w (7694 + 72 * m + 0) = 3))))
            first | (rw [show decide (w (7694 + 72 * m + 0) = 3) = true from decide_eq_true (by omega)]; rfl) | (rw [show decide (w (7694 + 72 * m + 0) = 3) = false from decide_eq_false (by omega)]; rfl)
theorem ct_X9_spansFrozen {fi : FI} {fr : FR} {ai : FI} {ar : FR} {N : Nat} {w lg : Nat → Nat} {E : Nat} (cm : CM fr ar) (iv : Inv w) (hK : K fi ai w lg E)  : CP mX9_spansFrozen 3 0 0 [.ref (rf 9 1)] fi fr ai ar N (xQ (some (.int (nI (cnt (fzS w) (w 1))))) fi fr ai ar N) := by
  have h1 := iv_n iv
  have h3 := iv_mm iv
  have bd := Bd_iv iv
  have hF : FR1 fi ai fi ai := FR1_rf
  change EV mX9_spansFrozen 3 0 0 0 [some (.ref (rf 9 1)), none, none] [] fi fr ai ar N (xQ (some (.int (nI (cnt (fzS w) (w 1))))) fi fr ai ar N)
  have key := ev_up (P := (fun j => EV mX9_spansFrozen 3 0 0 4 [some (.ref (rf 9 1)), some (.int (nI (cnt (fzS w) j))), some (.int (nI j))] [] fi fr ai ar N (xQ (some (.int (nI (cnt (fzS w) (w 1))))) fi fr ai ar N))) (w 1) (fun j hj ih => by
    have hl := iv_low iv hj
    have e : (match mvL w (w (10 + j)) with | none => false | some m => decide (w (7694 + 72 * m + 0) = 3)) = fzS w j := rfl
    refine e_iload_n dX9_spansFrozen_4 rfl rfl ?_
    refine e_aload_n dX9_spansFrozen_5 rfl rfl ?_
    refine e_getR dX9_spansFrozen_6 fl_X9_21 rfl (cm_map cm) ?_
    refine e_getE dX9_spansFrozen_9 fl_X9_39 rfl (by first | exact k_n hK | exact k_cn hK (by first | omega | (simp (disch := omega) only [upN_n, upN_s]; omega)) | assumption) ?_
    first | ((with_reducible refine mk_nn ?_); refine n_icmp_ge (tgt := 40) dX9_spansFrozen_12 (by decide) (by omega) (by omega) (fun h12 => ?_) (fun h12 => ?_)) | refine e_icmp_ge (tgt := 40) dX9_spansFrozen_12 (by decide) (fun h12 => ?_) (fun h12 => ?_)
    · try first | contradiction | omega
      all_goals
        refine e_iload_n dX9_spansFrozen_40 rfl rfl ?_
        refine e_ret (some _) rfl (r_int dX9_spansFrozen_41 rfl) ?_
        exact xq (by first | rfl | simp_all [bI_t, bI_f]) rfl rfl rfl rfl rfl
    · try first | contradiction | omega
      all_goals
        refine e_aload_n dX9_spansFrozen_15 rfl rfl ?_
        refine e_aload_n dX9_spansFrozen_16 rfl rfl ?_
        refine e_getR dX9_spansFrozen_17 fl_X9_21 rfl (cm_map cm) ?_
        refine e_getR dX9_spansFrozen_20 fl_X9_82 rfl (by first | exact cm_tlo cm | exact cm_ctlo cm (by omega) | assumption) ?_
        refine e_iload_n dX9_spansFrozen_23 rfl rfl ?_
        refine e_iadE _ dX9_spansFrozen_24 ⟨by decide, by decide⟩ rfl rfl (by simp only [lenK]; omega) (by first | exact k_lo hK (by first | omega | (simp (disch := omega) only [upN_n, upN_s]; omega)) | exact k_clo hK (by omega) (by first | omega | (simp (disch := omega) only [upN_n, upN_s]; omega)) | assumption) ?_
        refine x_V1 (M' := mX9_isFrozen) dX9_spansFrozen_25 ml_X9_112 ok_X9_isFrozen (by decide) rfl im_X9_isFrozen se_X9_isFrozen (ct_X9_isFrozen cm iv hK (by omega)) (Nat.le_of_ble_eq_true rfl) (by decide) (Nat.le_of_ble_eq_true rfl) ?_
        first | ((with_reducible refine mk_b ?_); refine b_if_eq (tgt := 34) dX9_spansFrozen_28 (by decide) (fun h28 => ?_) (fun h28 => ?_)) | ((with_reducible refine mk_ll ?_); refine m_if_eq (tgt := 34) dX9_spansFrozen_28 (by decide) (by omega) (by omega) (fun h28 => ?_) (fun h28 => ?_)) | ((with_reducible refine mk_lc ?_); refine l_if_eq (tgt := 34) dX9_spansFrozen_28 (by decide) (fun h28 => ?_) (fun h28 => ?_)) | ((with_reducible refine mk_n ?_); refine n_if_eq (tgt := 34) dX9_spansFrozen_28 (by decide) (by omega) (fun h28 => ?_) (fun h28 => ?_)) | refine e_if_eq (tgt := 34) dX9_spansFrozen_28 (by decide) (fun h28 => ?_) (fun h28 => ?_)
        · try first | contradiction | omega | (simp only [decide_eq_true_eq, decide_eq_false_iff_not] at h28; omega)
          all_goals
            first | refine n_inc dX9_spansFrozen_34 rfl (Nat.le_of_ble_eq_true rfl) rfl ?_ | refine e_iinc dX9_spansFrozen_34 rfl rfl (Nat.le_of_ble_eq_true rfl) rfl ?_
            refine e_goto (tgt := 4) dX9_spansFrozen_37 (by decide) ?_
            first | (rw [cnt_t (n := j) (p := fzS w) (by first | (rw [e] at *; assumption) | (rw [← e]; assumption) | assumption)] at ih; exact ih) | (rw [cnt_f (n := j) (p := fzS w) (by first | (rw [e] at *; assumption) | (rw [← e]; assumption) | assumption)] at ih; exact ih)
        · try first | contradiction | omega | (simp only [decide_eq_true_eq, decide_eq_false_iff_not] at h28; omega)
          all_goals
            first | refine n_inc dX9_spansFrozen_31 rfl (Nat.le_of_ble_eq_true rfl) rfl ?_ | refine e_iinc dX9_spansFrozen_31 rfl rfl (Nat.le_of_ble_eq_true rfl) rfl ?_
            first | refine n_inc dX9_spansFrozen_34 rfl (Nat.le_of_ble_eq_true rfl) rfl ?_ | refine e_iinc dX9_spansFrozen_34 rfl rfl (Nat.le_of_ble_eq_true rfl) rfl ?_
            refine e_goto (tgt := 4) dX9_spansFrozen_37 (by decide) ?_
            first | (rw [cnt_t (n := j) (p := fzS w) (by first | (rw [e] at *; assumption) | (rw [← e]; assumption) | assumption)] at ih; exact ih) | (rw [cnt_f (n := j) (p := fzS w) (by first | (rw [e] at *; assumption) | (rw [← e]; assumption) | assumption)] at ih; exact ih)
    ) (by
    refine e_iload_n dX9_spansFrozen_4 rfl rfl ?_
    refine e_aload_n dX9_spansFrozen_5 rfl rfl ?_
    refine e_getR dX9_spansFrozen_6 fl_X9_21 rfl (cm_map cm) ?_
    refine e_getE dX9_spansFrozen_9 fl_X9_39 rfl (by first | exact k_n hK | exact k_cn hK (by first | omega | (simp (disch := omega) only [upN_n, upN_s]; omega)) | assumption) ?_
    first | ((with_reducible refine mk_nn ?_); refine n_icmp_ge (tgt := 40) dX9_spansFrozen_12 (by decide) (by omega) (by omega) (fun h12 => ?_) (fun h12 => ?_)) | refine e_icmp_ge (tgt := 40) dX9_spansFrozen_12 (by decide) (fun h12 => ?_) (fun h12 => ?_)
    · try first | contradiction | omega
      all_goals
        refine e_iload_n dX9_spansFrozen_40 rfl rfl ?_
        refine e_ret (some _) rfl (r_int dX9_spansFrozen_41 rfl) ?_
        exact xq rfl rfl rfl rfl rfl rfl
    · try first | contradiction | omega
      all_goals
        refine e_aload_n dX9_spansFrozen_15 rfl rfl ?_
        refine e_aload_n dX9_spansFrozen_16 rfl rfl ?_
        refine e_getR dX9_spansFrozen_17 fl_X9_21 rfl (cm_map cm) ?_
        refine e_getR dX9_spansFrozen_20 fl_X9_82 rfl (by first | exact cm_tlo cm | exact cm_ctlo cm (by omega) | assumption) ?_
        refine e_iload_n dX9_spansFrozen_23 rfl rfl ?_
        refine e_iadE _ dX9_spansFrozen_24 ⟨by decide, by decide⟩ rfl rfl (by simp only [lenK]; omega) (by first | exact k_lo hK (by first | omega | (simp (disch := omega) only [upN_n, upN_s]; omega)) | exact k_clo hK (by omega) (by first | omega | (simp (disch := omega) only [upN_n, upN_s]; omega)) | assumption) ?_
        refine x_V1 (M' := mX9_isFrozen) dX9_spansFrozen_25 ml_X9_112 ok_X9_isFrozen (by decide) rfl im_X9_isFrozen se_X9_isFrozen (ct_X9_isFrozen cm iv hK (by omega)) (Nat.le_of_ble_eq_true rfl) (by decide) (Nat.le_of_ble_eq_true rfl) ?_
        first | ((with_reducible refine mk_b ?_); refine b_if_eq (tgt := 34) dX9_spansFrozen_28 (by decide) (fun h28 => ?_) (fun h28 => ?_)) | ((with_reducible refine mk_ll ?_); refine m_if_eq (tgt := 34) dX9_spansFrozen_28 (by decide) (by omega) (by omega) (fun h28 => ?_) (fun h28 => ?_)) | ((with_reducible refine mk_lc ?_); refine l_if_eq (tgt := 34) dX9_spansFrozen_28 (by decide) (fun h28 => ?_) (fun h28 => ?_)) | ((with_reducible refine mk_n ?_); refine n_if_eq (tgt := 34) dX9_spansFrozen_28 (by decide) (by omega) (fun h28 => ?_) (fun h28 => ?_)) | refine e_if_eq (tgt := 34) dX9_spansFrozen_28 (by decide) (fun h28 => ?_) (fun h28 => ?_)
        · try first | contradiction | omega | (simp only [decide_eq_true_eq, decide_eq_false_iff_not] at h28; omega)
          all_goals
            first | refine n_inc dX9_spansFrozen_34 rfl (Nat.le_of_ble_eq_true rfl) rfl ?_ | refine e_iinc dX9_spansFrozen_34 rfl rfl (Nat.le_of_ble_eq_true rfl) rfl ?_
            refine e_goto (tgt := 4) dX9_spansFrozen_37 (by decide) ?_
            first | (rw [cnt_t (n := j) (p := fzS w) (by first | (rw [e] at *; assumption) | (rw [← e]; assumption) | assumption)] at ih; exact ih) | (rw [cnt_f (n := j) (p := fzS w) (by first | (rw [e] at *; assumption) | (rw [← e]; assumption) | assumption)] at ih; exact ih)
        · try first | contradiction | omega | (simp only [decide_eq_true_eq, decide_eq_false_iff_not] at h28; omega)
          all_goals
            first | refine n_inc dX9_spansFrozen_31 rfl (Nat.le_of_ble_eq_true rfl) rfl ?_ | refine e_iinc dX9_spansFrozen_31 rfl rfl (Nat.le_of_ble_eq_true rfl) rfl ?_
            first | refine n_inc dX9_spansFrozen_34 rfl (Nat.le_of_ble_eq_true rfl) rfl ?_ | refine e_iinc dX9_spansFrozen_34 rfl rfl (Nat.le_of_ble_eq_true rfl) rfl ?_
            refine e_goto (tgt := 4) dX9_spansFrozen_37 (by decide) ?_
            first | (rw [cnt_t (n := j) (p := fzS w) (by first | (rw [e] at *; assumption) | (rw [← e]; assumption) | assumption)] at ih; exact ih) | (rw [cnt_f (n := j) (p := fzS w) (by first | (rw [e] at *; assumption) | (rw [← e]; assumption) | assumption)] at ih; exact ih)
    )
  refine e_iconst (v := nI 0) dX9_spansFrozen_0 rfl ?_
  refine e_istore_n dX9_spansFrozen_1 rfl (Nat.le_of_ble_eq_true rfl) rfl ?_
  refine e_iconst (v := nI 0) dX9_spansFrozen_2 rfl ?_
  refine e_istore_n dX9_spansFrozen_3 rfl (Nat.le_of_ble_eq_true rfl) rfl ?_
  exact key 0 (by omega)
theorem ct_X9_bothUp {fi : FI} {fr : FR} {ai : FI} {ar : FR} {N : Nat} {w lg : Nat → Nat} {E : Nat} (cm : CM fr ar) (iv : Inv w) (hK : K fi ai w lg E) {m : Nat} (hm : m < w 3) : CP mX9_bothUp 1 0 0 [.ref (rf 9 1), .ref (rf 4 (34 + 2 * m))] fi fr ai ar N (xQ (some (.int (bI (auB w m)))) fi fr ai ar N) := by
  have h1 := iv_n iv
  have h3 := iv_mm iv
  have bd := Bd_iv iv
  have hF : FR1 fi ai fi ai := FR1_rf
  have hq := iv_mv iv hm
  change EV mX9_bothUp 1 0 0 0 [some (.ref (rf 9 1)), some (.ref (rf 4 (34 + 2 * m)))] [] fi fr ai ar N (xQ (some (.int (bI (auB w m)))) fi fr ai ar N)
  refine e_aload_n dX9_bothUp_0 rfl rfl ?_
  refine e_aload_n dX9_bothUp_1 rfl rfl ?_
  refine e_getE dX9_bothUp_2 fl_X9_96 rfl (k_m5 hK (by first | omega | (simp (disch := omega) only [upN_n, upN_s]; omega))) ?_
  refine x_V1 (M' := mX9_isUp) dX9_bothUp_5 ml_X9_73 ok_X9_isUp (by decide) rfl im_X9_isUp se_X9_isUp (ct_X9_isUp cm iv hK (by omega)) (Nat.le_of_ble_eq_true rfl) (by decide) (Nat.le_of_ble_eq_true rfl) ?_
  first | ((with_reducible refine mk_b ?_); refine b_if_eq (tgt := 26) dX9_bothUp_8 (by decide) (fun h8 => ?_) (fun h8 => ?_)) | ((with_reducible refine mk_ll ?_); refine m_if_eq (tgt := 26) dX9_bothUp_8 (by decide) (by omega) (by omega) (fun h8 => ?_) (fun h8 => ?_)) | ((with_reducible refine mk_lc ?_); refine l_if_eq (tgt := 26) dX9_bothUp_8 (by decide) (fun h8 => ?_) (fun h8 => ?_)) | ((with_reducible refine mk_n ?_); refine n_if_eq (tgt := 26) dX9_bothUp_8 (by decide) (by omega) (fun h8 => ?_) (fun h8 => ?_)) | refine e_if_eq (tgt := 26) dX9_bothUp_8 (by decide) (fun h8 => ?_) (fun h8 => ?_)
  · try first | contradiction | omega | (simp only [decide_eq_true_eq, decide_eq_false_iff_not] at h8; omega)
    all_goals
      refine e_iconst (v := nI 0) dX9_bothUp_26 rfl ?_
      first | ((with_reducible refine mk_b ?_); refine e_ret (some _) rfl (r_bool dX9_bothUp_27 rfl) ?_) | ((with_reducible refine mk_n1 ?_); refine e_ret (some _) rfl (r_b1 dX9_bothUp_27 rfl) ?_) | ((with_reducible refine mk_n0 ?_); refine e_ret (some _) rfl (r_b0 dX9_bothUp_27 rfl) ?_)
      refine xq ?_ rfl rfl rfl rfl rfl
      unfold auB
      simp_all [bI] <;> rfl
  · try first | contradiction | omega | (simp only [decide_eq_true_eq, decide_eq_false_iff_not] at h8; omega)
    all_goals
      refine e_aload_n dX9_bothUp_11 rfl rfl ?_
      refine e_aload_n dX9_bothUp_12 rfl rfl ?_
      refine e_getE dX9_bothUp_13 fl_X9_99 rfl (k_m6 hK (by first | omega | (simp (disch := omega) only [upN_n, upN_s]; omega))) ?_
      refine x_V1 (M' := mX9_isUp) dX9_bothUp_16 ml_X9_73 ok_X9_isUp (by decide) rfl im_X9_isUp se_X9_isUp (ct_X9_isUp cm iv hK (by omega)) (Nat.le_of_ble_eq_true rfl) (by decide) (Nat.le_of_ble_eq_true rfl) ?_
      first | ((with_reducible refine mk_b ?_); refine b_if_eq (tgt := 26) dX9_bothUp_19 (by decide) (fun h19 => ?_) (fun h19 => ?_)) | ((with_reducible refine mk_ll ?_); refine m_if_eq (tgt := 26) dX9_bothUp_19 (by decide) (by omega) (by omega) (fun h19 => ?_) (fun h19 => ?_)) | ((with_reducible refine mk_lc ?_); refine l_if_eq (tgt := 26) dX9_bothUp_19 (by decide) (fun h19 => ?_) (fun h19 => ?_)) | ((with_reducible refine mk_n ?_); refine n_if_eq (tgt := 26) dX9_bothUp_19 (by decide) (by omega) (fun h19 => ?_) (fun h19 => ?_)) | refine e_if_eq (tgt := 26) dX9_bothUp_19 (by decide) (fun h19 => ?_) (fun h19 => ?_)
      · try first | contradiction | omega | (simp only [decide_eq_true_eq, decide_eq_false_iff_not] at h19; omega)
        all_goals
          refine e_iconst (v := nI 0) dX9_bothUp_26 rfl ?_
          first | ((with_reducible refine mk_b ?_); refine e_ret (some _) rfl (r_bool dX9_bothUp_27 rfl) ?_) | ((with_reducible refine mk_n1 ?_); refine e_ret (some _) rfl (r_b1 dX9_bothUp_27 rfl) ?_) | ((with_reducible refine mk_n0 ?_); refine e_ret (some _) rfl (r_b0 dX9_bothUp_27 rfl) ?_)
          refine xq ?_ rfl rfl rfl rfl rfl
          unfold auB
          simp_all [bI] <;> rfl
      · try first | contradiction | omega | (simp only [decide_eq_true_eq, decide_eq_false_iff_not] at h19; omega)
        all_goals
          refine e_iconst (v := nI 1) dX9_bothUp_22 rfl ?_
          refine e_goto (tgt := 27) dX9_bothUp_23 (by decide) ?_
          first | ((with_reducible refine mk_b ?_); refine e_ret (some _) rfl (r_bool dX9_bothUp_27 rfl) ?_) | ((with_reducible refine mk_n1 ?_); refine e_ret (some _) rfl (r_b1 dX9_bothUp_27 rfl) ?_) | ((with_reducible refine mk_n0 ?_); refine e_ret (some _) rfl (r_b0 dX9_bothUp_27 rfl) ?_)
          refine xq ?_ rfl rfl rfl rfl rfl
          unfold auB
          simp_all [bI] <;> rfl
theorem ct_X9_canStep {fi : FI} {fr : FR} {ai : FI} {ar : FR} {N : Nat} {w lg : Nat → Nat} {E : Nat} (cm : CM fr ar) (iv : Inv w) (hK : K fi ai w lg E) (i2 : Inv2 w) (x : Int32) : CP mX9_canStep 2 0 0 [.ref (rf 9 1), .int x] fi fr ai ar N (xQ (some (.int (bI (csT w x)))) fi fr ai ar N) := by
  have h1 := iv_n iv
  have h3 := iv_mm iv
  have bd := Bd_iv iv
  have hF : FR1 fi ai fi ai := FR1_rf
  change EV mX9_canStep 2 0 0 0 [some (.ref (rf 9 1)), some (.int x)] [] fi fr ai ar N (xQ (some (.int (bI (csT w x)))) fi fr ai ar N)
  have hau : ∀ m, m < w 3 → goB w m = true → w (7694 + 72 * m + 7) = 0 → auB w m = true := fun m hm hg hb => by
    obtain ⟨a, b⟩ := (i2.2.1 m hm).2.1 hg hb
    unfold auB
    rw [decide_eq_true a, decide_eq_true b]; rfl
  cases hx : inR x (w 3) with
  | false =>
    have e : csT w x = false := by unfold csT; rw [hx]; rfl
    rw [e]
    refine e_aload_n dX9_canStep_0 rfl rfl ?_
    refine e_iload_n dX9_canStep_1 rfl rfl ?_
    refine x_V1 (M' := mX9_hasMove) dX9_canStep_2 ml_X9_115 ok_X9_hasMove (by decide) rfl im_X9_hasMove se_X9_hasMove (ct_X9_hasMove cm iv hK _) (Nat.le_of_ble_eq_true rfl) (by decide) (Nat.le_of_ble_eq_true rfl) ?_
    rw [hx]
    first | ((with_reducible refine mk_b ?_); refine b_if_eq (tgt := 49) dX9_canStep_5 (by decide) (fun h5 => ?_) (fun h5 => ?_)) | ((with_reducible refine mk_ll ?_); refine m_if_eq (tgt := 49) dX9_canStep_5 (by decide) (by omega) (by omega) (fun h5 => ?_) (fun h5 => ?_)) | ((with_reducible refine mk_lc ?_); refine l_if_eq (tgt := 49) dX9_canStep_5 (by decide) (fun h5 => ?_) (fun h5 => ?_)) | ((with_reducible refine mk_n ?_); refine n_if_eq (tgt := 49) dX9_canStep_5 (by decide) (by omega) (fun h5 => ?_) (fun h5 => ?_)) | refine e_if_eq (tgt := 49) dX9_canStep_5 (by decide) (fun h5 => ?_) (fun h5 => ?_)
    · try first | contradiction | omega | (simp only [decide_eq_true_eq, decide_eq_false_iff_not] at h5; omega)
      all_goals
        refine e_iconst (v := nI 0) dX9_canStep_49 rfl ?_
        refine e_ret (some _) rfl (r_b0 dX9_canStep_50 rfl) ?_
        exact xq rfl rfl rfl rfl rfl rfl
    · try first | contradiction | omega | (simp only [decide_eq_true_eq, decide_eq_false_iff_not] at h5; omega)
      all_goals
        contradiction
  | true =>
    obtain ⟨m, hm, hm2, rfl⟩ := inR_ex hx
    have hcl : (nI m).toNatClampNeg = m := nI_clamp hm2
    have e : csT w (nI m) = (goB w m && decide (w (7694 + 72 * m + 7) = 0)) := by unfold csT; rw [hx, hcl]; rfl
    rw [e]
    have hq := iv_mv iv hm
    have ha := hau m hm
    refine e_aload_n dX9_canStep_0 rfl rfl ?_
    refine e_iload_n dX9_canStep_1 rfl rfl ?_
    refine x_V1 (M' := mX9_hasMove) dX9_canStep_2 ml_X9_115 ok_X9_hasMove (by decide) rfl im_X9_hasMove se_X9_hasMove (ct_X9_hasMove cm iv hK _) (Nat.le_of_ble_eq_true rfl) (by decide) (Nat.le_of_ble_eq_true rfl) ?_
    rw [hx]
    first | ((with_reducible refine mk_b ?_); refine b_if_eq (tgt := 49) dX9_canStep_5 (by decide) (fun h5 => ?_) (fun h5 => ?_)) | ((with_reducible refine mk_ll ?_); refine m_if_eq (tgt := 49) dX9_canStep_5 (by decide) (by omega) (by omega) (fun h5 => ?_) (fun h5 => ?_)) | ((with_reducible refine mk_lc ?_); refine l_if_eq (tgt := 49) dX9_canStep_5 (by decide) (fun h5 => ?_) (fun h5 => ?_)) | ((with_reducible refine mk_n ?_); refine n_if_eq (tgt := 49) dX9_canStep_5 (by decide) (by omega) (fun h5 => ?_) (fun h5 => ?_)) | refine e_if_eq (tgt := 49) dX9_canStep_5 (by decide) (fun h5 => ?_) (fun h5 => ?_)
    · try first | contradiction | omega | (simp only [decide_eq_true_eq, decide_eq_false_iff_not] at h5; omega)
      all_goals
        refine e_iconst (v := nI 0) dX9_canStep_49 rfl ?_
        first | ((with_reducible refine mk_b ?_); refine e_ret (some _) rfl (r_bool dX9_canStep_50 rfl) ?_) | ((with_reducible refine mk_n1 ?_); refine e_ret (some _) rfl (r_b1 dX9_canStep_50 rfl) ?_) | ((with_reducible refine mk_n0 ?_); refine e_ret (some _) rfl (r_b0 dX9_canStep_50 rfl) ?_)
        refine xq ?_ rfl rfl rfl rfl rfl
        simp_all [bI] <;> rfl
    · try first | contradiction | omega | (simp only [decide_eq_true_eq, decide_eq_false_iff_not] at h5; omega)
      all_goals
        refine e_aload_n dX9_canStep_8 rfl rfl ?_
        refine e_getR dX9_canStep_9 fl_X9_31 rfl (cm_mvs cm) ?_
        refine e_iload_n dX9_canStep_12 rfl rfl ?_
        refine e_aald _ dX9_canStep_13 ⟨by decide, by decide⟩ rfl rfl (by simp only [lenK]; omega) (cm_mo cm (by omega)) ?_
        refine x_V0 (M' := mX4_goesOn) dX9_canStep_14 ml_X9_105 ok_X4_goesOn (by decide) rfl im_X4_goesOn se_X4_goesOn (ct_X4_goesOn cm iv hK (by omega)) (Nat.le_of_ble_eq_true rfl) (by decide) (Nat.le_of_ble_eq_true rfl) ?_
        first | ((with_reducible refine mk_b ?_); refine b_if_eq (tgt := 49) dX9_canStep_17 (by decide) (fun h17 => ?_) (fun h17 => ?_)) | ((with_reducible refine mk_ll ?_); refine m_if_eq (tgt := 49) dX9_canStep_17 (by decide) (by omega) (by omega) (fun h17 => ?_) (fun h17 => ?_)) | ((with_reducible refine mk_lc ?_); refine l_if_eq (tgt := 49) dX9_canStep_17 (by decide) (fun h17 => ?_) (fun h17 => ?_)) | ((with_reducible refine mk_n ?_); refine n_if_eq (tgt := 49) dX9_canStep_17 (by decide) (by omega) (fun h17 => ?_) (fun h17 => ?_)) | refine e_if_eq (tgt := 49) dX9_canStep_17 (by decide) (fun h17 => ?_) (fun h17 => ?_)
        · try first | contradiction | omega | (simp only [decide_eq_true_eq, decide_eq_false_iff_not] at h17; omega)
          all_goals
            refine e_iconst (v := nI 0) dX9_canStep_49 rfl ?_
            first | ((with_reducible refine mk_b ?_); refine e_ret (some _) rfl (r_bool dX9_canStep_50 rfl) ?_) | ((with_reducible refine mk_n1 ?_); refine e_ret (some _) rfl (r_b1 dX9_canStep_50 rfl) ?_) | ((with_reducible refine mk_n0 ?_); refine e_ret (some _) rfl (r_b0 dX9_canStep_50 rfl) ?_)
            refine xq ?_ rfl rfl rfl rfl rfl
            simp_all [bI] <;> rfl
        · try first | contradiction | omega | (simp only [decide_eq_true_eq, decide_eq_false_iff_not] at h17; omega)
          all_goals
            refine e_aload_n dX9_canStep_20 rfl rfl ?_
            refine e_getR dX9_canStep_21 fl_X9_31 rfl (cm_mvs cm) ?_
            refine e_iload_n dX9_canStep_24 rfl rfl ?_
            refine e_aald _ dX9_canStep_25 ⟨by decide, by decide⟩ rfl rfl (by simp only [lenK]; omega) (cm_mo cm (by omega)) ?_
            refine e_getE dX9_canStep_26 fl_X9_118 rfl (k_m8 hK (by first | omega | (simp (disch := omega) only [upN_n, upN_s]; omega))) ?_
            first | ((with_reducible refine mk_b ?_); refine b_if_ne (tgt := 49) dX9_canStep_29 (by decide) (fun h29 => ?_) (fun h29 => ?_)) | ((with_reducible refine mk_ll ?_); refine m_if_ne (tgt := 49) dX9_canStep_29 (by decide) (by omega) (by omega) (fun h29 => ?_) (fun h29 => ?_)) | ((with_reducible refine mk_lc ?_); refine l_if_ne (tgt := 49) dX9_canStep_29 (by decide) (fun h29 => ?_) (fun h29 => ?_)) | ((with_reducible refine mk_n ?_); refine n_if_ne (tgt := 49) dX9_canStep_29 (by decide) (by omega) (fun h29 => ?_) (fun h29 => ?_)) | refine e_if_ne (tgt := 49) dX9_canStep_29 (by decide) (fun h29 => ?_) (fun h29 => ?_)
            · try first | contradiction | omega | (simp only [decide_eq_true_eq, decide_eq_false_iff_not] at h29; omega)
              all_goals
                refine e_iconst (v := nI 0) dX9_canStep_49 rfl ?_
                first | ((with_reducible refine mk_b ?_); refine e_ret (some _) rfl (r_bool dX9_canStep_50 rfl) ?_) | ((with_reducible refine mk_n1 ?_); refine e_ret (some _) rfl (r_b1 dX9_canStep_50 rfl) ?_) | ((with_reducible refine mk_n0 ?_); refine e_ret (some _) rfl (r_b0 dX9_canStep_50 rfl) ?_)
                refine xq ?_ rfl rfl rfl rfl rfl
                simp_all [bI] <;> rfl
            · try first | contradiction | omega | (simp only [decide_eq_true_eq, decide_eq_false_iff_not] at h29; omega)
              all_goals
                refine e_aload_n dX9_canStep_32 rfl rfl ?_
                refine e_aload_n dX9_canStep_33 rfl rfl ?_
                refine e_getR dX9_canStep_34 fl_X9_31 rfl (cm_mvs cm) ?_
                refine e_iload_n dX9_canStep_37 rfl rfl ?_
                refine e_aald _ dX9_canStep_38 ⟨by decide, by decide⟩ rfl rfl (by simp only [lenK]; omega) (cm_mo cm (by omega)) ?_
                refine x_V1 (M' := mX9_bothUp) dX9_canStep_39 ml_X9_122 ok_X9_bothUp (by decide) rfl im_X9_bothUp se_X9_bothUp (ct_X9_bothUp cm iv hK (by omega)) (Nat.le_of_ble_eq_true rfl) (by decide) (Nat.le_of_ble_eq_true rfl) ?_
                first | ((with_reducible refine mk_b ?_); refine b_if_eq (tgt := 49) dX9_canStep_42 (by decide) (fun h42 => ?_) (fun h42 => ?_)) | ((with_reducible refine mk_ll ?_); refine m_if_eq (tgt := 49) dX9_canStep_42 (by decide) (by omega) (by omega) (fun h42 => ?_) (fun h42 => ?_)) | ((with_reducible refine mk_lc ?_); refine l_if_eq (tgt := 49) dX9_canStep_42 (by decide) (fun h42 => ?_) (fun h42 => ?_)) | ((with_reducible refine mk_n ?_); refine n_if_eq (tgt := 49) dX9_canStep_42 (by decide) (by omega) (fun h42 => ?_) (fun h42 => ?_)) | refine e_if_eq (tgt := 49) dX9_canStep_42 (by decide) (fun h42 => ?_) (fun h42 => ?_)
                · try first | contradiction | omega | (simp only [decide_eq_true_eq, decide_eq_false_iff_not] at h42; omega)
                  all_goals
                    refine e_iconst (v := nI 0) dX9_canStep_49 rfl ?_
                    first | ((with_reducible refine mk_b ?_); refine e_ret (some _) rfl (r_bool dX9_canStep_50 rfl) ?_) | ((with_reducible refine mk_n1 ?_); refine e_ret (some _) rfl (r_b1 dX9_canStep_50 rfl) ?_) | ((with_reducible refine mk_n0 ?_); refine e_ret (some _) rfl (r_b0 dX9_canStep_50 rfl) ?_)
                    refine xq ?_ rfl rfl rfl rfl rfl
                    simp_all [bI] <;> rfl
                · try first | contradiction | omega | (simp only [decide_eq_true_eq, decide_eq_false_iff_not] at h42; omega)
                  all_goals
                    refine e_iconst (v := nI 1) dX9_canStep_45 rfl ?_
                    refine e_goto (tgt := 50) dX9_canStep_46 (by decide) ?_
                    first | ((with_reducible refine mk_b ?_); refine e_ret (some _) rfl (r_bool dX9_canStep_50 rfl) ?_) | ((with_reducible refine mk_n1 ?_); refine e_ret (some _) rfl (r_b1 dX9_canStep_50 rfl) ?_) | ((with_reducible refine mk_n0 ?_); refine e_ret (some _) rfl (r_b0 dX9_canStep_50 rfl) ?_)
                    refine xq ?_ rfl rfl rfl rfl rfl
                    simp_all [bI] <;> rfl
theorem ct_X9_movesFrom {fi : FI} {fr : FR} {ai : FI} {ar : FR} {N : Nat} {w lg : Nat → Nat} {E : Nat} (cm : CM fr ar) (iv : Inv w) (hK : K fi ai w lg E) {s : Nat} (hs : s < 6) : CP mX9_movesFrom 1 0 0 [.ref (rf 9 1), .int (nI s)] fi fr ai ar N (xQ (some (.int (nI (cnt (fun m => goB w m && decide (w (7694 + 72 * m + 3) = s)) (w 3))))) fi fr ai ar N) := by
  have h1 := iv_n iv
  have h3 := iv_mm iv
  have bd := Bd_iv iv
  have hF : FR1 fi ai fi ai := FR1_rf
  change EV mX9_movesFrom 1 0 0 0 [some (.ref (rf 9 1)), some (.int (nI s)), none, none] [] fi fr ai ar N (xQ (some (.int (nI (cnt (fun m => goB w m && decide (w (7694 + 72 * m + 3) = s)) (w 3))))) fi fr ai ar N)
  have key := ev_up (P := (fun j => EV mX9_movesFrom 1 0 0 4 [some (.ref (rf 9 1)), some (.int (nI s)), some (.int (nI (cnt (fun m => goB w m && decide (w (7694 + 72 * m + 3) = s)) j))), some (.int (nI j))] [] fi fr ai ar N (xQ (some (.int (nI (cnt (fun m => goB w m && decide (w (7694 + 72 * m + 3) = s)) (w 3))))) fi fr ai ar N))) (w 3) (fun j hj ih => by
    have hq := iv_mv iv hj
    refine e_iload_n dX9_movesFrom_4 rfl rfl ?_
    refine e_aload_n dX9_movesFrom_5 rfl rfl ?_
    refine e_getE dX9_movesFrom_6 fl_X9_63 rfl (k_mm hK) ?_
    first | ((with_reducible refine mk_nn ?_); refine n_icmp_ge (tgt := 46) dX9_movesFrom_9 (by decide) (by omega) (by omega) (fun h9 => ?_) (fun h9 => ?_)) | refine e_icmp_ge (tgt := 46) dX9_movesFrom_9 (by decide) (fun h9 => ?_) (fun h9 => ?_)
    · try first | contradiction | omega
      all_goals
        refine e_iload_n dX9_movesFrom_46 rfl rfl ?_
        refine e_ret (some _) rfl (r_int dX9_movesFrom_47 rfl) ?_
        exact xq (by first | rfl | simp_all [bI_t, bI_f]) rfl rfl rfl rfl rfl
    · try first | contradiction | omega
      all_goals
        refine e_aload_n dX9_movesFrom_12 rfl rfl ?_
        refine e_getR dX9_movesFrom_13 fl_X9_31 rfl (cm_mvs cm) ?_
        refine e_iload_n dX9_movesFrom_16 rfl rfl ?_
        refine e_aald _ dX9_movesFrom_17 ⟨by decide, by decide⟩ rfl rfl (by simp only [lenK]; omega) (cm_mo cm (by omega)) ?_
        refine x_V0 (M' := mX4_goesOn) dX9_movesFrom_18 ml_X9_105 ok_X4_goesOn (by decide) rfl im_X4_goesOn se_X4_goesOn (ct_X4_goesOn cm iv hK (by omega)) (Nat.le_of_ble_eq_true rfl) (by decide) (Nat.le_of_ble_eq_true rfl) ?_
        first | ((with_reducible refine mk_b ?_); refine b_if_eq (tgt := 40) dX9_movesFrom_21 (by decide) (fun h21 => ?_) (fun h21 => ?_)) | ((with_reducible refine mk_ll ?_); refine m_if_eq (tgt := 40) dX9_movesFrom_21 (by decide) (by omega) (by omega) (fun h21 => ?_) (fun h21 => ?_)) | ((with_reducible refine mk_lc ?_); refine l_if_eq (tgt := 40) dX9_movesFrom_21 (by decide) (fun h21 => ?_) (fun h21 => ?_)) | ((with_reducible refine mk_n ?_); refine n_if_eq (tgt := 40) dX9_movesFrom_21 (by decide) (by omega) (fun h21 => ?_) (fun h21 => ?_)) | refine e_if_eq (tgt := 40) dX9_movesFrom_21 (by decide) (fun h21 => ?_) (fun h21 => ?_)
        · try first | contradiction | omega | (simp only [decide_eq_true_eq, decide_eq_false_iff_not] at h21; omega)
          all_goals
            first | refine n_inc dX9_movesFrom_40 rfl (Nat.le_of_ble_eq_true rfl) rfl ?_ | refine e_iinc dX9_movesFrom_40 rfl rfl (Nat.le_of_ble_eq_true rfl) rfl ?_
            refine e_goto (tgt := 4) dX9_movesFrom_43 (by decide) ?_
            first | (rw [cnt_t (n := j) (p := fun m => goB w m && decide (w (7694 + 72 * m + 3) = s)) (by simp_all)] at ih; exact ih) | (rw [cnt_f (n := j) (p := fun m => goB w m && decide (w (7694 + 72 * m + 3) = s)) (by simp_all)] at ih; exact ih)
        · try first | contradiction | omega | (simp only [decide_eq_true_eq, decide_eq_false_iff_not] at h21; omega)
          all_goals
            refine e_aload_n dX9_movesFrom_24 rfl rfl ?_
            refine e_getR dX9_movesFrom_25 fl_X9_31 rfl (cm_mvs cm) ?_
            refine e_iload_n dX9_movesFrom_28 rfl rfl ?_
            refine e_aald _ dX9_movesFrom_29 ⟨by decide, by decide⟩ rfl rfl (by simp only [lenK]; omega) (cm_mo cm (by omega)) ?_
            refine e_getE dX9_movesFrom_30 fl_X9_96 rfl (k_m5 hK (by first | omega | (simp (disch := omega) only [upN_n, upN_s]; omega))) ?_
            refine e_iload_n dX9_movesFrom_33 rfl rfl ?_
            first | ((with_reducible refine mk_mo ?_); refine p_icmp_ne (tgt := 40) dX9_movesFrom_34 (by decide) (fun h34 => ?_) (fun h34 => ?_)) | ((with_reducible refine mk_ms ?_); refine s_icmp_ne (tgt := 40) dX9_movesFrom_34 (by decide) (by omega) (fun h34 => ?_) (fun h34 => ?_)) | ((with_reducible refine mk_mn ?_); refine q_icmp_ne (tgt := 40) dX9_movesFrom_34 (by decide) (by omega) (fun h34 => ?_) (fun h34 => ?_)) | ((with_reducible refine mk_nn ?_); refine n_icmp_ne (tgt := 40) dX9_movesFrom_34 (by decide) (by omega) (by omega) (fun h34 => ?_) (fun h34 => ?_)) | refine e_icmp_ne (tgt := 40) dX9_movesFrom_34 (by decide) (fun h34 => ?_) (fun h34 => ?_)
            · try first | contradiction | omega
              all_goals
                first | refine n_inc dX9_movesFrom_40 rfl (Nat.le_of_ble_eq_true rfl) rfl ?_ | refine e_iinc dX9_movesFrom_40 rfl rfl (Nat.le_of_ble_eq_true rfl) rfl ?_
                refine e_goto (tgt := 4) dX9_movesFrom_43 (by decide) ?_
                first | (rw [cnt_t (n := j) (p := fun m => goB w m && decide (w (7694 + 72 * m + 3) = s)) (by simp_all)] at ih; exact ih) | (rw [cnt_f (n := j) (p := fun m => goB w m && decide (w (7694 + 72 * m + 3) = s)) (by simp_all)] at ih; exact ih)
            · try first | contradiction | omega
              all_goals
                first | refine n_inc dX9_movesFrom_37 rfl (Nat.le_of_ble_eq_true rfl) rfl ?_ | refine e_iinc dX9_movesFrom_37 rfl rfl (Nat.le_of_ble_eq_true rfl) rfl ?_
                first | refine n_inc dX9_movesFrom_40 rfl (Nat.le_of_ble_eq_true rfl) rfl ?_ | refine e_iinc dX9_movesFrom_40 rfl rfl (Nat.le_of_ble_eq_true rfl) rfl ?_
                refine e_goto (tgt := 4) dX9_movesFrom_43 (by decide) ?_
                first | (rw [cnt_t (n := j) (p := fun m => goB w m && decide (w (7694 + 72 * m + 3) = s)) (by simp_all)] at ih; exact ih) | (rw [cnt_f (n := j) (p := fun m => goB w m && decide (w (7694 + 72 * m + 3) = s)) (by simp_all)] at ih; exact ih)
    ) (by
    refine e_iload_n dX9_movesFrom_4 rfl rfl ?_
    refine e_aload_n dX9_movesFrom_5 rfl rfl ?_
    refine e_getE dX9_movesFrom_6 fl_X9_63 rfl (k_mm hK) ?_
    first | ((with_reducible refine mk_nn ?_); refine n_icmp_ge (tgt := 46) dX9_movesFrom_9 (by decide) (by omega) (by omega) (fun h9 => ?_) (fun h9 => ?_)) | refine e_icmp_ge (tgt := 46) dX9_movesFrom_9 (by decide) (fun h9 => ?_) (fun h9 => ?_)
    · try first | contradiction | omega
      all_goals
        refine e_iload_n dX9_movesFrom_46 rfl rfl ?_
        refine e_ret (some _) rfl (r_int dX9_movesFrom_47 rfl) ?_
        exact xq rfl rfl rfl rfl rfl rfl
    · try first | contradiction | omega
      all_goals
        refine e_aload_n dX9_movesFrom_12 rfl rfl ?_
        refine e_getR dX9_movesFrom_13 fl_X9_31 rfl (cm_mvs cm) ?_
        refine e_iload_n dX9_movesFrom_16 rfl rfl ?_
        refine e_aald _ dX9_movesFrom_17 ⟨by decide, by decide⟩ rfl rfl (by simp only [lenK]; omega) (cm_mo cm (by omega)) ?_
        refine x_V0 (M' := mX4_goesOn) dX9_movesFrom_18 ml_X9_105 ok_X4_goesOn (by decide) rfl im_X4_goesOn se_X4_goesOn (ct_X4_goesOn cm iv hK (by omega)) (Nat.le_of_ble_eq_true rfl) (by decide) (Nat.le_of_ble_eq_true rfl) ?_
        first | ((with_reducible refine mk_b ?_); refine b_if_eq (tgt := 40) dX9_movesFrom_21 (by decide) (fun h21 => ?_) (fun h21 => ?_)) | ((with_reducible refine mk_ll ?_); refine m_if_eq (tgt := 40) dX9_movesFrom_21 (by decide) (by omega) (by omega) (fun h21 => ?_) (fun h21 => ?_)) | ((with_reducible refine mk_lc ?_); refine l_if_eq (tgt := 40) dX9_movesFrom_21 (by decide) (fun h21 => ?_) (fun h21 => ?_)) | ((with_reducible refine mk_n ?_); refine n_if_eq (tgt := 40) dX9_movesFrom_21 (by decide) (by omega) (fun h21 => ?_) (fun h21 => ?_)) | refine e_if_eq (tgt := 40) dX9_movesFrom_21 (by decide) (fun h21 => ?_) (fun h21 => ?_)
        · try first | contradiction | omega | (simp only [decide_eq_true_eq, decide_eq_false_iff_not] at h21; omega)
          all_goals
            first | refine n_inc dX9_movesFrom_40 rfl (Nat.le_of_ble_eq_true rfl) rfl ?_ | refine e_iinc dX9_movesFrom_40 rfl rfl (Nat.le_of_ble_eq_true rfl) rfl ?_
            refine e_goto (tgt := 4) dX9_movesFrom_43 (by decide) ?_
            first | (rw [cnt_t (n := j) (p := fun m => goB w m && decide (w (7694 + 72 * m + 3) = s)) (by simp_all)] at ih; exact ih) | (rw [cnt_f (n := j) (p := fun m => goB w m && decide (w (7694 + 72 * m + 3) = s)) (by simp_all)] at ih; exact ih)
        · try first | contradiction | omega | (simp only [decide_eq_true_eq, decide_eq_false_iff_not] at h21; omega)
          all_goals
            refine e_aload_n dX9_movesFrom_24 rfl rfl ?_
            refine e_getR dX9_movesFrom_25 fl_X9_31 rfl (cm_mvs cm) ?_
            refine e_iload_n dX9_movesFrom_28 rfl rfl ?_
            refine e_aald _ dX9_movesFrom_29 ⟨by decide, by decide⟩ rfl rfl (by simp only [lenK]; omega) (cm_mo cm (by omega)) ?_
            refine e_getE dX9_movesFrom_30 fl_X9_96 rfl (k_m5 hK (by first | omega | (simp (disch := omega) only [upN_n, upN_s]; omega))) ?_
            refine e_iload_n dX9_movesFrom_33 rfl rfl ?_
            first | ((with_reducible refine mk_mo ?_); refine p_icmp_ne (tgt := 40) dX9_movesFrom_34 (by decide) (fun h34 => ?_) (fun h34 => ?_)) | ((with_reducible refine mk_ms ?_); refine s_icmp_ne (tgt := 40) dX9_movesFrom_34 (by decide) (by omega) (fun h34 => ?_) (fun h34 => ?_)) | ((with_reducible refine mk_mn ?_); refine q_icmp_ne (tgt := 40) dX9_movesFrom_34 (by decide) (by omega) (fun h34 => ?_) (fun h34 => ?_)) | ((with_reducible refine mk_nn ?_); refine n_icmp_ne (tgt := 40) dX9_movesFrom_34 (by decide) (by omega) (by omega) (fun h34 => ?_) (fun h34 => ?_)) | refine e_icmp_ne (tgt := 40) dX9_movesFrom_34 (by decide) (fun h34 => ?_) (fun h34 => ?_)
            · try first | contradiction | omega
              all_goals
                first | refine n_inc dX9_movesFrom_40 rfl (Nat.le_of_ble_eq_true rfl) rfl ?_ | refine e_iinc dX9_movesFrom_40 rfl rfl (Nat.le_of_ble_eq_true rfl) rfl ?_
                refine e_goto (tgt := 4) dX9_movesFrom_43 (by decide) ?_
                first | (rw [cnt_t (n := j) (p := fun m => goB w m && decide (w (7694 + 72 * m + 3) = s)) (by simp_all)] at ih; exact ih) | (rw [cnt_f (n := j) (p := fun m => goB w m && decide (w (7694 + 72 * m + 3) = s)) (by simp_all)] at ih; exact ih)
            · try first | contradiction | omega
              all_goals
                first | refine n_inc dX9_movesFrom_37 rfl (Nat.le_of_ble_eq_true rfl) rfl ?_ | refine e_iinc dX9_movesFrom_37 rfl rfl (Nat.le_of_ble_eq_true rfl) rfl ?_
                first | refine n_inc dX9_movesFrom_40 rfl (Nat.le_of_ble_eq_true rfl) rfl ?_ | refine e_iinc dX9_movesFrom_40 rfl rfl (Nat.le_of_ble_eq_true rfl) rfl ?_
                refine e_goto (tgt := 4) dX9_movesFrom_43 (by decide) ?_
                first | (rw [cnt_t (n := j) (p := fun m => goB w m && decide (w (7694 + 72 * m + 3) = s)) (by simp_all)] at ih; exact ih) | (rw [cnt_f (n := j) (p := fun m => goB w m && decide (w (7694 + 72 * m + 3) = s)) (by simp_all)] at ih; exact ih)
    )
  refine e_iconst (v := nI 0) dX9_movesFrom_0 rfl ?_
  refine e_istore_n dX9_movesFrom_1 rfl (Nat.le_of_ble_eq_true rfl) rfl ?_
  refine e_iconst (v := nI 0) dX9_movesFrom_2 rfl ?_
  refine e_istore_n dX9_movesFrom_3 rfl (Nat.le_of_ble_eq_true rfl) rfl ?_
  exact key 0 (by omega)
theorem ct_X9_movesTo {fi : FI} {fr : FR} {ai : FI} {ar : FR} {N : Nat} {w lg : Nat → Nat} {E : Nat} (cm : CM fr ar) (iv : Inv w) (hK : K fi ai w lg E) {s : Nat} (hs : s < 6) : CP mX9_movesTo 1 0 0 [.ref (rf 9 1), .int (nI s)] fi fr ai ar N (xQ (some (.int (nI (cnt (fun m => goB w m && decide (w (7694 + 72 * m + 4) = s)) (w 3))))) fi fr ai ar N) := by
  have h1 := iv_n iv
  have h3 := iv_mm iv
  have bd := Bd_iv iv
  have hF : FR1 fi ai fi ai := FR1_rf
  change EV mX9_movesTo 1 0 0 0 [some (.ref (rf 9 1)), some (.int (nI s)), none, none] [] fi fr ai ar N (xQ (some (.int (nI (cnt (fun m => goB w m && decide (w (7694 + 72 * m + 4) = s)) (w 3))))) fi fr ai ar N)
  have key := ev_up (P := (fun j => EV mX9_movesTo 1 0 0 4 [some (.ref (rf 9 1)), some (.int (nI s)), some (.int (nI (cnt (fun m => goB w m && decide (w (7694 + 72 * m + 4) = s)) j))), some (.int (nI j))] [] fi fr ai ar N (xQ (some (.int (nI (cnt (fun m => goB w m && decide (w (7694 + 72 * m + 4) = s)) (w 3))))) fi fr ai ar N))) (w 3) (fun j hj ih => by
    have hq := iv_mv iv hj
    refine e_iload_n dX9_movesTo_4 rfl rfl ?_
    refine e_aload_n dX9_movesTo_5 rfl rfl ?_
    refine e_getE dX9_movesTo_6 fl_X9_63 rfl (k_mm hK) ?_
    first | ((with_reducible refine mk_nn ?_); refine n_icmp_ge (tgt := 46) dX9_movesTo_9 (by decide) (by omega) (by omega) (fun h9 => ?_) (fun h9 => ?_)) | refine e_icmp_ge (tgt := 46) dX9_movesTo_9 (by decide) (fun h9 => ?_) (fun h9 => ?_)
    · try first | contradiction | omega
      all_goals
        refine e_iload_n dX9_movesTo_46 rfl rfl ?_
        refine e_ret (some _) rfl (r_int dX9_movesTo_47 rfl) ?_
        exact xq (by first | rfl | simp_all [bI_t, bI_f]) rfl rfl rfl rfl rfl
    · try first | contradiction | omega
      all_goals
        refine e_aload_n dX9_movesTo_12 rfl rfl ?_
        refine e_getR dX9_movesTo_13 fl_X9_31 rfl (cm_mvs cm) ?_
        refine e_iload_n dX9_movesTo_16 rfl rfl ?_
        refine e_aald _ dX9_movesTo_17 ⟨by decide, by decide⟩ rfl rfl (by simp only [lenK]; omega) (cm_mo cm (by omega)) ?_
        refine x_V0 (M' := mX4_goesOn) dX9_movesTo_18 ml_X9_105 ok_X4_goesOn (by decide) rfl im_X4_goesOn se_X4_goesOn (ct_X4_goesOn cm iv hK (by omega)) (Nat.le_of_ble_eq_true rfl) (by decide) (Nat.le_of_ble_eq_true rfl) ?_
        first | ((with_reducible refine mk_b ?_); refine b_if_eq (tgt := 40) dX9_movesTo_21 (by decide) (fun h21 => ?_) (fun h21 => ?_)) | ((with_reducible refine mk_ll ?_); refine m_if_eq (tgt := 40) dX9_movesTo_21 (by decide) (by omega) (by omega) (fun h21 => ?_) (fun h21 => ?_)) | ((with_reducible refine mk_lc ?_); refine l_if_eq (tgt := 40) dX9_movesTo_21 (by decide) (fun h21 => ?_) (fun h21 => ?_)) | ((with_reducible refine mk_n ?_); refine n_if_eq (tgt := 40) dX9_movesTo_21 (by decide) (by omega) (fun h21 => ?_) (fun h21 => ?_)) | refine e_if_eq (tgt := 40) dX9_movesTo_21 (by decide) (fun h21 => ?_) (fun h21 => ?_)
        · try first | contradiction | omega | (simp only [decide_eq_true_eq, decide_eq_false_iff_not] at h21; omega)
          all_goals
            first | refine n_inc dX9_movesTo_40 rfl (Nat.le_of_ble_eq_true rfl) rfl ?_ | refine e_iinc dX9_movesTo_40 rfl rfl (Nat.le_of_ble_eq_true rfl) rfl ?_
            refine e_goto (tgt := 4) dX9_movesTo_43 (by decide) ?_
            first | (rw [cnt_t (n := j) (p := fun m => goB w m && decide (w (7694 + 72 * m + 4) = s)) (by simp_all)] at ih; exact ih) | (rw [cnt_f (n := j) (p := fun m => goB w m && decide (w (7694 + 72 * m + 4) = s)) (by simp_all)] at ih; exact ih)
        · try first | contradiction | omega | (simp only [decide_eq_true_eq, decide_eq_false_iff_not] at h21; omega)
          all_goals
            refine e_aload_n dX9_movesTo_24 rfl rfl ?_
            refine e_getR dX9_movesTo_25 fl_X9_31 rfl (cm_mvs cm) ?_
            refine e_iload_n dX9_movesTo_28 rfl rfl ?_
            refine e_aald _ dX9_movesTo_29 ⟨by decide, by decide⟩ rfl rfl (by simp only [lenK]; omega) (cm_mo cm (by omega)) ?_
            refine e_getE dX9_movesTo_30 fl_X9_99 rfl (k_m6 hK (by first | omega | (simp (disch := omega) only [upN_n, upN_s]; omega))) ?_
            refine e_iload_n dX9_movesTo_33 rfl rfl ?_
            first | ((with_reducible refine mk_mo ?_); refine p_icmp_ne (tgt := 40) dX9_movesTo_34 (by decide) (fun h34 => ?_) (fun h34 => ?_)) | ((with_reducible refine mk_ms ?_); refine s_icmp_ne (tgt := 40) dX9_movesTo_34 (by decide) (by omega) (fun h34 => ?_) (fun h34 => ?_)) | ((with_reducible refine mk_mn ?_); refine q_icmp_ne (tgt := 40) dX9_movesTo_34 (by decide) (by omega) (fun h34 => ?_) (fun h34 => ?_)) | ((with_reducible refine mk_nn ?_); refine n_icmp_ne (tgt := 40) dX9_movesTo_34 (by decide) (by omega) (by omega) (fun h34 => ?_) (fun h34 => ?_)) | refine e_icmp_ne (tgt := 40) dX9_movesTo_34 (by decide) (fun h34 => ?_) (fun h34 => ?_)
            · try first | contradiction | omega
              all_goals
                first | refine n_inc dX9_movesTo_40 rfl (Nat.le_of_ble_eq_true rfl) rfl ?_ | refine e_iinc dX9_movesTo_40 rfl rfl (Nat.le_of_ble_eq_true rfl) rfl ?_
                refine e_goto (tgt := 4) dX9_movesTo_43 (by decide) ?_
                first | (rw [cnt_t (n := j) (p := fun m => goB w m && decide (w (7694 + 72 * m + 4) = s)) (by simp_all)] at ih; exact ih) | (rw [cnt_f (n := j) (p := fun m => goB w m && decide (w (7694 + 72 * m + 4) = s)) (by simp_all)] at ih; exact ih)
            · try first | contradiction | omega
              all_goals
                first | refine n_inc dX9_movesTo_37 rfl (Nat.le_of_ble_eq_true rfl) rfl ?_ | refine e_iinc dX9_movesTo_37 rfl rfl (Nat.le_of_ble_eq_true rfl) rfl ?_
                first | refine n_inc dX9_movesTo_40 rfl (Nat.le_of_ble_eq_true rfl) rfl ?_ | refine e_iinc dX9_movesTo_40 rfl rfl (Nat.le_of_ble_eq_true rfl) rfl ?_
                refine e_goto (tgt := 4) dX9_movesTo_43 (by decide) ?_
                first | (rw [cnt_t (n := j) (p := fun m => goB w m && decide (w (7694 + 72 * m + 4) = s)) (by simp_all)] at ih; exact ih) | (rw [cnt_f (n := j) (p := fun m => goB w m && decide (w (7694 + 72 * m + 4) = s)) (by simp_all)] at ih; exact ih)
    ) (by
    refine e_iload_n dX9_movesTo_4 rfl rfl ?_
    refine e_aload_n dX9_movesTo_5 rfl rfl ?_
    refine e_getE dX9_movesTo_6 fl_X9_63 rfl (k_mm hK) ?_
    first | ((with_reducible refine mk_nn ?_); refine n_icmp_ge (tgt := 46) dX9_movesTo_9 (by decide) (by omega) (by omega) (fun h9 => ?_) (fun h9 => ?_)) | refine e_icmp_ge (tgt := 46) dX9_movesTo_9 (by decide) (fun h9 => ?_) (fun h9 => ?_)
    · try first | contradiction | omega
      all_goals
        refine e_iload_n dX9_movesTo_46 rfl rfl ?_
        refine e_ret (some _) rfl (r_int dX9_movesTo_47 rfl) ?_
        exact xq rfl rfl rfl rfl rfl rfl
    · try first | contradiction | omega
      all_goals
        refine e_aload_n dX9_movesTo_12 rfl rfl ?_
        refine e_getR dX9_movesTo_13 fl_X9_31 rfl (cm_mvs cm) ?_
        refine e_iload_n dX9_movesTo_16 rfl rfl ?_
        refine e_aald _ dX9_movesTo_17 ⟨by decide, by decide⟩ rfl rfl (by simp only [lenK]; omega) (cm_mo cm (by omega)) ?_
        refine x_V0 (M' := mX4_goesOn) dX9_movesTo_18 ml_X9_105 ok_X4_goesOn (by decide) rfl im_X4_goesOn se_X4_goesOn (ct_X4_goesOn cm iv hK (by omega)) (Nat.le_of_ble_eq_true rfl) (by decide) (Nat.le_of_ble_eq_true rfl) ?_
        first | ((with_reducible refine mk_b ?_); refine b_if_eq (tgt := 40) dX9_movesTo_21 (by decide) (fun h21 => ?_) (fun h21 => ?_)) | ((with_reducible refine mk_ll ?_); refine m_if_eq (tgt := 40) dX9_movesTo_21 (by decide) (by omega) (by omega) (fun h21 => ?_) (fun h21 => ?_)) | ((with_reducible refine mk_lc ?_); refine l_if_eq (tgt := 40) dX9_movesTo_21 (by decide) (fun h21 => ?_) (fun h21 => ?_)) | ((with_reducible refine mk_n ?_); refine n_if_eq (tgt := 40) dX9_movesTo_21 (by decide) (by omega) (fun h21 => ?_) (fun h21 => ?_)) | refine e_if_eq (tgt := 40) dX9_movesTo_21 (by decide) (fun h21 => ?_) (fun h21 => ?_)
        · try first | contradiction | omega | (simp only [decide_eq_true_eq, decide_eq_false_iff_not] at h21; omega)
          all_goals
            first | refine n_inc dX9_movesTo_40 rfl (Nat.le_of_ble_eq_true rfl) rfl ?_ | refine e_iinc dX9_movesTo_40 rfl rfl (Nat.le_of_ble_eq_true rfl) rfl ?_
            refine e_goto (tgt := 4) dX9_movesTo_43 (by decide) ?_
            first | (rw [cnt_t (n := j) (p := fun m => goB w m && decide (w (7694 + 72 * m + 4) = s)) (by simp_all)] at ih; exact ih) | (rw [cnt_f (n := j) (p := fun m => goB w m && decide (w (7694 + 72 * m + 4) = s)) (by simp_all)] at ih; exact ih)
        · try first | contradiction | omega | (simp only [decide_eq_true_eq, decide_eq_false_iff_not] at h21; omega)
          all_goals
            refine e_aload_n dX9_movesTo_24 rfl rfl ?_
            refine e_getR dX9_movesTo_25 fl_X9_31 rfl (cm_mvs cm) ?_
            refine e_iload_n dX9_movesTo_28 rfl rfl ?_
            refine e_aald _ dX9_movesTo_29 ⟨by decide, by decide⟩ rfl rfl (by simp only [lenK]; omega) (cm_mo cm (by omega)) ?_
            refine e_getE dX9_movesTo_30 fl_X9_99 rfl (k_m6 hK (by first | omega | (simp (disch := omega) only [upN_n, upN_s]; omega))) ?_
            refine e_iload_n dX9_movesTo_33 rfl rfl ?_
            first | ((with_reducible refine mk_mo ?_); refine p_icmp_ne (tgt := 40) dX9_movesTo_34 (by decide) (fun h34 => ?_) (fun h34 => ?_)) | ((with_reducible refine mk_ms ?_); refine s_icmp_ne (tgt := 40) dX9_movesTo_34 (by decide) (by omega) (fun h34 => ?_) (fun h34 => ?_)) | ((with_reducible refine mk_mn ?_); refine q_icmp_ne (tgt := 40) dX9_movesTo_34 (by decide) (by omega) (fun h34 => ?_) (fun h34 => ?_)) | ((with_reducible refine mk_nn ?_); refine n_icmp_ne (tgt := 40) dX9_movesTo_34 (by decide) (by omega) (by omega) (fun h34 => ?_) (fun h34 => ?_)) | refine e_icmp_ne (tgt := 40) dX9_movesTo_34 (by decide) (fun h34 => ?_) (fun h34 => ?_)
            · try first | contradiction | omega
              all_goals
                first | refine n_inc dX9_movesTo_40 rfl (Nat.le_of_ble_eq_true rfl) rfl ?_ | refine e_iinc dX9_movesTo_40 rfl rfl (Nat.le_of_ble_eq_true rfl) rfl ?_
                refine e_goto (tgt := 4) dX9_movesTo_43 (by decide) ?_
                first | (rw [cnt_t (n := j) (p := fun m => goB w m && decide (w (7694 + 72 * m + 4) = s)) (by simp_all)] at ih; exact ih) | (rw [cnt_f (n := j) (p := fun m => goB w m && decide (w (7694 + 72 * m + 4) = s)) (by simp_all)] at ih; exact ih)
            · try first | contradiction | omega
              all_goals
                first | refine n_inc dX9_movesTo_37 rfl (Nat.le_of_ble_eq_true rfl) rfl ?_ | refine e_iinc dX9_movesTo_37 rfl rfl (Nat.le_of_ble_eq_true rfl) rfl ?_
                first | refine n_inc dX9_movesTo_40 rfl (Nat.le_of_ble_eq_true rfl) rfl ?_ | refine e_iinc dX9_movesTo_40 rfl rfl (Nat.le_of_ble_eq_true rfl) rfl ?_
                refine e_goto (tgt := 4) dX9_movesTo_43 (by decide) ?_
                first | (rw [cnt_t (n := j) (p := fun m => goB w m && decide (w (7694 + 72 * m + 4) = s)) (by simp_all)] at ih; exact ih) | (rw [cnt_f (n := j) (p := fun m => goB w m && decide (w (7694 + 72 * m + 4) = s)) (by simp_all)] at ih; exact ih)
    )
  refine e_iconst (v := nI 0) dX9_movesTo_0 rfl ?_
  refine e_istore_n dX9_movesTo_1 rfl (Nat.le_of_ble_eq_true rfl) rfl ?_
  refine e_iconst (v := nI 0) dX9_movesTo_2 rfl ?_
  refine e_istore_n dX9_movesTo_3 rfl (Nat.le_of_ble_eq_true rfl) rfl ?_
  exact key 0 (by omega)
theorem ct_X9_movesGoingOn {fi : FI} {fr : FR} {ai : FI} {ar : FR} {N : Nat} {w lg : Nat → Nat} {E : Nat} (cm : CM fr ar) (iv : Inv w) (hK : K fi ai w lg E)  : CP mX9_movesGoingOn 1 0 0 [.ref (rf 9 1)] fi fr ai ar N (xQ (some (.int (nI (cnt (goB w) (w 3))))) fi fr ai ar N) := by
  have h1 := iv_n iv
  have h3 := iv_mm iv
  have bd := Bd_iv iv
  have hF : FR1 fi ai fi ai := FR1_rf
  change EV mX9_movesGoingOn 1 0 0 0 [some (.ref (rf 9 1)), none, none] [] fi fr ai ar N (xQ (some (.int (nI (cnt (goB w) (w 3))))) fi fr ai ar N)
  have key := ev_up (P := (fun j => EV mX9_movesGoingOn 1 0 0 4 [some (.ref (rf 9 1)), some (.int (nI (cnt (goB w) j))), some (.int (nI j))] [] fi fr ai ar N (xQ (some (.int (nI (cnt (goB w) (w 3))))) fi fr ai ar N))) (w 3) (fun j hj ih => by
    have hq := iv_mv iv hj
    refine e_iload_n dX9_movesGoingOn_4 rfl rfl ?_
    refine e_aload_n dX9_movesGoingOn_5 rfl rfl ?_
    refine e_getE dX9_movesGoingOn_6 fl_X9_63 rfl (k_mm hK) ?_
    first | ((with_reducible refine mk_nn ?_); refine n_icmp_ge (tgt := 33) dX9_movesGoingOn_9 (by decide) (by omega) (by omega) (fun h9 => ?_) (fun h9 => ?_)) | refine e_icmp_ge (tgt := 33) dX9_movesGoingOn_9 (by decide) (fun h9 => ?_) (fun h9 => ?_)
    · try first | contradiction | omega
      all_goals
        refine e_iload_n dX9_movesGoingOn_33 rfl rfl ?_
        refine e_ret (some _) rfl (r_int dX9_movesGoingOn_34 rfl) ?_
        exact xq (by first | rfl | simp_all [bI_t, bI_f]) rfl rfl rfl rfl rfl
    · try first | contradiction | omega
      all_goals
        refine e_aload_n dX9_movesGoingOn_12 rfl rfl ?_
        refine e_getR dX9_movesGoingOn_13 fl_X9_31 rfl (cm_mvs cm) ?_
        refine e_iload_n dX9_movesGoingOn_16 rfl rfl ?_
        refine e_aald _ dX9_movesGoingOn_17 ⟨by decide, by decide⟩ rfl rfl (by simp only [lenK]; omega) (cm_mo cm (by omega)) ?_
        refine x_V0 (M' := mX4_goesOn) dX9_movesGoingOn_18 ml_X9_105 ok_X4_goesOn (by decide) rfl im_X4_goesOn se_X4_goesOn (ct_X4_goesOn cm iv hK (by omega)) (Nat.le_of_ble_eq_true rfl) (by decide) (Nat.le_of_ble_eq_true rfl) ?_
        first | ((with_reducible refine mk_b ?_); refine b_if_eq (tgt := 27) dX9_movesGoingOn_21 (by decide) (fun h21 => ?_) (fun h21 => ?_)) | ((with_reducible refine mk_ll ?_); refine m_if_eq (tgt := 27) dX9_movesGoingOn_21 (by decide) (by omega) (by omega) (fun h21 => ?_) (fun h21 => ?_)) | ((with_reducible refine mk_lc ?_); refine l_if_eq (tgt := 27) dX9_movesGoingOn_21 (by decide) (fun h21 => ?_) (fun h21 => ?_)) | ((with_reducible refine mk_n ?_); refine n_if_eq (tgt := 27) dX9_movesGoingOn_21 (by decide) (by omega) (fun h21 => ?_) (fun h21 => ?_)) | refine e_if_eq (tgt := 27) dX9_movesGoingOn_21 (by decide) (fun h21 => ?_) (fun h21 => ?_)
        · try first | contradiction | omega | (simp only [decide_eq_true_eq, decide_eq_false_iff_not] at h21; omega)
          all_goals
            first | refine n_inc dX9_movesGoingOn_27 rfl (Nat.le_of_ble_eq_true rfl) rfl ?_ | refine e_iinc dX9_movesGoingOn_27 rfl rfl (Nat.le_of_ble_eq_true rfl) rfl ?_
            refine e_goto (tgt := 4) dX9_movesGoingOn_30 (by decide) ?_
            first | (rw [cnt_t (n := j) (p := goB w) (by simp_all)] at ih; exact ih) | (rw [cnt_f (n := j) (p := goB w) (by simp_all)] at ih; exact ih)
        · try first | contradiction | omega | (simp only [decide_eq_true_eq, decide_eq_false_iff_not] at h21; omega)
          all_goals
            first | refine n_inc dX9_movesGoingOn_24 rfl (Nat.le_of_ble_eq_true rfl) rfl ?_ | refine e_iinc dX9_movesGoingOn_24 rfl rfl (Nat.le_of_ble_eq_true rfl) rfl ?_
            first | refine n_inc dX9_movesGoingOn_27 rfl (Nat.le_of_ble_eq_true rfl) rfl ?_ | refine e_iinc dX9_movesGoingOn_27 rfl rfl (Nat.le_of_ble_eq_true rfl) rfl ?_
            refine e_goto (tgt := 4) dX9_movesGoingOn_30 (by decide) ?_
            first | (rw [cnt_t (n := j) (p := goB w) (by simp_all)] at ih; exact ih) | (rw [cnt_f (n := j) (p := goB w) (by simp_all)] at ih; exact ih)
    ) (by
    refine e_iload_n dX9_movesGoingOn_4 rfl rfl ?_
    refine e_aload_n dX9_movesGoingOn_5 rfl rfl ?_
    refine e_getE dX9_movesGoingOn_6 fl_X9_63 rfl (k_mm hK) ?_
    first | ((with_reducible refine mk_nn ?_); refine n_icmp_ge (tgt := 33) dX9_movesGoingOn_9 (by decide) (by omega) (by omega) (fun h9 => ?_) (fun h9 => ?_)) | refine e_icmp_ge (tgt := 33) dX9_movesGoingOn_9 (by decide) (fun h9 => ?_) (fun h9 => ?_)
    · try first | contradiction | omega
      all_goals
        refine e_iload_n dX9_movesGoingOn_33 rfl rfl ?_
        refine e_ret (some _) rfl (r_int dX9_movesGoingOn_34 rfl) ?_
        exact xq rfl rfl rfl rfl rfl rfl
    · try first | contradiction | omega
      all_goals
        refine e_aload_n dX9_movesGoingOn_12 rfl rfl ?_
        refine e_getR dX9_movesGoingOn_13 fl_X9_31 rfl (cm_mvs cm) ?_
        refine e_iload_n dX9_movesGoingOn_16 rfl rfl ?_
        refine e_aald _ dX9_movesGoingOn_17 ⟨by decide, by decide⟩ rfl rfl (by simp only [lenK]; omega) (cm_mo cm (by omega)) ?_
        refine x_V0 (M' := mX4_goesOn) dX9_movesGoingOn_18 ml_X9_105 ok_X4_goesOn (by decide) rfl im_X4_goesOn se_X4_goesOn (ct_X4_goesOn cm iv hK (by omega)) (Nat.le_of_ble_eq_true rfl) (by decide) (Nat.le_of_ble_eq_true rfl) ?_
        first | ((with_reducible refine mk_b ?_); refine b_if_eq (tgt := 27) dX9_movesGoingOn_21 (by decide) (fun h21 => ?_) (fun h21 => ?_)) | ((with_reducible refine mk_ll ?_); refine m_if_eq (tgt := 27) dX9_movesGoingOn_21 (by decide) (by omega) (by omega) (fun h21 => ?_) (fun h21 => ?_)) | ((with_reducible refine mk_lc ?_); refine l_if_eq (tgt := 27) dX9_movesGoingOn_21 (by decide) (fun h21 => ?_) (fun h21 => ?_)) | ((with_reducible refine mk_n ?_); refine n_if_eq (tgt := 27) dX9_movesGoingOn_21 (by decide) (by omega) (fun h21 => ?_) (fun h21 => ?_)) | refine e_if_eq (tgt := 27) dX9_movesGoingOn_21 (by decide) (fun h21 => ?_) (fun h21 => ?_)
        · try first | contradiction | omega | (simp only [decide_eq_true_eq, decide_eq_false_iff_not] at h21; omega)
          all_goals
            first | refine n_inc dX9_movesGoingOn_27 rfl (Nat.le_of_ble_eq_true rfl) rfl ?_ | refine e_iinc dX9_movesGoingOn_27 rfl rfl (Nat.le_of_ble_eq_true rfl) rfl ?_
            refine e_goto (tgt := 4) dX9_movesGoingOn_30 (by decide) ?_
            first | (rw [cnt_t (n := j) (p := goB w) (by simp_all)] at ih; exact ih) | (rw [cnt_f (n := j) (p := goB w) (by simp_all)] at ih; exact ih)
        · try first | contradiction | omega | (simp only [decide_eq_true_eq, decide_eq_false_iff_not] at h21; omega)
          all_goals
            first | refine n_inc dX9_movesGoingOn_24 rfl (Nat.le_of_ble_eq_true rfl) rfl ?_ | refine e_iinc dX9_movesGoingOn_24 rfl rfl (Nat.le_of_ble_eq_true rfl) rfl ?_
            first | refine n_inc dX9_movesGoingOn_27 rfl (Nat.le_of_ble_eq_true rfl) rfl ?_ | refine e_iinc dX9_movesGoingOn_27 rfl rfl (Nat.le_of_ble_eq_true rfl) rfl ?_
            refine e_goto (tgt := 4) dX9_movesGoingOn_30 (by decide) ?_
            first | (rw [cnt_t (n := j) (p := goB w) (by simp_all)] at ih; exact ih) | (rw [cnt_f (n := j) (p := goB w) (by simp_all)] at ih; exact ih)
    )
  refine e_iconst (v := nI 0) dX9_movesGoingOn_0 rfl ?_
  refine e_istore_n dX9_movesGoingOn_1 rfl (Nat.le_of_ble_eq_true rfl) rfl ?_
  refine e_iconst (v := nI 0) dX9_movesGoingOn_2 rfl ?_
  refine e_istore_n dX9_movesGoingOn_3 rfl (Nat.le_of_ble_eq_true rfl) rfl ?_
  exact key 0 (by omega)
theorem ct_X9_movesBroken {fi : FI} {fr : FR} {ai : FI} {ar : FR} {N : Nat} {w lg : Nat → Nat} {E : Nat} (cm : CM fr ar) (iv : Inv w) (hK : K fi ai w lg E)  : CP mX9_movesBroken 0 0 0 [.ref (rf 9 1)] fi fr ai ar N (xQ (some (.int (nI (rs (fun m => w (7694 + 72 * m + 7)) 0 (w 3))))) fi fr ai ar N) := by
  have h1 := iv_n iv
  have h3 := iv_mm iv
  have bd := Bd_iv iv
  have hF : FR1 fi ai fi ai := FR1_rf
  change EV mX9_movesBroken 0 0 0 0 [some (.ref (rf 9 1)), none, none] [] fi fr ai ar N (xQ (some (.int (nI (rs (fun m => w (7694 + 72 * m + 7)) 0 (w 3))))) fi fr ai ar N)
  have key := ev_up (P := (fun j => EV mX9_movesBroken 0 0 0 4 [some (.ref (rf 9 1)), some (.int (nI (rs (fun m => w (7694 + 72 * m + 7)) 0 j))), some (.int (nI j))] [] fi fr ai ar N (xQ (some (.int (nI (rs (fun m => w (7694 + 72 * m + 7)) 0 (w 3))))) fi fr ai ar N))) (w 3) (fun j hj ih => by
    have hq := iv_mv iv hj
    have e : rs (fun m => w (7694 + 72 * m + 7)) 0 (j + 1) = rs (fun m => w (7694 + 72 * m + 7)) 0 j + w (7694 + 72 * j + 7) := by rw [rs_s, Nat.zero_add]
    refine e_iload_n dX9_movesBroken_4 rfl rfl ?_
    refine e_aload_n dX9_movesBroken_5 rfl rfl ?_
    refine e_getE dX9_movesBroken_6 fl_X9_63 rfl (k_mm hK) ?_
    first | ((with_reducible refine mk_nn ?_); refine n_icmp_ge (tgt := 33) dX9_movesBroken_9 (by decide) (by omega) (by omega) (fun h9 => ?_) (fun h9 => ?_)) | refine e_icmp_ge (tgt := 33) dX9_movesBroken_9 (by decide) (fun h9 => ?_) (fun h9 => ?_)
    · try first | contradiction | omega
      all_goals
        refine e_iload_n dX9_movesBroken_33 rfl rfl ?_
        refine e_ret (some _) rfl (r_int dX9_movesBroken_34 rfl) ?_
        exact xq (by first | rfl | simp_all [bI_t, bI_f]) rfl rfl rfl rfl rfl
    · try first | contradiction | omega
      all_goals
        refine e_aload_n dX9_movesBroken_12 rfl rfl ?_
        refine e_getR dX9_movesBroken_13 fl_X9_31 rfl (cm_mvs cm) ?_
        refine e_iload_n dX9_movesBroken_16 rfl rfl ?_
        refine e_aald _ dX9_movesBroken_17 ⟨by decide, by decide⟩ rfl rfl (by simp only [lenK]; omega) (cm_mo cm (by omega)) ?_
        refine e_getE dX9_movesBroken_18 fl_X9_118 rfl (k_m8 hK (by first | omega | (simp (disch := omega) only [upN_n, upN_s]; omega))) ?_
        first | ((with_reducible refine mk_b ?_); refine b_if_eq (tgt := 27) dX9_movesBroken_21 (by decide) (fun h21 => ?_) (fun h21 => ?_)) | ((with_reducible refine mk_ll ?_); refine m_if_eq (tgt := 27) dX9_movesBroken_21 (by decide) (by omega) (by omega) (fun h21 => ?_) (fun h21 => ?_)) | ((with_reducible refine mk_lc ?_); refine l_if_eq (tgt := 27) dX9_movesBroken_21 (by decide) (fun h21 => ?_) (fun h21 => ?_)) | ((with_reducible refine mk_n ?_); refine n_if_eq (tgt := 27) dX9_movesBroken_21 (by decide) (by omega) (fun h21 => ?_) (fun h21 => ?_)) | refine e_if_eq (tgt := 27) dX9_movesBroken_21 (by decide) (fun h21 => ?_) (fun h21 => ?_)
        · try first | contradiction | omega | (simp only [decide_eq_true_eq, decide_eq_false_iff_not] at h21; omega)
          all_goals
            first | refine n_inc dX9_movesBroken_27 rfl (Nat.le_of_ble_eq_true rfl) rfl ?_ | refine e_iinc dX9_movesBroken_27 rfl rfl (Nat.le_of_ble_eq_true rfl) rfl ?_
            refine e_goto (tgt := 4) dX9_movesBroken_30 (by decide) ?_
            first | (rw [e, show w (7694 + 72 * j + 7) = 1 by omega] at ih; exact ih) | (rw [e, show w (7694 + 72 * j + 7) = 0 by omega] at ih; exact ih)
        · try first | contradiction | omega | (simp only [decide_eq_true_eq, decide_eq_false_iff_not] at h21; omega)
          all_goals
            first | refine n_inc dX9_movesBroken_24 rfl (Nat.le_of_ble_eq_true rfl) rfl ?_ | refine e_iinc dX9_movesBroken_24 rfl rfl (Nat.le_of_ble_eq_true rfl) rfl ?_
            first | refine n_inc dX9_movesBroken_27 rfl (Nat.le_of_ble_eq_true rfl) rfl ?_ | refine e_iinc dX9_movesBroken_27 rfl rfl (Nat.le_of_ble_eq_true rfl) rfl ?_
            refine e_goto (tgt := 4) dX9_movesBroken_30 (by decide) ?_
            first | (rw [e, show w (7694 + 72 * j + 7) = 1 by omega] at ih; exact ih) | (rw [e, show w (7694 + 72 * j + 7) = 0 by omega] at ih; exact ih)
    ) (by
    refine e_iload_n dX9_movesBroken_4 rfl rfl ?_
    refine e_aload_n dX9_movesBroken_5 rfl rfl ?_
    refine e_getE dX9_movesBroken_6 fl_X9_63 rfl (k_mm hK) ?_
    first | ((with_reducible refine mk_nn ?_); refine n_icmp_ge (tgt := 33) dX9_movesBroken_9 (by decide) (by omega) (by omega) (fun h9 => ?_) (fun h9 => ?_)) | refine e_icmp_ge (tgt := 33) dX9_movesBroken_9 (by decide) (fun h9 => ?_) (fun h9 => ?_)
    · try first | contradiction | omega
      all_goals
        refine e_iload_n dX9_movesBroken_33 rfl rfl ?_
        refine e_ret (some _) rfl (r_int dX9_movesBroken_34 rfl) ?_
        exact xq rfl rfl rfl rfl rfl rfl
    · try first | contradiction | omega
      all_goals
        refine e_aload_n dX9_movesBroken_12 rfl rfl ?_
        refine e_getR dX9_movesBroken_13 fl_X9_31 rfl (cm_mvs cm) ?_
        refine e_iload_n dX9_movesBroken_16 rfl rfl ?_
        refine e_aald _ dX9_movesBroken_17 ⟨by decide, by decide⟩ rfl rfl (by simp only [lenK]; omega) (cm_mo cm (by omega)) ?_
        refine e_getE dX9_movesBroken_18 fl_X9_118 rfl (k_m8 hK (by first | omega | (simp (disch := omega) only [upN_n, upN_s]; omega))) ?_
        first | ((with_reducible refine mk_b ?_); refine b_if_eq (tgt := 27) dX9_movesBroken_21 (by decide) (fun h21 => ?_) (fun h21 => ?_)) | ((with_reducible refine mk_ll ?_); refine m_if_eq (tgt := 27) dX9_movesBroken_21 (by decide) (by omega) (by omega) (fun h21 => ?_) (fun h21 => ?_)) | ((with_reducible refine mk_lc ?_); refine l_if_eq (tgt := 27) dX9_movesBroken_21 (by decide) (fun h21 => ?_) (fun h21 => ?_)) | ((with_reducible refine mk_n ?_); refine n_if_eq (tgt := 27) dX9_movesBroken_21 (by decide) (by omega) (fun h21 => ?_) (fun h21 => ?_)) | refine e_if_eq (tgt := 27) dX9_movesBroken_21 (by decide) (fun h21 => ?_) (fun h21 => ?_)
        · try first | contradiction | omega | (simp only [decide_eq_true_eq, decide_eq_false_iff_not] at h21; omega)
          all_goals
            first | refine n_inc dX9_movesBroken_27 rfl (Nat.le_of_ble_eq_true rfl) rfl ?_ | refine e_iinc dX9_movesBroken_27 rfl rfl (Nat.le_of_ble_eq_true rfl) rfl ?_
            refine e_goto (tgt := 4) dX9_movesBroken_30 (by decide) ?_
            first | (rw [e, show w (7694 + 72 * j + 7) = 1 by omega] at ih; exact ih) | (rw [e, show w (7694 + 72 * j + 7) = 0 by omega] at ih; exact ih)
        · try first | contradiction | omega | (simp only [decide_eq_true_eq, decide_eq_false_iff_not] at h21; omega)
          all_goals
            first | refine n_inc dX9_movesBroken_24 rfl (Nat.le_of_ble_eq_true rfl) rfl ?_ | refine e_iinc dX9_movesBroken_24 rfl rfl (Nat.le_of_ble_eq_true rfl) rfl ?_
            first | refine n_inc dX9_movesBroken_27 rfl (Nat.le_of_ble_eq_true rfl) rfl ?_ | refine e_iinc dX9_movesBroken_27 rfl rfl (Nat.le_of_ble_eq_true rfl) rfl ?_
            refine e_goto (tgt := 4) dX9_movesBroken_30 (by decide) ?_
            first | (rw [e, show w (7694 + 72 * j + 7) = 1 by omega] at ih; exact ih) | (rw [e, show w (7694 + 72 * j + 7) = 0 by omega] at ih; exact ih)
    )
  refine e_iconst (v := nI 0) dX9_movesBroken_0 rfl ?_
  refine e_istore_n dX9_movesBroken_1 rfl (Nat.le_of_ble_eq_true rfl) rfl ?_
  refine e_iconst (v := nI 0) dX9_movesBroken_2 rfl ?_
  refine e_istore_n dX9_movesBroken_3 rfl (Nat.le_of_ble_eq_true rfl) rfl ?_
  exact key 0 (by omega)
theorem ct_X3_kindOf {fi : FI} {fr : FR} {ai : FI} {ar : FR} {N : Nat} {w lg : Nat → Nat} {E : Nat} (cm : CM fr ar) (iv : Inv w) (hK : K fi ai w lg E) {e : Nat} (he : 1 ≤ e ∧ e ≤ E) (hE : E < 2000) (hl : lg e < 24000) : CP mX3_kindOf 0 0 0 [.ref (rf 3 58), .int (nI e)] fi fr ai ar N (xQ (some (.int (nI (lg e % 4)))) fi fr ai ar N) := by
  have h1 := iv_n iv
  have h3 := iv_mm iv
  have bd := Bd_iv iv
  have hF : FR1 fi ai fi ai := FR1_rf
  change EV mX3_kindOf 0 0 0 0 [some (.ref (rf 3 58)), some (.int (nI e))] [] fi fr ai ar N (xQ (some (.int (nI (lg e % 4)))) fi fr ai ar N)
  refine e_aload_n dX3_kindOf_0 rfl rfl ?_
  refine e_getR dX3_kindOf_1 fl_X3_27 rfl (cl_row cm) ?_
  refine e_iload_n dX3_kindOf_4 rfl rfl ?_
  refine e_iadE _ dX3_kindOf_5 ⟨by decide, by decide⟩ rfl rfl (by simp only [lenK]; omega) (k_row hK (by first | omega | (simp (disch := omega) only [upN_n, upN_s]; omega)) (by first | omega | (simp (disch := omega) only [upN_n, upN_s]; omega))) ?_
  refine e_iconst (v := nI 4) dX3_kindOf_6 rfl ?_
  first | ((with_reducible refine mk_nn ?_); refine n_irem dX3_kindOf_7 (by omega) (by omega) (by omega) ?_) | refine e_irem dX3_kindOf_7 (by decide) ?_
  refine e_ret (some _) rfl (r_int dX3_kindOf_8 rfl) ?_
  exact xq rfl rfl rfl rfl rfl rfl
theorem ct_X3_ownerOfChange {fi : FI} {fr : FR} {ai : FI} {ar : FR} {N : Nat} {w lg : Nat → Nat} {E : Nat} (cm : CM fr ar) (iv : Inv w) (hK : K fi ai w lg E) {e : Nat} (he : 1 ≤ e ∧ e ≤ E) (hE : E < 2000) (hl : lg e < 24000) : CP mX3_ownerOfChange 0 0 0 [.ref (rf 3 58), .int (nI e)] fi fr ai ar N (xQ (some (.int (nI (lg e / 4 % 6)))) fi fr ai ar N) := by
  have h1 := iv_n iv
  have h3 := iv_mm iv
  have bd := Bd_iv iv
  have hF : FR1 fi ai fi ai := FR1_rf
  change EV mX3_ownerOfChange 0 0 0 0 [some (.ref (rf 3 58)), some (.int (nI e))] [] fi fr ai ar N (xQ (some (.int (nI (lg e / 4 % 6)))) fi fr ai ar N)
  refine e_aload_n dX3_ownerOfChange_0 rfl rfl ?_
  refine e_getR dX3_ownerOfChange_1 fl_X3_27 rfl (cl_row cm) ?_
  refine e_iload_n dX3_ownerOfChange_4 rfl rfl ?_
  refine e_iadE _ dX3_ownerOfChange_5 ⟨by decide, by decide⟩ rfl rfl (by simp only [lenK]; omega) (k_row hK (by first | omega | (simp (disch := omega) only [upN_n, upN_s]; omega)) (by first | omega | (simp (disch := omega) only [upN_n, upN_s]; omega))) ?_
  refine e_iconst (v := nI 4) dX3_ownerOfChange_6 rfl ?_
  first | ((with_reducible refine mk_nn ?_); refine n_idiv dX3_ownerOfChange_7 (by omega) (by omega) (by omega) ?_) | refine e_idiv dX3_ownerOfChange_7 (by decide) ?_
  refine e_bipush (v := nI 6) dX3_ownerOfChange_8 rfl ?_
  first | ((with_reducible refine mk_nn ?_); refine n_irem dX3_ownerOfChange_10 (by omega) (by omega) (by omega) ?_) | refine e_irem dX3_ownerOfChange_10 (by decide) ?_
  refine e_ret (some _) rfl (r_int dX3_ownerOfChange_11 rfl) ?_
  exact xq rfl rfl rfl rfl rfl rfl
theorem ct_X3_lowOfChange {fi : FI} {fr : FR} {ai : FI} {ar : FR} {N : Nat} {w lg : Nat → Nat} {E : Nat} (cm : CM fr ar) (iv : Inv w) (hK : K fi ai w lg E) {e : Nat} (he : 1 ≤ e ∧ e ≤ E) (hE : E < 2000) (hl : lg e < 24000) : CP mX3_lowOfChange 0 0 0 [.ref (rf 3 58), .int (nI e)] fi fr ai ar N (xQ (some (.int (nI (lg e / 4 / 6)))) fi fr ai ar N) := by
  have h1 := iv_n iv
  have h3 := iv_mm iv
  have bd := Bd_iv iv
  have hF : FR1 fi ai fi ai := FR1_rf
  change EV mX3_lowOfChange 0 0 0 0 [some (.ref (rf 3 58)), some (.int (nI e))] [] fi fr ai ar N (xQ (some (.int (nI (lg e / 4 / 6)))) fi fr ai ar N)
  refine e_aload_n dX3_lowOfChange_0 rfl rfl ?_
  refine e_getR dX3_lowOfChange_1 fl_X3_27 rfl (cl_row cm) ?_
  refine e_iload_n dX3_lowOfChange_4 rfl rfl ?_
  refine e_iadE _ dX3_lowOfChange_5 ⟨by decide, by decide⟩ rfl rfl (by simp only [lenK]; omega) (k_row hK (by first | omega | (simp (disch := omega) only [upN_n, upN_s]; omega)) (by first | omega | (simp (disch := omega) only [upN_n, upN_s]; omega))) ?_
  refine e_iconst (v := nI 4) dX3_lowOfChange_6 rfl ?_
  first | ((with_reducible refine mk_nn ?_); refine n_idiv dX3_lowOfChange_7 (by omega) (by omega) (by omega) ?_) | refine e_idiv dX3_lowOfChange_7 (by decide) ?_
  refine e_bipush (v := nI 6) dX3_lowOfChange_8 rfl ?_
  first | ((with_reducible refine mk_nn ?_); refine n_idiv dX3_lowOfChange_10 (by omega) (by omega) (by omega) ?_) | refine e_idiv dX3_lowOfChange_10 (by decide) ?_
  refine e_ret (some _) rfl (r_int dX3_lowOfChange_11 rfl) ?_
  exact xq rfl rfl rfl rfl rfl rfl
def swB (w : Nat → Nat) (k m : Nat) : Bool := decide (0 < w (7694 + 72 * m + 11)) && decide (w (7694 + 72 * m + 1) ≤ k ∧ k < w (7694 + 72 * m + 2))
def paC (w : Nat → Nat) (k t : Nat) : Option Nat := (fO (fun i => swB w k i && decide (cnt (swB w k) i = t)) (w 3)).map (fun m => w (7694 + 72 * m + 11))
def owC (w : Nat → Nat) (t k : Nat) (o : Nat) : Nat → Nat
  | 0 => o
  | j + 1 => if swB w k j && decide (w (7694 + 72 * j + 11) ≤ t) then w (7694 + 72 * j + 4) else owC w t k o j
theorem ct_X9_passedOn {fi : FI} {fr : FR} {ai : FI} {ar : FR} {N : Nat} {w lg : Nat → Nat} {E : Nat} (cm : CM fr ar) (iv : Inv w) (hK : K fi ai w lg E) {k t : Nat} (hk : k < 1000) (ht : t < 2147483648) : CP mX9_passedOn 1 0 0 [.ref (rf 9 1), .int (nI k), .int (nI t)] fi fr ai ar N (xQ (some (.int (oI (paC w k t)))) fi fr ai ar N) := by
  have h1 := iv_n iv
  have h3 := iv_mm iv
  have bd := Bd_iv iv
  have hF : FR1 fi ai fi ai := FR1_rf
  change EV mX9_passedOn 1 0 0 0 [some (.ref (rf 9 1)), some (.int (nI k)), some (.int (nI t)), none, none] [] fi fr ai ar N (xQ (some (.int (oI (paC w k t)))) fi fr ai ar N)
  have key := ev_up (P := (fun j => (∀ i, i < j → (swB w k i && decide (cnt (swB w k) i = t)) = false) → EV mX9_passedOn 1 0 0 5 [some (.ref (rf 9 1)), some (.int (nI k)), some (.int (nI t)), some (.int (nI (cnt (swB w k) j))), some (.int (nI j))] [] fi fr ai ar N (xQ (some (.int (oI (paC w k t)))) fi fr ai ar N))) (w 3) (fun j hj ih hn => by
    have hq := iv_mv iv hj
    have hc := cnt_le (swB w k) j
    refine e_iload dX9_passedOn_5 rfl ?_
    refine e_aload_n dX9_passedOn_7 rfl rfl ?_
    refine e_getE dX9_passedOn_8 fl_X9_63 rfl (k_mm hK) ?_
    first | ((with_reducible refine mk_nn ?_); refine n_icmp_ge (tgt := 66) dX9_passedOn_11 (by decide) (by omega) (by omega) (fun h11 => ?_) (fun h11 => ?_)) | refine e_icmp_ge (tgt := 66) dX9_passedOn_11 (by decide) (fun h11 => ?_) (fun h11 => ?_)
    · try first | contradiction | omega
      all_goals
        refine e_iconst (v := -1) dX9_passedOn_66 rfl ?_
        refine e_ret (some _) rfl (r_int dX9_passedOn_67 rfl) ?_
        refine xq ?_ rfl rfl rfl rfl rfl
        unfold paC
        rw [fO_eq (i := j) hn (by simp_all [swB]) hj]
        rfl
    · try first | contradiction | omega
      all_goals
        refine e_aload_n dX9_passedOn_14 rfl rfl ?_
        refine e_getR dX9_passedOn_15 fl_X9_31 rfl (cm_mvs cm) ?_
        refine e_iload dX9_passedOn_18 rfl ?_
        refine e_aald _ dX9_passedOn_20 ⟨by decide, by decide⟩ rfl rfl (by simp only [lenK]; omega) (cm_mo cm (by omega)) ?_
        refine e_getE dX9_passedOn_21 fl_X9_126 rfl (k_m12 hK (by first | omega | (simp (disch := omega) only [upN_n, upN_s]; omega))) ?_
        first | ((with_reducible refine mk_ll ?_); refine m_if_le (tgt := 60) dX9_passedOn_24 (by decide) (by omega) (by omega) (fun h24 => ?_) (fun h24 => ?_)) | ((with_reducible refine mk_lc ?_); refine l_if_le (tgt := 60) dX9_passedOn_24 (by decide) (fun h24 => ?_) (fun h24 => ?_)) | ((with_reducible refine mk_n ?_); refine n_if_le (tgt := 60) dX9_passedOn_24 (by decide) (by omega) (fun h24 => ?_) (fun h24 => ?_)) | refine e_if_le (tgt := 60) dX9_passedOn_24 (by decide) (fun h24 => ?_) (fun h24 => ?_)
        · try first | contradiction | omega
          all_goals
            first | refine n_inc dX9_passedOn_60 rfl (Nat.le_of_ble_eq_true rfl) rfl ?_ | refine e_iinc dX9_passedOn_60 rfl rfl (Nat.le_of_ble_eq_true rfl) rfl ?_
            refine e_goto (tgt := 5) dX9_passedOn_63 (by decide) ?_
            have hsw : swB w k j = true ∨ swB w k j = false := by cases swB w k j <;> simp
            first | (rw [cnt_t (n := j) (by unfold swB; simp_all)] at ih; refine ih (fun i hi => ?_)) | (rw [cnt_f (n := j) (by unfold swB; simp_all)] at ih; refine ih (fun i hi => ?_))
            by_cases e : i = j
            · subst e; first | (rw [decide_eq_false (by assumption)]; simp) | (rw [show swB w k i = false by unfold swB; simp_all]; rfl)
            · exact hn i (by omega)
        · try first | contradiction | omega
          all_goals
            refine e_aload_n dX9_passedOn_27 rfl rfl ?_
            refine e_getR dX9_passedOn_28 fl_X9_31 rfl (cm_mvs cm) ?_
            refine e_iload dX9_passedOn_31 rfl ?_
            refine e_aald _ dX9_passedOn_33 ⟨by decide, by decide⟩ rfl rfl (by simp only [lenK]; omega) (cm_mo cm (by omega)) ?_
            refine e_iload_n dX9_passedOn_34 rfl rfl ?_
            refine x_V1 (M' := mX4_covers) dX9_passedOn_35 ml_X9_127 ok_X4_covers (by decide) rfl im_X4_covers se_X4_covers (ct_X4_covers cm iv hK (by omega) (by omega)) (Nat.le_of_ble_eq_true rfl) (by decide) (Nat.le_of_ble_eq_true rfl) ?_
            first | ((with_reducible refine mk_b ?_); refine b_if_eq (tgt := 60) dX9_passedOn_38 (by decide) (fun h38 => ?_) (fun h38 => ?_)) | ((with_reducible refine mk_ll ?_); refine m_if_eq (tgt := 60) dX9_passedOn_38 (by decide) (by omega) (by omega) (fun h38 => ?_) (fun h38 => ?_)) | ((with_reducible refine mk_lc ?_); refine l_if_eq (tgt := 60) dX9_passedOn_38 (by decide) (fun h38 => ?_) (fun h38 => ?_)) | ((with_reducible refine mk_n ?_); refine n_if_eq (tgt := 60) dX9_passedOn_38 (by decide) (by omega) (fun h38 => ?_) (fun h38 => ?_)) | refine e_if_eq (tgt := 60) dX9_passedOn_38 (by decide) (fun h38 => ?_) (fun h38 => ?_)
            · try first | contradiction | omega | (simp only [decide_eq_true_eq, decide_eq_false_iff_not] at h38; omega)
              all_goals
                first | refine n_inc dX9_passedOn_60 rfl (Nat.le_of_ble_eq_true rfl) rfl ?_ | refine e_iinc dX9_passedOn_60 rfl rfl (Nat.le_of_ble_eq_true rfl) rfl ?_
                refine e_goto (tgt := 5) dX9_passedOn_63 (by decide) ?_
                have hsw : swB w k j = true ∨ swB w k j = false := by cases swB w k j <;> simp
                first | (rw [cnt_t (n := j) (by unfold swB; simp_all)] at ih; refine ih (fun i hi => ?_)) | (rw [cnt_f (n := j) (by unfold swB; simp_all)] at ih; refine ih (fun i hi => ?_))
                by_cases e : i = j
                · subst e; first | (rw [decide_eq_false (by assumption)]; simp) | (rw [show swB w k i = false by unfold swB; simp_all]; rfl)
                · exact hn i (by omega)
            · try first | contradiction | omega | (simp only [decide_eq_true_eq, decide_eq_false_iff_not] at h38; omega)
              all_goals
                refine e_iload_n dX9_passedOn_41 rfl rfl ?_
                refine e_iload_n dX9_passedOn_42 rfl rfl ?_
                first | ((with_reducible refine mk_mo ?_); refine p_icmp_ne (tgt := 57) dX9_passedOn_43 (by decide) (fun h43 => ?_) (fun h43 => ?_)) | ((with_reducible refine mk_ms ?_); refine s_icmp_ne (tgt := 57) dX9_passedOn_43 (by decide) (by omega) (fun h43 => ?_) (fun h43 => ?_)) | ((with_reducible refine mk_mn ?_); refine q_icmp_ne (tgt := 57) dX9_passedOn_43 (by decide) (by omega) (fun h43 => ?_) (fun h43 => ?_)) | ((with_reducible refine mk_nn ?_); refine n_icmp_ne (tgt := 57) dX9_passedOn_43 (by decide) (by omega) (by omega) (fun h43 => ?_) (fun h43 => ?_)) | refine e_icmp_ne (tgt := 57) dX9_passedOn_43 (by decide) (fun h43 => ?_) (fun h43 => ?_)
                · try first | contradiction | omega
                  all_goals
                    first | refine n_inc dX9_passedOn_57 rfl (Nat.le_of_ble_eq_true rfl) rfl ?_ | refine e_iinc dX9_passedOn_57 rfl rfl (Nat.le_of_ble_eq_true rfl) rfl ?_
                    first | refine n_inc dX9_passedOn_60 rfl (Nat.le_of_ble_eq_true rfl) rfl ?_ | refine e_iinc dX9_passedOn_60 rfl rfl (Nat.le_of_ble_eq_true rfl) rfl ?_
                    refine e_goto (tgt := 5) dX9_passedOn_63 (by decide) ?_
                    have hsw : swB w k j = true ∨ swB w k j = false := by cases swB w k j <;> simp
                    first | (rw [cnt_t (n := j) (by unfold swB; simp_all)] at ih; refine ih (fun i hi => ?_)) | (rw [cnt_f (n := j) (by unfold swB; simp_all)] at ih; refine ih (fun i hi => ?_))
                    by_cases e : i = j
                    · subst e; first | (rw [decide_eq_false (by assumption)]; simp) | (rw [show swB w k i = false by unfold swB; simp_all]; rfl)
                    · exact hn i (by omega)
                · try first | contradiction | omega
                  all_goals
                    refine e_aload_n dX9_passedOn_46 rfl rfl ?_
                    refine e_getR dX9_passedOn_47 fl_X9_31 rfl (cm_mvs cm) ?_
                    refine e_iload dX9_passedOn_50 rfl ?_
                    refine e_aald _ dX9_passedOn_52 ⟨by decide, by decide⟩ rfl rfl (by simp only [lenK]; omega) (cm_mo cm (by omega)) ?_
                    refine e_getE dX9_passedOn_53 fl_X9_126 rfl (k_m12 hK (by first | omega | (simp (disch := omega) only [upN_n, upN_s]; omega))) ?_
                    refine e_ret (some _) rfl (r_int dX9_passedOn_56 rfl) ?_
                    refine xq ?_ rfl rfl rfl rfl rfl
                    unfold paC
                    rw [fO_eq (i := j) hn (by simp_all [swB]) hj]
                    rfl
    ) (fun hn => by
    refine e_iload dX9_passedOn_5 rfl ?_
    refine e_aload_n dX9_passedOn_7 rfl rfl ?_
    refine e_getE dX9_passedOn_8 fl_X9_63 rfl (k_mm hK) ?_
    first | ((with_reducible refine mk_nn ?_); refine n_icmp_ge (tgt := 66) dX9_passedOn_11 (by decide) (by omega) (by omega) (fun h11 => ?_) (fun h11 => ?_)) | refine e_icmp_ge (tgt := 66) dX9_passedOn_11 (by decide) (fun h11 => ?_) (fun h11 => ?_)
    · try first | contradiction | omega
      all_goals
        refine e_iconst (v := -1) dX9_passedOn_66 rfl ?_
        refine e_ret (some _) rfl (r_int dX9_passedOn_67 rfl) ?_
        refine xq ?_ rfl rfl rfl rfl rfl
        unfold paC
        rw [fO_no hn]
        rfl
    · try first | contradiction | omega
      all_goals
        refine e_aload_n dX9_passedOn_14 rfl rfl ?_
        refine e_getR dX9_passedOn_15 fl_X9_31 rfl (cm_mvs cm) ?_
        refine e_iload dX9_passedOn_18 rfl ?_
        refine e_aald _ dX9_passedOn_20 ⟨by decide, by decide⟩ rfl rfl (by simp only [lenK]; omega) (cm_mo cm (by omega)) ?_
        refine e_getE dX9_passedOn_21 fl_X9_126 rfl (k_m12 hK (by first | omega | (simp (disch := omega) only [upN_n, upN_s]; omega))) ?_
        first | ((with_reducible refine mk_ll ?_); refine m_if_le (tgt := 60) dX9_passedOn_24 (by decide) (by omega) (by omega) (fun h24 => ?_) (fun h24 => ?_)) | ((with_reducible refine mk_lc ?_); refine l_if_le (tgt := 60) dX9_passedOn_24 (by decide) (fun h24 => ?_) (fun h24 => ?_)) | ((with_reducible refine mk_n ?_); refine n_if_le (tgt := 60) dX9_passedOn_24 (by decide) (by omega) (fun h24 => ?_) (fun h24 => ?_)) | refine e_if_le (tgt := 60) dX9_passedOn_24 (by decide) (fun h24 => ?_) (fun h24 => ?_)
        · try first | contradiction | omega
          all_goals
            first | refine n_inc dX9_passedOn_60 rfl (Nat.le_of_ble_eq_true rfl) rfl ?_ | refine e_iinc dX9_passedOn_60 rfl rfl (Nat.le_of_ble_eq_true rfl) rfl ?_
            refine e_goto (tgt := 5) dX9_passedOn_63 (by decide) ?_
            have hsw : swB w k j = true ∨ swB w k j = false := by cases swB w k j <;> simp
            first | (rw [cnt_t (n := j) (by unfold swB; simp_all)] at ih; refine ih (fun i hi => ?_)) | (rw [cnt_f (n := j) (by unfold swB; simp_all)] at ih; refine ih (fun i hi => ?_))
            by_cases e : i = j
            · subst e; first | (rw [decide_eq_false (by assumption)]; simp) | (rw [show swB w k i = false by unfold swB; simp_all]; rfl)
            · exact hn i (by omega)
        · try first | contradiction | omega
          all_goals
            refine e_aload_n dX9_passedOn_27 rfl rfl ?_
            refine e_getR dX9_passedOn_28 fl_X9_31 rfl (cm_mvs cm) ?_
            refine e_iload dX9_passedOn_31 rfl ?_
            refine e_aald _ dX9_passedOn_33 ⟨by decide, by decide⟩ rfl rfl (by simp only [lenK]; omega) (cm_mo cm (by omega)) ?_
            refine e_iload_n dX9_passedOn_34 rfl rfl ?_
            refine x_V1 (M' := mX4_covers) dX9_passedOn_35 ml_X9_127 ok_X4_covers (by decide) rfl im_X4_covers se_X4_covers (ct_X4_covers cm iv hK (by omega) (by omega)) (Nat.le_of_ble_eq_true rfl) (by decide) (Nat.le_of_ble_eq_true rfl) ?_
            first | ((with_reducible refine mk_b ?_); refine b_if_eq (tgt := 60) dX9_passedOn_38 (by decide) (fun h38 => ?_) (fun h38 => ?_)) | ((with_reducible refine mk_ll ?_); refine m_if_eq (tgt := 60) dX9_passedOn_38 (by decide) (by omega) (by omega) (fun h38 => ?_) (fun h38 => ?_)) | ((with_reducible refine mk_lc ?_); refine l_if_eq (tgt := 60) dX9_passedOn_38 (by decide) (fun h38 => ?_) (fun h38 => ?_)) | ((with_reducible refine mk_n ?_); refine n_if_eq (tgt := 60) dX9_passedOn_38 (by decide) (by omega) (fun h38 => ?_) (fun h38 => ?_)) | refine e_if_eq (tgt := 60) dX9_passedOn_38 (by decide) (fun h38 => ?_) (fun h38 => ?_)
            · try first | contradiction | omega | (simp only [decide_eq_true_eq, decide_eq_false_iff_not] at h38; omega)
              all_goals
                first | refine n_inc dX9_passedOn_60 rfl (Nat.le_of_ble_eq_true rfl) rfl ?_ | refine e_iinc dX9_passedOn_60 rfl rfl (Nat.le_of_ble_eq_true rfl) rfl ?_
                refine e_goto (tgt := 5) dX9_passedOn_63 (by decide) ?_
                have hsw : swB w k j = true ∨ swB w k j = false := by cases swB w k j <;> simp
                first | (rw [cnt_t (n := j) (by unfold swB; simp_all)] at ih; refine ih (fun i hi => ?_)) | (rw [cnt_f (n := j) (by unfold swB; simp_all)] at ih; refine ih (fun i hi => ?_))
                by_cases e : i = j
                · subst e; first | (rw [decide_eq_false (by assumption)]; simp) | (rw [show swB w k i = false by unfold swB; simp_all]; rfl)
                · exact hn i (by omega)
            · try first | contradiction | omega | (simp only [decide_eq_true_eq, decide_eq_false_iff_not] at h38; omega)
              all_goals
                refine e_iload_n dX9_passedOn_41 rfl rfl ?_
                refine e_iload_n dX9_passedOn_42 rfl rfl ?_
                first | ((with_reducible refine mk_mo ?_); refine p_icmp_ne (tgt := 57) dX9_passedOn_43 (by decide) (fun h43 => ?_) (fun h43 => ?_)) | ((with_reducible refine mk_ms ?_); refine s_icmp_ne (tgt := 57) dX9_passedOn_43 (by decide) (by omega) (fun h43 => ?_) (fun h43 => ?_)) | ((with_reducible refine mk_mn ?_); refine q_icmp_ne (tgt := 57) dX9_passedOn_43 (by decide) (by omega) (fun h43 => ?_) (fun h43 => ?_)) | ((with_reducible refine mk_nn ?_); refine n_icmp_ne (tgt := 57) dX9_passedOn_43 (by decide) (by omega) (by omega) (fun h43 => ?_) (fun h43 => ?_)) | refine e_icmp_ne (tgt := 57) dX9_passedOn_43 (by decide) (fun h43 => ?_) (fun h43 => ?_)
                · try first | contradiction | omega
                  all_goals
                    first | refine n_inc dX9_passedOn_57 rfl (Nat.le_of_ble_eq_true rfl) rfl ?_ | refine e_iinc dX9_passedOn_57 rfl rfl (Nat.le_of_ble_eq_true rfl) rfl ?_
                    first | refine n_inc dX9_passedOn_60 rfl (Nat.le_of_ble_eq_true rfl) rfl ?_ | refine e_iinc dX9_passedOn_60 rfl rfl (Nat.le_of_ble_eq_true rfl) rfl ?_
                    refine e_goto (tgt := 5) dX9_passedOn_63 (by decide) ?_
                    have hsw : swB w k j = true ∨ swB w k j = false := by cases swB w k j <;> simp
                    first | (rw [cnt_t (n := j) (by unfold swB; simp_all)] at ih; refine ih (fun i hi => ?_)) | (rw [cnt_f (n := j) (by unfold swB; simp_all)] at ih; refine ih (fun i hi => ?_))
                    by_cases e : i = j
                    · subst e; first | (rw [decide_eq_false (by assumption)]; simp) | (rw [show swB w k i = false by unfold swB; simp_all]; rfl)
                    · exact hn i (by omega)
                · try first | contradiction | omega
                  all_goals
                    refine e_aload_n dX9_passedOn_46 rfl rfl ?_
                    refine e_getR dX9_passedOn_47 fl_X9_31 rfl (cm_mvs cm) ?_
                    refine e_iload dX9_passedOn_50 rfl ?_
                    refine e_aald _ dX9_passedOn_52 ⟨by decide, by decide⟩ rfl rfl (by simp only [lenK]; omega) (cm_mo cm (by omega)) ?_
                    refine e_getE dX9_passedOn_53 fl_X9_126 rfl (k_m12 hK (by first | omega | (simp (disch := omega) only [upN_n, upN_s]; omega))) ?_
                    refine e_ret (some _) rfl (r_int dX9_passedOn_56 rfl) ?_
                    refine xq ?_ rfl rfl rfl rfl rfl
                    unfold paC
                    rw [fO_no hn]
                    rfl
    )
  refine e_iconst (v := nI 0) dX9_passedOn_0 rfl ?_
  refine e_istore_n dX9_passedOn_1 rfl (Nat.le_of_ble_eq_true rfl) rfl ?_
  refine e_iconst (v := nI 0) dX9_passedOn_2 rfl ?_
  refine e_istore dX9_passedOn_3 (Nat.le_of_ble_eq_true rfl) rfl ?_
  exact key 0 (by omega) (fun i hi => absurd hi (by omega))
theorem ct_X9_ownerAt {fi : FI} {fr : FR} {ai : FI} {ar : FR} {N : Nat} {w lg : Nat → Nat} {E : Nat} (cm : CM fr ar) (iv : Inv w) (hK : K fi ai w lg E) {t k : Nat} (hk : k < 1000) (ht : t < 2147483648) : CP mX9_ownerAt 1 0 0 [.ref (rf 9 1), .int (nI t), .int (nI k)] fi fr ai ar N (xQ (some (.int (nI (owC w t k 0 (w 3))))) fi fr ai ar N) := by
  have h1 := iv_n iv
  have h3 := iv_mm iv
  have bd := Bd_iv iv
  have hF : FR1 fi ai fi ai := FR1_rf
  change EV mX9_ownerAt 1 0 0 0 [some (.ref (rf 9 1)), some (.int (nI t)), some (.int (nI k)), none, none, none] [] fi fr ai ar N (xQ (some (.int (nI (owC w t k 0 (w 3))))) fi fr ai ar N)
  have key := ev_up (P := (fun j => (∀ x : Option Value, EV mX9_ownerAt 1 0 0 5 [some (.ref (rf 9 1)), some (.int (nI t)), some (.int (nI k)), some (.int (nI (owC w t k 0 j))), some (.int (nI j)), x] [] fi fr ai ar N (xQ (some (.int (nI (owC w t k 0 (w 3))))) fi fr ai ar N)))) (w 3) (fun j hj ih x => by
    have hq := iv_mv iv hj
    refine e_iload dX9_ownerAt_5 rfl ?_
    refine e_aload_n dX9_ownerAt_7 rfl rfl ?_
    refine e_getE dX9_ownerAt_8 fl_X9_63 rfl (k_mm hK) ?_
    first | ((with_reducible refine mk_nn ?_); refine n_icmp_ge (tgt := 61) dX9_ownerAt_11 (by decide) (by omega) (by omega) (fun h11 => ?_) (fun h11 => ?_)) | refine e_icmp_ge (tgt := 61) dX9_ownerAt_11 (by decide) (fun h11 => ?_) (fun h11 => ?_)
    · try first | contradiction | omega
      all_goals
        refine e_iload_n dX9_ownerAt_61 rfl rfl ?_
        refine e_ret (some _) rfl (r_int dX9_ownerAt_62 rfl) ?_
        exact xq (by first | rfl | simp_all [bI_t, bI_f]) rfl rfl rfl rfl rfl
    · try first | contradiction | omega
      all_goals
        refine e_aload_n dX9_ownerAt_14 rfl rfl ?_
        refine e_getR dX9_ownerAt_15 fl_X9_31 rfl (cm_mvs cm) ?_
        refine e_iload dX9_ownerAt_18 rfl ?_
        refine e_aald _ dX9_ownerAt_20 ⟨by decide, by decide⟩ rfl rfl (by simp only [lenK]; omega) (cm_mo cm (by omega)) ?_
        refine e_astore dX9_ownerAt_21 (Nat.le_of_ble_eq_true rfl) rfl ?_
        refine e_aload dX9_ownerAt_23 rfl ?_
        refine e_getE dX9_ownerAt_25 fl_X9_126 rfl (k_m12 hK (by first | omega | (simp (disch := omega) only [upN_n, upN_s]; omega))) ?_
        first | ((with_reducible refine mk_ll ?_); refine m_if_le (tgt := 55) dX9_ownerAt_28 (by decide) (by omega) (by omega) (fun h28 => ?_) (fun h28 => ?_)) | ((with_reducible refine mk_lc ?_); refine l_if_le (tgt := 55) dX9_ownerAt_28 (by decide) (fun h28 => ?_) (fun h28 => ?_)) | ((with_reducible refine mk_n ?_); refine n_if_le (tgt := 55) dX9_ownerAt_28 (by decide) (by omega) (fun h28 => ?_) (fun h28 => ?_)) | refine e_if_le (tgt := 55) dX9_ownerAt_28 (by decide) (fun h28 => ?_) (fun h28 => ?_)
        · try first | contradiction | omega
          all_goals
            first | refine n_inc dX9_ownerAt_55 rfl (Nat.le_of_ble_eq_true rfl) rfl ?_ | refine e_iinc dX9_ownerAt_55 rfl rfl (Nat.le_of_ble_eq_true rfl) rfl ?_
            refine e_goto (tgt := 5) dX9_ownerAt_58 (by decide) ?_
            have e : owC w t k 0 (j + 1) = if swB w k j && decide (w (7694 + 72 * j + 11) ≤ t) then w (7694 + 72 * j + 4) else owC w t k 0 j := rfl
            first | (rw [if_pos (by unfold swB; simp_all)] at e; rw [e] at ih; exact ih _) | (rw [if_neg (by unfold swB; simp_all)] at e; rw [e] at ih; exact ih _) | (rw [if_neg (by unfold swB; simp_all <;> omega)] at e; rw [e] at ih; exact ih _)
        · try first | contradiction | omega
          all_goals
            refine e_aload dX9_ownerAt_31 rfl ?_
            refine e_getE dX9_ownerAt_33 fl_X9_126 rfl (k_m12 hK (by first | omega | (simp (disch := omega) only [upN_n, upN_s]; omega))) ?_
            refine e_iload_n dX9_ownerAt_36 rfl rfl ?_
            first | ((with_reducible refine mk_nn ?_); refine n_icmp_gt (tgt := 55) dX9_ownerAt_37 (by decide) (by omega) (by omega) (fun h37 => ?_) (fun h37 => ?_)) | refine e_icmp_gt (tgt := 55) dX9_ownerAt_37 (by decide) (fun h37 => ?_) (fun h37 => ?_)
            · try first | contradiction | omega
              all_goals
                first | refine n_inc dX9_ownerAt_55 rfl (Nat.le_of_ble_eq_true rfl) rfl ?_ | refine e_iinc dX9_ownerAt_55 rfl rfl (Nat.le_of_ble_eq_true rfl) rfl ?_
                refine e_goto (tgt := 5) dX9_ownerAt_58 (by decide) ?_
                have e : owC w t k 0 (j + 1) = if swB w k j && decide (w (7694 + 72 * j + 11) ≤ t) then w (7694 + 72 * j + 4) else owC w t k 0 j := rfl
                first | (rw [if_pos (by unfold swB; simp_all)] at e; rw [e] at ih; exact ih _) | (rw [if_neg (by unfold swB; simp_all)] at e; rw [e] at ih; exact ih _) | (rw [if_neg (by unfold swB; simp_all <;> omega)] at e; rw [e] at ih; exact ih _)
            · try first | contradiction | omega
              all_goals
                refine e_aload dX9_ownerAt_40 rfl ?_
                refine e_iload_n dX9_ownerAt_42 rfl rfl ?_
                refine x_V1 (M' := mX4_covers) dX9_ownerAt_43 ml_X9_127 ok_X4_covers (by decide) rfl im_X4_covers se_X4_covers (ct_X4_covers cm iv hK (by omega) (by omega)) (Nat.le_of_ble_eq_true rfl) (by decide) (Nat.le_of_ble_eq_true rfl) ?_
                first | ((with_reducible refine mk_b ?_); refine b_if_eq (tgt := 55) dX9_ownerAt_46 (by decide) (fun h46 => ?_) (fun h46 => ?_)) | ((with_reducible refine mk_ll ?_); refine m_if_eq (tgt := 55) dX9_ownerAt_46 (by decide) (by omega) (by omega) (fun h46 => ?_) (fun h46 => ?_)) | ((with_reducible refine mk_lc ?_); refine l_if_eq (tgt := 55) dX9_ownerAt_46 (by decide) (fun h46 => ?_) (fun h46 => ?_)) | ((with_reducible refine mk_n ?_); refine n_if_eq (tgt := 55) dX9_ownerAt_46 (by decide) (by omega) (fun h46 => ?_) (fun h46 => ?_)) | refine e_if_eq (tgt := 55) dX9_ownerAt_46 (by decide) (fun h46 => ?_) (fun h46 => ?_)
                · try first | contradiction | omega | (simp only [decide_eq_true_eq, decide_eq_false_iff_not] at h46; omega)
                  all_goals
                    first | refine n_inc dX9_ownerAt_55 rfl (Nat.le_of_ble_eq_true rfl) rfl ?_ | refine e_iinc dX9_ownerAt_55 rfl rfl (Nat.le_of_ble_eq_true rfl) rfl ?_
                    refine e_goto (tgt := 5) dX9_ownerAt_58 (by decide) ?_
                    have e : owC w t k 0 (j + 1) = if swB w k j && decide (w (7694 + 72 * j + 11) ≤ t) then w (7694 + 72 * j + 4) else owC w t k 0 j := rfl
                    first | (rw [if_pos (by unfold swB; simp_all)] at e; rw [e] at ih; exact ih _) | (rw [if_neg (by unfold swB; simp_all)] at e; rw [e] at ih; exact ih _) | (rw [if_neg (by unfold swB; simp_all <;> omega)] at e; rw [e] at ih; exact ih _)
                · try first | contradiction | omega | (simp only [decide_eq_true_eq, decide_eq_false_iff_not] at h46; omega)
                  all_goals
                    refine e_aload dX9_ownerAt_49 rfl ?_
                    refine e_getE dX9_ownerAt_51 fl_X9_99 rfl (k_m6 hK (by first | omega | (simp (disch := omega) only [upN_n, upN_s]; omega))) ?_
                    refine e_istore_n dX9_ownerAt_54 rfl (Nat.le_of_ble_eq_true rfl) rfl ?_
                    first | refine n_inc dX9_ownerAt_55 rfl (Nat.le_of_ble_eq_true rfl) rfl ?_ | refine e_iinc dX9_ownerAt_55 rfl rfl (Nat.le_of_ble_eq_true rfl) rfl ?_
                    refine e_goto (tgt := 5) dX9_ownerAt_58 (by decide) ?_
                    have e : owC w t k 0 (j + 1) = if swB w k j && decide (w (7694 + 72 * j + 11) ≤ t) then w (7694 + 72 * j + 4) else owC w t k 0 j := rfl
                    first | (rw [if_pos (by unfold swB; simp_all)] at e; rw [e] at ih; exact ih _) | (rw [if_neg (by unfold swB; simp_all)] at e; rw [e] at ih; exact ih _) | (rw [if_neg (by unfold swB; simp_all <;> omega)] at e; rw [e] at ih; exact ih _)
    ) (fun x => by
    refine e_iload dX9_ownerAt_5 rfl ?_
    refine e_aload_n dX9_ownerAt_7 rfl rfl ?_
    refine e_getE dX9_ownerAt_8 fl_X9_63 rfl (k_mm hK) ?_
    first | ((with_reducible refine mk_nn ?_); refine n_icmp_ge (tgt := 61) dX9_ownerAt_11 (by decide) (by omega) (by omega) (fun h11 => ?_) (fun h11 => ?_)) | refine e_icmp_ge (tgt := 61) dX9_ownerAt_11 (by decide) (fun h11 => ?_) (fun h11 => ?_)
    · try first | contradiction | omega
      all_goals
        refine e_iload_n dX9_ownerAt_61 rfl rfl ?_
        refine e_ret (some _) rfl (r_int dX9_ownerAt_62 rfl) ?_
        exact xq rfl rfl rfl rfl rfl rfl
    · try first | contradiction | omega
      all_goals
        refine e_aload_n dX9_ownerAt_14 rfl rfl ?_
        refine e_getR dX9_ownerAt_15 fl_X9_31 rfl (cm_mvs cm) ?_
        refine e_iload dX9_ownerAt_18 rfl ?_
        refine e_aald _ dX9_ownerAt_20 ⟨by decide, by decide⟩ rfl rfl (by simp only [lenK]; omega) (cm_mo cm (by omega)) ?_
        refine e_astore dX9_ownerAt_21 (Nat.le_of_ble_eq_true rfl) rfl ?_
        refine e_aload dX9_ownerAt_23 rfl ?_
        refine e_getE dX9_ownerAt_25 fl_X9_126 rfl (k_m12 hK (by first | omega | (simp (disch := omega) only [upN_n, upN_s]; omega))) ?_
        first | ((with_reducible refine mk_ll ?_); refine m_if_le (tgt := 55) dX9_ownerAt_28 (by decide) (by omega) (by omega) (fun h28 => ?_) (fun h28 => ?_)) | ((with_reducible refine mk_lc ?_); refine l_if_le (tgt := 55) dX9_ownerAt_28 (by decide) (fun h28 => ?_) (fun h28 => ?_)) | ((with_reducible refine mk_n ?_); refine n_if_le (tgt := 55) dX9_ownerAt_28 (by decide) (by omega) (fun h28 => ?_) (fun h28 => ?_)) | refine e_if_le (tgt := 55) dX9_ownerAt_28 (by decide) (fun h28 => ?_) (fun h28 => ?_)
        · try first | contradiction | omega
          all_goals
            first | refine n_inc dX9_ownerAt_55 rfl (Nat.le_of_ble_eq_true rfl) rfl ?_ | refine e_iinc dX9_ownerAt_55 rfl rfl (Nat.le_of_ble_eq_true rfl) rfl ?_
            refine e_goto (tgt := 5) dX9_ownerAt_58 (by decide) ?_
            have e : owC w t k 0 (j + 1) = if swB w k j && decide (w (7694 + 72 * j + 11) ≤ t) then w (7694 + 72 * j + 4) else owC w t k 0 j := rfl
            first | (rw [if_pos (by unfold swB; simp_all)] at e; rw [e] at ih; exact ih _) | (rw [if_neg (by unfold swB; simp_all)] at e; rw [e] at ih; exact ih _) | (rw [if_neg (by unfold swB; simp_all <;> omega)] at e; rw [e] at ih; exact ih _)
        · try first | contradiction | omega
          all_goals
            refine e_aload dX9_ownerAt_31 rfl ?_
            refine e_getE dX9_ownerAt_33 fl_X9_126 rfl (k_m12 hK (by first | omega | (simp (disch := omega) only [upN_n, upN_s]; omega))) ?_
            refine e_iload_n dX9_ownerAt_36 rfl rfl ?_
            first | ((with_reducible refine mk_nn ?_); refine n_icmp_gt (tgt := 55) dX9_ownerAt_37 (by decide) (by omega) (by omega) (fun h37 => ?_) (fun h37 => ?_)) | refine e_icmp_gt (tgt := 55) dX9_ownerAt_37 (by decide) (fun h37 => ?_) (fun h37 => ?_)
            · try first | contradiction | omega
              all_goals
                first | refine n_inc dX9_ownerAt_55 rfl (Nat.le_of_ble_eq_true rfl) rfl ?_ | refine e_iinc dX9_ownerAt_55 rfl rfl (Nat.le_of_ble_eq_true rfl) rfl ?_
                refine e_goto (tgt := 5) dX9_ownerAt_58 (by decide) ?_
                have e : owC w t k 0 (j + 1) = if swB w k j && decide (w (7694 + 72 * j + 11) ≤ t) then w (7694 + 72 * j + 4) else owC w t k 0 j := rfl
                first | (rw [if_pos (by unfold swB; simp_all)] at e; rw [e] at ih; exact ih _) | (rw [if_neg (by unfold swB; simp_all)] at e; rw [e] at ih; exact ih _) | (rw [if_neg (by unfold swB; simp_all <;> omega)] at e; rw [e] at ih; exact ih _)
            · try first | contradiction | omega
              all_goals
                refine e_aload dX9_ownerAt_40 rfl ?_
                refine e_iload_n dX9_ownerAt_42 rfl rfl ?_
                refine x_V1 (M' := mX4_covers) dX9_ownerAt_43 ml_X9_127 ok_X4_covers (by decide) rfl im_X4_covers se_X4_covers (ct_X4_covers cm iv hK (by omega) (by omega)) (Nat.le_of_ble_eq_true rfl) (by decide) (Nat.le_of_ble_eq_true rfl) ?_
                first | ((with_reducible refine mk_b ?_); refine b_if_eq (tgt := 55) dX9_ownerAt_46 (by decide) (fun h46 => ?_) (fun h46 => ?_)) | ((with_reducible refine mk_ll ?_); refine m_if_eq (tgt := 55) dX9_ownerAt_46 (by decide) (by omega) (by omega) (fun h46 => ?_) (fun h46 => ?_)) | ((with_reducible refine mk_lc ?_); refine l_if_eq (tgt := 55) dX9_ownerAt_46 (by decide) (fun h46 => ?_) (fun h46 => ?_)) | ((with_reducible refine mk_n ?_); refine n_if_eq (tgt := 55) dX9_ownerAt_46 (by decide) (by omega) (fun h46 => ?_) (fun h46 => ?_)) | refine e_if_eq (tgt := 55) dX9_ownerAt_46 (by decide) (fun h46 => ?_) (fun h46 => ?_)
                · try first | contradiction | omega | (simp only [decide_eq_true_eq, decide_eq_false_iff_not] at h46; omega)
                  all_goals
                    first | refine n_inc dX9_ownerAt_55 rfl (Nat.le_of_ble_eq_true rfl) rfl ?_ | refine e_iinc dX9_ownerAt_55 rfl rfl (Nat.le_of_ble_eq_true rfl) rfl ?_
                    refine e_goto (tgt := 5) dX9_ownerAt_58 (by decide) ?_
                    have e : owC w t k 0 (j + 1) = if swB w k j && decide (w (7694 + 72 * j + 11) ≤ t) then w (7694 + 72 * j + 4) else owC w t k 0 j := rfl
                    first | (rw [if_pos (by unfold swB; simp_all)] at e; rw [e] at ih; exact ih _) | (rw [if_neg (by unfold swB; simp_all)] at e; rw [e] at ih; exact ih _) | (rw [if_neg (by unfold swB; simp_all <;> omega)] at e; rw [e] at ih; exact ih _)
                · try first | contradiction | omega | (simp only [decide_eq_true_eq, decide_eq_false_iff_not] at h46; omega)
                  all_goals
                    refine e_aload dX9_ownerAt_49 rfl ?_
                    refine e_getE dX9_ownerAt_51 fl_X9_99 rfl (k_m6 hK (by first | omega | (simp (disch := omega) only [upN_n, upN_s]; omega))) ?_
                    refine e_istore_n dX9_ownerAt_54 rfl (Nat.le_of_ble_eq_true rfl) rfl ?_
                    first | refine n_inc dX9_ownerAt_55 rfl (Nat.le_of_ble_eq_true rfl) rfl ?_ | refine e_iinc dX9_ownerAt_55 rfl rfl (Nat.le_of_ble_eq_true rfl) rfl ?_
                    refine e_goto (tgt := 5) dX9_ownerAt_58 (by decide) ?_
                    have e : owC w t k 0 (j + 1) = if swB w k j && decide (w (7694 + 72 * j + 11) ≤ t) then w (7694 + 72 * j + 4) else owC w t k 0 j := rfl
                    first | (rw [if_pos (by unfold swB; simp_all)] at e; rw [e] at ih; exact ih _) | (rw [if_neg (by unfold swB; simp_all)] at e; rw [e] at ih; exact ih _) | (rw [if_neg (by unfold swB; simp_all <;> omega)] at e; rw [e] at ih; exact ih _)
    )
  refine e_iconst (v := nI 0) dX9_ownerAt_0 rfl ?_
  refine e_istore_n dX9_ownerAt_1 rfl (Nat.le_of_ble_eq_true rfl) rfl ?_
  refine e_iconst (v := nI 0) dX9_ownerAt_2 rfl ?_
  refine e_istore dX9_ownerAt_3 (Nat.le_of_ble_eq_true rfl) rfl ?_
  exact key 0 (by omega) _
theorem ct_X9_keysAbove {fi : FI} {fr : FR} {ai : FI} {ar : FR} {N : Nat} {w lg : Nat → Nat} {E : Nat} (cm : CM fr ar) (iv : Inv w) (hK : K fi ai w lg E) {x : Nat} (hx : x < 2147483648) : CP mX9_keysAbove 0 0 0 [.ref (rf 9 1), .int (nI x)] fi fr ai ar N (xQ (some (.int (nI (cnt (fun k => decide (x < w (106 + k))) 1000)))) fi fr ai ar N) := by
  have h1 := iv_n iv
  have h3 := iv_mm iv
  have bd := Bd_iv iv
  have hF : FR1 fi ai fi ai := FR1_rf
  change EV mX9_keysAbove 0 0 0 0 [some (.ref (rf 9 1)), some (.int (nI x)), none, none] [] fi fr ai ar N (xQ (some (.int (nI (cnt (fun k => decide (x < w (106 + k))) 1000)))) fi fr ai ar N)
  have key := ev_up (P := (fun j => EV mX9_keysAbove 0 0 0 4 [some (.ref (rf 9 1)), some (.int (nI x)), some (.int (nI (cnt (fun k => decide (x < w (106 + k))) j))), some (.int (nI j))] [] fi fr ai ar N (xQ (some (.int (nI (cnt (fun k => decide (x < w (106 + k))) 1000)))) fi fr ai ar N))) (1000) (fun j hj ih => by
    have ho := iv_wt iv hj
    refine e_iload_n dX9_keysAbove_4 rfl rfl ?_
    refine e_sipush (v := nI 1000) dX9_keysAbove_5 rfl ?_
    first | ((with_reducible refine mk_nn ?_); refine n_icmp_ge (tgt := 30) dX9_keysAbove_8 (by decide) (by omega) (by omega) (fun h8 => ?_) (fun h8 => ?_)) | refine e_icmp_ge (tgt := 30) dX9_keysAbove_8 (by decide) (fun h8 => ?_) (fun h8 => ?_)
    · try first | contradiction | omega
      all_goals
        refine e_iload_n dX9_keysAbove_30 rfl rfl ?_
        refine e_ret (some _) rfl (r_int dX9_keysAbove_31 rfl) ?_
        exact xq (by first | rfl | simp_all [bI_t, bI_f]) rfl rfl rfl rfl rfl
    · try first | contradiction | omega
      all_goals
        refine e_aload_n dX9_keysAbove_11 rfl rfl ?_
        refine e_getR dX9_keysAbove_12 fl_X9_15 rfl (cm_wts cm) ?_
        refine e_iload_n dX9_keysAbove_15 rfl rfl ?_
        refine e_iadE _ dX9_keysAbove_16 ⟨by decide, by decide⟩ rfl rfl (by simp only [lenK]; omega) (k_wt hK (by first | omega | (simp (disch := omega) only [upN_n, upN_s]; omega))) ?_
        refine e_iload_n dX9_keysAbove_17 rfl rfl ?_
        first | ((with_reducible refine mk_nn ?_); refine n_icmp_le (tgt := 24) dX9_keysAbove_18 (by decide) (by omega) (by omega) (fun h18 => ?_) (fun h18 => ?_)) | refine e_icmp_le (tgt := 24) dX9_keysAbove_18 (by decide) (fun h18 => ?_) (fun h18 => ?_)
        · try first | contradiction | omega
          all_goals
            first | refine n_inc dX9_keysAbove_24 rfl (Nat.le_of_ble_eq_true rfl) rfl ?_ | refine e_iinc dX9_keysAbove_24 rfl rfl (Nat.le_of_ble_eq_true rfl) rfl ?_
            refine e_goto (tgt := 4) dX9_keysAbove_27 (by decide) ?_
            first | (rw [cnt_t (n := j) (p := fun k => decide (x < w (106 + k))) (by simp_all)] at ih; exact ih) | (rw [cnt_f (n := j) (p := fun k => decide (x < w (106 + k))) (by simp_all)] at ih; exact ih)
        · try first | contradiction | omega
          all_goals
            first | refine n_inc dX9_keysAbove_21 rfl (Nat.le_of_ble_eq_true rfl) rfl ?_ | refine e_iinc dX9_keysAbove_21 rfl rfl (Nat.le_of_ble_eq_true rfl) rfl ?_
            first | refine n_inc dX9_keysAbove_24 rfl (Nat.le_of_ble_eq_true rfl) rfl ?_ | refine e_iinc dX9_keysAbove_24 rfl rfl (Nat.le_of_ble_eq_true rfl) rfl ?_
            refine e_goto (tgt := 4) dX9_keysAbove_27 (by decide) ?_
            first | (rw [cnt_t (n := j) (p := fun k => decide (x < w (106 + k))) (by simp_all)] at ih; exact ih) | (rw [cnt_f (n := j) (p := fun k => decide (x < w (106 + k))) (by simp_all)] at ih; exact ih)
    ) (by
    refine e_iload_n dX9_keysAbove_4 rfl rfl ?_
    refine e_sipush (v := nI 1000) dX9_keysAbove_5 rfl ?_
    first | ((with_reducible refine mk_nn ?_); refine n_icmp_ge (tgt := 30) dX9_keysAbove_8 (by decide) (by omega) (by omega) (fun h8 => ?_) (fun h8 => ?_)) | refine e_icmp_ge (tgt := 30) dX9_keysAbove_8 (by decide) (fun h8 => ?_) (fun h8 => ?_)
    · try first | contradiction | omega
      all_goals
        refine e_iload_n dX9_keysAbove_30 rfl rfl ?_
        refine e_ret (some _) rfl (r_int dX9_keysAbove_31 rfl) ?_
        exact xq rfl rfl rfl rfl rfl rfl
    · try first | contradiction | omega
      all_goals
        refine e_aload_n dX9_keysAbove_11 rfl rfl ?_
        refine e_getR dX9_keysAbove_12 fl_X9_15 rfl (cm_wts cm) ?_
        refine e_iload_n dX9_keysAbove_15 rfl rfl ?_
        refine e_iadE _ dX9_keysAbove_16 ⟨by decide, by decide⟩ rfl rfl (by simp only [lenK]; omega) (k_wt hK (by first | omega | (simp (disch := omega) only [upN_n, upN_s]; omega))) ?_
        refine e_iload_n dX9_keysAbove_17 rfl rfl ?_
        first | ((with_reducible refine mk_nn ?_); refine n_icmp_le (tgt := 24) dX9_keysAbove_18 (by decide) (by omega) (by omega) (fun h18 => ?_) (fun h18 => ?_)) | refine e_icmp_le (tgt := 24) dX9_keysAbove_18 (by decide) (fun h18 => ?_) (fun h18 => ?_)
        · try first | contradiction | omega
          all_goals
            first | refine n_inc dX9_keysAbove_24 rfl (Nat.le_of_ble_eq_true rfl) rfl ?_ | refine e_iinc dX9_keysAbove_24 rfl rfl (Nat.le_of_ble_eq_true rfl) rfl ?_
            refine e_goto (tgt := 4) dX9_keysAbove_27 (by decide) ?_
            first | (rw [cnt_t (n := j) (p := fun k => decide (x < w (106 + k))) (by simp_all)] at ih; exact ih) | (rw [cnt_f (n := j) (p := fun k => decide (x < w (106 + k))) (by simp_all)] at ih; exact ih)
        · try first | contradiction | omega
          all_goals
            first | refine n_inc dX9_keysAbove_21 rfl (Nat.le_of_ble_eq_true rfl) rfl ?_ | refine e_iinc dX9_keysAbove_21 rfl rfl (Nat.le_of_ble_eq_true rfl) rfl ?_
            first | refine n_inc dX9_keysAbove_24 rfl (Nat.le_of_ble_eq_true rfl) rfl ?_ | refine e_iinc dX9_keysAbove_24 rfl rfl (Nat.le_of_ble_eq_true rfl) rfl ?_
            refine e_goto (tgt := 4) dX9_keysAbove_27 (by decide) ?_
            first | (rw [cnt_t (n := j) (p := fun k => decide (x < w (106 + k))) (by simp_all)] at ih; exact ih) | (rw [cnt_f (n := j) (p := fun k => decide (x < w (106 + k))) (by simp_all)] at ih; exact ih)
    )
  refine e_iconst (v := nI 0) dX9_keysAbove_0 rfl ?_
  refine e_istore_n dX9_keysAbove_1 rfl (Nat.le_of_ble_eq_true rfl) rfl ?_
  refine e_iconst (v := nI 0) dX9_keysAbove_2 rfl ?_
  refine e_istore_n dX9_keysAbove_3 rfl (Nat.le_of_ble_eq_true rfl) rfl ?_
  exact key 0 (by omega)
def gtW (w : Nat → Nat) : Nat → Nat
  | 0 => 0
  | j + 1 => if gtW w j < w (106 + j) then w (106 + j) else gtW w j
theorem gtW_le {w : Nat → Nat} (iv : Inv w) : ∀ j, j ≤ 1000 → gtW w j ≤ 100000
  | 0, _ => by unfold gtW; omega
  | j + 1, h => by
    have := gtW_le iv j (by omega)
    have := iv_wt iv (k := j) (by omega)
    unfold gtW
    split <;> assumption
theorem nI_max {a b : Nat} (ha : a < 2147483648) (hb : b < 2147483648) : (if nI a < nI b then nI b else nI a) = nI (if a < b then b else a) := by
  by_cases h : a < b
  · rw [if_pos h, if_pos ((nI_ltI (b31 ha) (b31 hb)).mpr h)]
  · rw [if_neg h, if_neg (fun q => h ((nI_ltI (b31 ha) (b31 hb)).mp q))]
theorem nI_min {a b : Nat} (ha : a < 2147483648) (hb : b < 2147483648) : (if nI b < nI a then nI b else nI a) = nI (if b < a then b else a) := by
  by_cases h : b < a
  · rw [if_pos h, if_pos ((nI_ltI (b31 hb) (b31 ha)).mpr h)]
  · rw [if_neg h, if_neg (fun q => h ((nI_ltI (b31 hb) (b31 ha)).mp q))]
theorem ct_X9_greatestWeight {fi : FI} {fr : FR} {ai : FI} {ar : FR} {N : Nat} {w lg : Nat → Nat} {E : Nat} (cm : CM fr ar) (iv : Inv w) (hK : K fi ai w lg E)  : CP mX9_greatestWeight 1 0 0 [.ref (rf 9 1)] fi fr ai ar N (xQ (some (.int (nI (gtW w 1000)))) fi fr ai ar N) := by
  have h1 := iv_n iv
  have h3 := iv_mm iv
  have bd := Bd_iv iv
  have hF : FR1 fi ai fi ai := FR1_rf
  change EV mX9_greatestWeight 1 0 0 0 [some (.ref (rf 9 1)), none, none] [] fi fr ai ar N (xQ (some (.int (nI (gtW w 1000)))) fi fr ai ar N)
  have key := ev_up (P := (fun j => EV mX9_greatestWeight 1 0 0 4 [some (.ref (rf 9 1)), some (.int (nI (gtW w j))), some (.int (nI j))] [] fi fr ai ar N (xQ (some (.int (nI (gtW w 1000)))) fi fr ai ar N))) (1000) (fun j hj ih => by
    have ho := iv_wt iv hj
    have hg := gtW_le iv j (by omega)
    refine e_iload_n dX9_greatestWeight_4 rfl rfl ?_
    refine e_sipush (v := nI 1000) dX9_greatestWeight_5 rfl ?_
    first | ((with_reducible refine mk_nn ?_); refine n_icmp_ge (tgt := 28) dX9_greatestWeight_8 (by decide) (by omega) (by omega) (fun h8 => ?_) (fun h8 => ?_)) | refine e_icmp_ge (tgt := 28) dX9_greatestWeight_8 (by decide) (fun h8 => ?_) (fun h8 => ?_)
    · try first | contradiction | omega
      all_goals
        refine e_iload_n dX9_greatestWeight_28 rfl rfl ?_
        refine e_ret (some _) rfl (r_int dX9_greatestWeight_29 rfl) ?_
        exact xq (by first | rfl | simp_all [bI_t, bI_f]) rfl rfl rfl rfl rfl
    · try first | contradiction | omega
      all_goals
        refine e_iload_n dX9_greatestWeight_11 rfl rfl ?_
        refine e_aload_n dX9_greatestWeight_12 rfl rfl ?_
        refine e_getR dX9_greatestWeight_13 fl_X9_15 rfl (cm_wts cm) ?_
        refine e_iload_n dX9_greatestWeight_16 rfl rfl ?_
        refine e_iadE _ dX9_greatestWeight_17 ⟨by decide, by decide⟩ rfl rfl (by simp only [lenK]; omega) (k_wt hK (by first | omega | (simp (disch := omega) only [upN_n, upN_s]; omega))) ?_
        refine e_mmax dX9_greatestWeight_18 ml_X9_130 sc_Mmax nz_M cd_Mmax (by decide) (Nat.le_of_ble_eq_true rfl) ?_
        rw [nI_max (by omega) (by omega)]
        refine e_istore_n dX9_greatestWeight_21 rfl (Nat.le_of_ble_eq_true rfl) rfl ?_
        first | refine n_inc dX9_greatestWeight_22 rfl (Nat.le_of_ble_eq_true rfl) rfl ?_ | refine e_iinc dX9_greatestWeight_22 rfl rfl (Nat.le_of_ble_eq_true rfl) rfl ?_
        refine e_goto (tgt := 4) dX9_greatestWeight_25 (by decide) ?_
        exact ih
    ) (by
    refine e_iload_n dX9_greatestWeight_4 rfl rfl ?_
    refine e_sipush (v := nI 1000) dX9_greatestWeight_5 rfl ?_
    first | ((with_reducible refine mk_nn ?_); refine n_icmp_ge (tgt := 28) dX9_greatestWeight_8 (by decide) (by omega) (by omega) (fun h8 => ?_) (fun h8 => ?_)) | refine e_icmp_ge (tgt := 28) dX9_greatestWeight_8 (by decide) (fun h8 => ?_) (fun h8 => ?_)
    · try first | contradiction | omega
      all_goals
        refine e_iload_n dX9_greatestWeight_28 rfl rfl ?_
        refine e_ret (some _) rfl (r_int dX9_greatestWeight_29 rfl) ?_
        exact xq rfl rfl rfl rfl rfl rfl
    · try first | contradiction | omega
      all_goals
        refine e_iload_n dX9_greatestWeight_11 rfl rfl ?_
        refine e_aload_n dX9_greatestWeight_12 rfl rfl ?_
        refine e_getR dX9_greatestWeight_13 fl_X9_15 rfl (cm_wts cm) ?_
        refine e_iload_n dX9_greatestWeight_16 rfl rfl ?_
        refine e_iadE _ dX9_greatestWeight_17 ⟨by decide, by decide⟩ rfl rfl (by simp only [lenK]; omega) (k_wt hK (by first | omega | (simp (disch := omega) only [upN_n, upN_s]; omega))) ?_
        refine e_mmax dX9_greatestWeight_18 ml_X9_130 sc_Mmax nz_M cd_Mmax (by decide) (Nat.le_of_ble_eq_true rfl) ?_
        refine e_istore_n dX9_greatestWeight_21 rfl (Nat.le_of_ble_eq_true rfl) rfl ?_
        first | refine n_inc dX9_greatestWeight_22 rfl (Nat.le_of_ble_eq_true rfl) rfl ?_ | refine e_iinc dX9_greatestWeight_22 rfl rfl (Nat.le_of_ble_eq_true rfl) rfl ?_
        refine e_goto (tgt := 4) dX9_greatestWeight_25 (by decide) ?_
        contradiction
    )
  refine e_iconst (v := nI 0) dX9_greatestWeight_0 rfl ?_
  refine e_istore_n dX9_greatestWeight_1 rfl (Nat.le_of_ble_eq_true rfl) rfl ?_
  refine e_iconst (v := nI 0) dX9_greatestWeight_2 rfl ?_
  refine e_istore_n dX9_greatestWeight_3 rfl (Nat.le_of_ble_eq_true rfl) rfl ?_
  exact key 0 (by omega)
/-- halving: the least weight that no more than r keys exceed -/
def wbF (w : Nat → Nat) (r : Nat) : Nat → Nat → Nat → Nat
  | 0, lo, _ => lo
  | n + 1, lo, hi => if lo < hi then (if cnt (fun k => decide (lo + (hi - lo) / 2 < w (106 + k))) 1000 ≤ r then wbF w r n lo (lo + (hi - lo) / 2) else wbF w r n (lo + (hi - lo) / 2 + 1) hi) else lo
theorem wbF_e (w : Nat → Nat) (r : Nat) {lo hi : Nat} (h : ¬ lo < hi) : ∀ n, wbF w r n lo hi = lo
  | 0 => rfl
  | n + 1 => if_neg h
theorem ct_X9_weightByRank {fi : FI} {fr : FR} {ai : FI} {ar : FR} {N : Nat} {w lg : Nat → Nat} {E : Nat} (cm : CM fr ar) (iv : Inv w) (hK : K fi ai w lg E) {r : Nat} (hr : r < 1000) : CP mX9_weightByRank 2 0 0 [.ref (rf 9 1), .int (nI r)] fi fr ai ar N (xQ (some (.int (nI (wbF w r 32 0 (gtW w 1000))))) fi fr ai ar N) := by
  have h1 := iv_n iv
  have h3 := iv_mm iv
  have bd := Bd_iv iv
  have hF : FR1 fi ai fi ai := FR1_rf
  change EV mX9_weightByRank 2 0 0 0 [some (.ref (rf 9 1)), some (.int (nI r)), none, none, none, none] [] fi fr ai ar N (xQ (some (.int (nI (wbF w r 32 0 (gtW w 1000))))) fi fr ai ar N)
  have hg := gtW_le iv 1000 (by omega)
  have key : ∀ n t lo hi, n + t = 32 → lo ≤ hi → hi ≤ 100000 → wbF w r n lo hi = wbF w r 32 0 (gtW w 1000) → ∀ x, EV mX9_weightByRank 2 0 0 10 [some (.ref (rf 9 1)), some (.int (nI r)), some (.int (nI lo)), some (.int (nI hi)), some (.int (nI t)), x] [] fi fr ai ar N (xQ (some (.int (nI (wbF w r 32 0 (gtW w 1000))))) fi fr ai ar N) := by
    intro n
    induction n with
    | zero =>
      intro t lo hi hn hlh hh e x
      refine e_iload dX9_weightByRank_10 rfl ?_
      refine e_bipush (v := nI 32) dX9_weightByRank_12 rfl ?_
      first | ((with_reducible refine mk_nn ?_); refine n_icmp_ge (tgt := 58) dX9_weightByRank_14 (by decide) (by omega) (by omega) (fun h14 => ?_) (fun h14 => ?_)) | refine e_icmp_ge (tgt := 58) dX9_weightByRank_14 (by decide) (fun h14 => ?_) (fun h14 => ?_)
      · try first | contradiction | omega
        all_goals
          refine e_iload_n dX9_weightByRank_58 rfl rfl ?_
          refine e_ret (some _) rfl (r_int dX9_weightByRank_59 rfl) ?_
          exact xq (by rw [← e]; rfl) rfl rfl rfl rfl rfl
      · try first | contradiction | omega
        all_goals
          omega
    | succ n ih =>
      intro t lo hi hn hlh hh e x
      have hc := cnt_le (fun k => decide (lo + (hi - lo) / 2 < w (106 + k))) 1000
      refine e_iload dX9_weightByRank_10 rfl ?_
      refine e_bipush (v := nI 32) dX9_weightByRank_12 rfl ?_
      first | ((with_reducible refine mk_nn ?_); refine n_icmp_ge (tgt := 58) dX9_weightByRank_14 (by decide) (by omega) (by omega) (fun h14 => ?_) (fun h14 => ?_)) | refine e_icmp_ge (tgt := 58) dX9_weightByRank_14 (by decide) (fun h14 => ?_) (fun h14 => ?_)
      · try first | contradiction | omega
        all_goals
          refine e_iload_n dX9_weightByRank_58 rfl rfl ?_
          refine e_ret (some _) rfl (r_int dX9_weightByRank_59 rfl) ?_
          exact xq (by rw [← e, wbF_e w r (by omega)]) rfl rfl rfl rfl rfl
      · try first | contradiction | omega
        all_goals
          refine e_iload_n dX9_weightByRank_17 rfl rfl ?_
          refine e_iload_n dX9_weightByRank_18 rfl rfl ?_
          first | ((with_reducible refine mk_nn ?_); refine n_icmp_ge (tgt := 58) dX9_weightByRank_19 (by decide) (by omega) (by omega) (fun h19 => ?_) (fun h19 => ?_)) | refine e_icmp_ge (tgt := 58) dX9_weightByRank_19 (by decide) (fun h19 => ?_) (fun h19 => ?_)
          · try first | contradiction | omega
            all_goals
              refine e_iload_n dX9_weightByRank_58 rfl rfl ?_
              refine e_ret (some _) rfl (r_int dX9_weightByRank_59 rfl) ?_
              exact xq (by rw [← e, wbF_e w r (by omega)]) rfl rfl rfl rfl rfl
          · try first | contradiction | omega
            all_goals
              refine e_iload_n dX9_weightByRank_22 rfl rfl ?_
              refine e_iload_n dX9_weightByRank_23 rfl rfl ?_
              refine e_iload_n dX9_weightByRank_24 rfl rfl ?_
              first | ((with_reducible refine mk_nn ?_); refine n_isub dX9_weightByRank_25 (by omega) ?_) | refine e_isub dX9_weightByRank_25 ?_
              refine e_iconst (v := nI 2) dX9_weightByRank_26 rfl ?_
              first | ((with_reducible refine mk_nn ?_); refine n_idiv dX9_weightByRank_27 (by omega) (by omega) (by omega) ?_) | refine e_idiv dX9_weightByRank_27 (by decide) ?_
              first | ((with_reducible refine mk_nn ?_); refine n_iadd dX9_weightByRank_28 ?_) | refine e_iadd dX9_weightByRank_28 ?_
              refine e_istore dX9_weightByRank_29 (Nat.le_of_ble_eq_true rfl) rfl ?_
              refine e_aload_n dX9_weightByRank_31 rfl rfl ?_
              refine e_iload dX9_weightByRank_32 rfl ?_
              refine x_V1 (M' := mX9_keysAbove) dX9_weightByRank_34 ml_X9_140 ok_X9_keysAbove (by decide) rfl im_X9_keysAbove se_X9_keysAbove (ct_X9_keysAbove cm iv hK (by omega)) (Nat.le_of_ble_eq_true rfl) (by decide) (Nat.le_of_ble_eq_true rfl) ?_
              refine e_iload_n dX9_weightByRank_37 rfl rfl ?_
              first | ((with_reducible refine mk_nn ?_); refine n_icmp_gt (tgt := 47) dX9_weightByRank_38 (by decide) (by omega) (by omega) (fun h38 => ?_) (fun h38 => ?_)) | refine e_icmp_gt (tgt := 47) dX9_weightByRank_38 (by decide) (fun h38 => ?_) (fun h38 => ?_)
              · try first | contradiction | omega
                all_goals
                  refine e_iload dX9_weightByRank_47 rfl ?_
                  refine e_iconst (v := nI 1) dX9_weightByRank_49 rfl ?_
                  first | ((with_reducible refine mk_nn ?_); refine n_iadd dX9_weightByRank_50 ?_) | refine e_iadd dX9_weightByRank_50 ?_
                  refine e_istore_n dX9_weightByRank_51 rfl (Nat.le_of_ble_eq_true rfl) rfl ?_
                  first | refine n_inc dX9_weightByRank_52 rfl (Nat.le_of_ble_eq_true rfl) rfl ?_ | refine e_iinc dX9_weightByRank_52 rfl rfl (Nat.le_of_ble_eq_true rfl) rfl ?_
                  refine e_goto (tgt := 10) dX9_weightByRank_55 (by decide) ?_
                  refine ih _ _ _ (by omega) (by omega) (by omega) ?_ _
                  rw [← e]
                  conv => rhs; unfold wbF
                  rw [if_pos (by omega)]
                  first | rw [if_pos (by omega)] | rw [if_neg (by omega)]
              · try first | contradiction | omega
                all_goals
                  refine e_iload dX9_weightByRank_41 rfl ?_
                  refine e_istore_n dX9_weightByRank_43 rfl (Nat.le_of_ble_eq_true rfl) rfl ?_
                  refine e_goto (tgt := 52) dX9_weightByRank_44 (by decide) ?_
                  first | refine n_inc dX9_weightByRank_52 rfl (Nat.le_of_ble_eq_true rfl) rfl ?_ | refine e_iinc dX9_weightByRank_52 rfl rfl (Nat.le_of_ble_eq_true rfl) rfl ?_
                  refine e_goto (tgt := 10) dX9_weightByRank_55 (by decide) ?_
                  refine ih _ _ _ (by omega) (by omega) (by omega) ?_ _
                  rw [← e]
                  conv => rhs; unfold wbF
                  rw [if_pos (by omega)]
                  first | rw [if_pos (by omega)] | rw [if_neg (by omega)]
  refine e_iconst (v := nI 0) dX9_weightByRank_0 rfl ?_
  refine e_istore_n dX9_weightByRank_1 rfl (Nat.le_of_ble_eq_true rfl) rfl ?_
  refine e_aload_n dX9_weightByRank_2 rfl rfl ?_
  refine x_V0 (M' := mX9_greatestWeight) dX9_weightByRank_3 ml_X9_136 ok_X9_greatestWeight (by decide) rfl im_X9_greatestWeight se_X9_greatestWeight (ct_X9_greatestWeight cm iv hK) (Nat.le_of_ble_eq_true rfl) (by decide) (Nat.le_of_ble_eq_true rfl) ?_
  refine e_istore_n dX9_weightByRank_6 rfl (Nat.le_of_ble_eq_true rfl) rfl ?_
  refine e_iconst (v := nI 0) dX9_weightByRank_7 rfl ?_
  refine e_istore dX9_weightByRank_8 (Nat.le_of_ble_eq_true rfl) rfl ?_
  exact key 32 0 0 _ rfl (by omega) hg rfl _
theorem ct_X9_keyOfWeight {fi : FI} {fr : FR} {ai : FI} {ar : FR} {N : Nat} {w lg : Nat → Nat} {E : Nat} (cm : CM fr ar) (iv : Inv w) (hK : K fi ai w lg E) {v r : Nat} (hv : v < 2147483648) (hr : r < 2147483648) : CP mX9_keyOfWeight 0 0 0 [.ref (rf 9 1), .int (nI v), .int (nI r)] fi fr ai ar N (xQ (some (.int (oI (fO (fun i => decide (w (106 + i) = v) && decide (cnt (fun i => decide (w (106 + i) = v)) i = r)) 1000)))) fi fr ai ar N) := by
  have h1 := iv_n iv
  have h3 := iv_mm iv
  have bd := Bd_iv iv
  have hF : FR1 fi ai fi ai := FR1_rf
  change EV mX9_keyOfWeight 0 0 0 0 [some (.ref (rf 9 1)), some (.int (nI v)), some (.int (nI r)), none, none] [] fi fr ai ar N (xQ (some (.int (oI (fO (fun i => decide (w (106 + i) = v) && decide (cnt (fun i => decide (w (106 + i) = v)) i = r)) 1000)))) fi fr ai ar N)
  have key := ev_up (P := (fun j => (∀ i, i < j → (decide (w (106 + i) = v) && decide (cnt (fun i => decide (w (106 + i) = v)) i = r)) = false) → EV mX9_keyOfWeight 0 0 0 5 [some (.ref (rf 9 1)), some (.int (nI v)), some (.int (nI r)), some (.int (nI (cnt (fun i => decide (w (106 + i) = v)) j))), some (.int (nI j))] [] fi fr ai ar N (xQ (some (.int (oI (fO (fun i => decide (w (106 + i) = v) && decide (cnt (fun i => decide (w (106 + i) = v)) i = r)) 1000)))) fi fr ai ar N))) (1000) (fun j hj ih hn => by
    have hq := iv_wt iv hj
    have hc := cnt_le (fun i => decide (w (106 + i) = v)) j
    refine e_iload dX9_keyOfWeight_5 rfl ?_
    refine e_sipush (v := nI 1000) dX9_keyOfWeight_7 rfl ?_
    first | ((with_reducible refine mk_nn ?_); refine n_icmp_ge (tgt := 41) dX9_keyOfWeight_10 (by decide) (by omega) (by omega) (fun h10 => ?_) (fun h10 => ?_)) | refine e_icmp_ge (tgt := 41) dX9_keyOfWeight_10 (by decide) (fun h10 => ?_) (fun h10 => ?_)
    · try first | contradiction | omega
      all_goals
        refine e_iconst (v := -1) dX9_keyOfWeight_41 rfl ?_
        refine e_ret (some _) rfl (r_int dX9_keyOfWeight_42 rfl) ?_
        refine xq ?_ rfl rfl rfl rfl rfl
        rw [fO_eq (i := j) hn (by simp_all) hj]
        rfl
    · try first | contradiction | omega
      all_goals
        refine e_aload_n dX9_keyOfWeight_13 rfl rfl ?_
        refine e_getR dX9_keyOfWeight_14 fl_X9_15 rfl (cm_wts cm) ?_
        refine e_iload dX9_keyOfWeight_17 rfl ?_
        refine e_iadE _ dX9_keyOfWeight_19 ⟨by decide, by decide⟩ rfl rfl (by simp only [lenK]; omega) (k_wt hK (by first | omega | (simp (disch := omega) only [upN_n, upN_s]; omega))) ?_
        refine e_iload_n dX9_keyOfWeight_20 rfl rfl ?_
        first | ((with_reducible refine mk_mo ?_); refine p_icmp_ne (tgt := 35) dX9_keyOfWeight_21 (by decide) (fun h21 => ?_) (fun h21 => ?_)) | ((with_reducible refine mk_ms ?_); refine s_icmp_ne (tgt := 35) dX9_keyOfWeight_21 (by decide) (by omega) (fun h21 => ?_) (fun h21 => ?_)) | ((with_reducible refine mk_mn ?_); refine q_icmp_ne (tgt := 35) dX9_keyOfWeight_21 (by decide) (by omega) (fun h21 => ?_) (fun h21 => ?_)) | ((with_reducible refine mk_nn ?_); refine n_icmp_ne (tgt := 35) dX9_keyOfWeight_21 (by decide) (by omega) (by omega) (fun h21 => ?_) (fun h21 => ?_)) | refine e_icmp_ne (tgt := 35) dX9_keyOfWeight_21 (by decide) (fun h21 => ?_) (fun h21 => ?_)
        · try first | contradiction | omega
          all_goals
            first | refine n_inc dX9_keyOfWeight_35 rfl (Nat.le_of_ble_eq_true rfl) rfl ?_ | refine e_iinc dX9_keyOfWeight_35 rfl rfl (Nat.le_of_ble_eq_true rfl) rfl ?_
            refine e_goto (tgt := 5) dX9_keyOfWeight_38 (by decide) ?_
            first | (rw [cnt_t (n := j) (p := fun i => decide (w (106 + i) = v)) (by simp_all)] at ih; refine ih (fun i hi => ?_)) | (rw [cnt_f (n := j) (p := fun i => decide (w (106 + i) = v)) (by simp_all)] at ih; refine ih (fun i hi => ?_))
            by_cases e : i = j
            · subst e; simp_all
            · exact hn i (by omega)
        · try first | contradiction | omega
          all_goals
            refine e_iload_n dX9_keyOfWeight_24 rfl rfl ?_
            refine e_iload_n dX9_keyOfWeight_25 rfl rfl ?_
            first | ((with_reducible refine mk_mo ?_); refine p_icmp_ne (tgt := 32) dX9_keyOfWeight_26 (by decide) (fun h26 => ?_) (fun h26 => ?_)) | ((with_reducible refine mk_ms ?_); refine s_icmp_ne (tgt := 32) dX9_keyOfWeight_26 (by decide) (by omega) (fun h26 => ?_) (fun h26 => ?_)) | ((with_reducible refine mk_mn ?_); refine q_icmp_ne (tgt := 32) dX9_keyOfWeight_26 (by decide) (by omega) (fun h26 => ?_) (fun h26 => ?_)) | ((with_reducible refine mk_nn ?_); refine n_icmp_ne (tgt := 32) dX9_keyOfWeight_26 (by decide) (by omega) (by omega) (fun h26 => ?_) (fun h26 => ?_)) | refine e_icmp_ne (tgt := 32) dX9_keyOfWeight_26 (by decide) (fun h26 => ?_) (fun h26 => ?_)
            · try first | contradiction | omega
              all_goals
                first | refine n_inc dX9_keyOfWeight_32 rfl (Nat.le_of_ble_eq_true rfl) rfl ?_ | refine e_iinc dX9_keyOfWeight_32 rfl rfl (Nat.le_of_ble_eq_true rfl) rfl ?_
                first | refine n_inc dX9_keyOfWeight_35 rfl (Nat.le_of_ble_eq_true rfl) rfl ?_ | refine e_iinc dX9_keyOfWeight_35 rfl rfl (Nat.le_of_ble_eq_true rfl) rfl ?_
                refine e_goto (tgt := 5) dX9_keyOfWeight_38 (by decide) ?_
                first | (rw [cnt_t (n := j) (p := fun i => decide (w (106 + i) = v)) (by simp_all)] at ih; refine ih (fun i hi => ?_)) | (rw [cnt_f (n := j) (p := fun i => decide (w (106 + i) = v)) (by simp_all)] at ih; refine ih (fun i hi => ?_))
                by_cases e : i = j
                · subst e; simp_all
                · exact hn i (by omega)
            · try first | contradiction | omega
              all_goals
                refine e_iload dX9_keyOfWeight_29 rfl ?_
                refine e_ret (some _) rfl (r_int dX9_keyOfWeight_31 rfl) ?_
                refine xq ?_ rfl rfl rfl rfl rfl
                rw [fO_eq (i := j) hn (by simp_all) hj]
                rfl
    ) (fun hn => by
    refine e_iload dX9_keyOfWeight_5 rfl ?_
    refine e_sipush (v := nI 1000) dX9_keyOfWeight_7 rfl ?_
    first | ((with_reducible refine mk_nn ?_); refine n_icmp_ge (tgt := 41) dX9_keyOfWeight_10 (by decide) (by omega) (by omega) (fun h10 => ?_) (fun h10 => ?_)) | refine e_icmp_ge (tgt := 41) dX9_keyOfWeight_10 (by decide) (fun h10 => ?_) (fun h10 => ?_)
    · try first | contradiction | omega
      all_goals
        refine e_iconst (v := -1) dX9_keyOfWeight_41 rfl ?_
        refine e_ret (some _) rfl (r_int dX9_keyOfWeight_42 rfl) ?_
        refine xq ?_ rfl rfl rfl rfl rfl
        rw [fO_no hn]
        rfl
    · try first | contradiction | omega
      all_goals
        refine e_aload_n dX9_keyOfWeight_13 rfl rfl ?_
        refine e_getR dX9_keyOfWeight_14 fl_X9_15 rfl (cm_wts cm) ?_
        refine e_iload dX9_keyOfWeight_17 rfl ?_
        refine e_iadE _ dX9_keyOfWeight_19 ⟨by decide, by decide⟩ rfl rfl (by simp only [lenK]; omega) (k_wt hK (by first | omega | (simp (disch := omega) only [upN_n, upN_s]; omega))) ?_
        refine e_iload_n dX9_keyOfWeight_20 rfl rfl ?_
        first | ((with_reducible refine mk_mo ?_); refine p_icmp_ne (tgt := 35) dX9_keyOfWeight_21 (by decide) (fun h21 => ?_) (fun h21 => ?_)) | ((with_reducible refine mk_ms ?_); refine s_icmp_ne (tgt := 35) dX9_keyOfWeight_21 (by decide) (by omega) (fun h21 => ?_) (fun h21 => ?_)) | ((with_reducible refine mk_mn ?_); refine q_icmp_ne (tgt := 35) dX9_keyOfWeight_21 (by decide) (by omega) (fun h21 => ?_) (fun h21 => ?_)) | ((with_reducible refine mk_nn ?_); refine n_icmp_ne (tgt := 35) dX9_keyOfWeight_21 (by decide) (by omega) (by omega) (fun h21 => ?_) (fun h21 => ?_)) | refine e_icmp_ne (tgt := 35) dX9_keyOfWeight_21 (by decide) (fun h21 => ?_) (fun h21 => ?_)
        · try first | contradiction | omega
          all_goals
            first | refine n_inc dX9_keyOfWeight_35 rfl (Nat.le_of_ble_eq_true rfl) rfl ?_ | refine e_iinc dX9_keyOfWeight_35 rfl rfl (Nat.le_of_ble_eq_true rfl) rfl ?_
            refine e_goto (tgt := 5) dX9_keyOfWeight_38 (by decide) ?_
            first | (rw [cnt_t (n := j) (p := fun i => decide (w (106 + i) = v)) (by simp_all)] at ih; refine ih (fun i hi => ?_)) | (rw [cnt_f (n := j) (p := fun i => decide (w (106 + i) = v)) (by simp_all)] at ih; refine ih (fun i hi => ?_))
            by_cases e : i = j
            · subst e; simp_all
            · exact hn i (by omega)
        · try first | contradiction | omega
          all_goals
            refine e_iload_n dX9_keyOfWeight_24 rfl rfl ?_
            refine e_iload_n dX9_keyOfWeight_25 rfl rfl ?_
            first | ((with_reducible refine mk_mo ?_); refine p_icmp_ne (tgt := 32) dX9_keyOfWeight_26 (by decide) (fun h26 => ?_) (fun h26 => ?_)) | ((with_reducible refine mk_ms ?_); refine s_icmp_ne (tgt := 32) dX9_keyOfWeight_26 (by decide) (by omega) (fun h26 => ?_) (fun h26 => ?_)) | ((with_reducible refine mk_mn ?_); refine q_icmp_ne (tgt := 32) dX9_keyOfWeight_26 (by decide) (by omega) (fun h26 => ?_) (fun h26 => ?_)) | ((with_reducible refine mk_nn ?_); refine n_icmp_ne (tgt := 32) dX9_keyOfWeight_26 (by decide) (by omega) (by omega) (fun h26 => ?_) (fun h26 => ?_)) | refine e_icmp_ne (tgt := 32) dX9_keyOfWeight_26 (by decide) (fun h26 => ?_) (fun h26 => ?_)
            · try first | contradiction | omega
              all_goals
                first | refine n_inc dX9_keyOfWeight_32 rfl (Nat.le_of_ble_eq_true rfl) rfl ?_ | refine e_iinc dX9_keyOfWeight_32 rfl rfl (Nat.le_of_ble_eq_true rfl) rfl ?_
                first | refine n_inc dX9_keyOfWeight_35 rfl (Nat.le_of_ble_eq_true rfl) rfl ?_ | refine e_iinc dX9_keyOfWeight_35 rfl rfl (Nat.le_of_ble_eq_true rfl) rfl ?_
                refine e_goto (tgt := 5) dX9_keyOfWeight_38 (by decide) ?_
                first | (rw [cnt_t (n := j) (p := fun i => decide (w (106 + i) = v)) (by simp_all)] at ih; refine ih (fun i hi => ?_)) | (rw [cnt_f (n := j) (p := fun i => decide (w (106 + i) = v)) (by simp_all)] at ih; refine ih (fun i hi => ?_))
                by_cases e : i = j
                · subst e; simp_all
                · exact hn i (by omega)
            · try first | contradiction | omega
              all_goals
                refine e_iload dX9_keyOfWeight_29 rfl ?_
                refine e_ret (some _) rfl (r_int dX9_keyOfWeight_31 rfl) ?_
                refine xq ?_ rfl rfl rfl rfl rfl
                rw [fO_no hn]
                rfl
    )
  refine e_iconst (v := nI 0) dX9_keyOfWeight_0 rfl ?_
  refine e_istore_n dX9_keyOfWeight_1 rfl (Nat.le_of_ble_eq_true rfl) rfl ?_
  refine e_iconst (v := nI 0) dX9_keyOfWeight_2 rfl ?_
  refine e_istore dX9_keyOfWeight_3 (Nat.le_of_ble_eq_true rfl) rfl ?_
  exact key 0 (by omega) (fun i hi => absurd hi (by omega))
theorem ct_X9_cutsWithin {fi : FI} {fr : FR} {ai : FI} {ar : FR} {N : Nat} {w lg : Nat → Nat} {E : Nat} (cm : CM fr ar) (iv : Inv w) (hK : K fi ai w lg E) {lo hi b : Nat} (hlh : lo < hi) (hh : hi ≤ 1000) (hb : b ≤ 1000000) : CP mX9_cutsWithin 0 0 0 [.ref (rf 9 1), .int (nI lo), .int (nI hi), .int (nI b)] fi fr ai ar N (xQ (some (.int (nI (cuI w b lo (hi - lo - 1)).1))) fi fr ai ar N) := by
  have h1 := iv_n iv
  have h3 := iv_mm iv
  have bd := Bd_iv iv
  have hF : FR1 fi ai fi ai := FR1_rf
  have hw0 := iv_wt iv (k := lo) (by omega)
  change EV mX9_cutsWithin 0 0 0 0 [some (.ref (rf 9 1)), some (.int (nI lo)), some (.int (nI hi)), some (.int (nI b)), none, none, none, none] [] fi fr ai ar N (xQ (some (.int (nI (cuI w b lo (hi - lo - 1)).1))) fi fr ai ar N)
  have key := ev_up (P := (fun j => EV mX9_cutsWithin 0 0 0 17 [some (.ref (rf 9 1)), some (.int (nI lo)), some (.int (nI hi)), some (.int (nI b)), some (.int (nI (cuI w b lo j).1)), some (.long (lN (cuI w b lo j).2)), none, some (.int (nI (lo + 1 + j)))] [] fi fr ai ar N (xQ (some (.int (nI (cuI w b lo (hi - lo - 1)).1))) fi fr ai ar N))) (hi - lo - 1) (fun j hj ih => by
    have hcl := cuI_le iv (n := b) (lo := lo) j (by omega)
    have hw := iv_wt iv (k := lo + 1 + j) (by omega)
    have hcc := cuI_c (w := w) (n := b) (lo := lo) j
    refine e_iload dX9_cutsWithin_17 rfl ?_
    refine e_iload_n dX9_cutsWithin_19 rfl rfl ?_
    first | ((with_reducible refine mk_nn ?_); refine n_icmp_ge (tgt := 65) dX9_cutsWithin_20 (by decide) (by omega) (by omega) (fun h20 => ?_) (fun h20 => ?_)) | refine e_icmp_ge (tgt := 65) dX9_cutsWithin_20 (by decide) (fun h20 => ?_) (fun h20 => ?_)
    · try first | contradiction | omega
      all_goals
        refine e_iload dX9_cutsWithin_65 rfl ?_
        refine e_ret (some _) rfl (r_int dX9_cutsWithin_67 rfl) ?_
        exact xq (by first | rfl | simp_all [bI_t, bI_f]) rfl rfl rfl rfl rfl
    · try first | contradiction | omega
      all_goals
        refine e_lload dX9_cutsWithin_23 rfl ?_
        refine e_aload_n dX9_cutsWithin_25 rfl rfl ?_
        refine e_getR dX9_cutsWithin_26 fl_X9_15 rfl (cm_wts cm) ?_
        refine e_iload dX9_cutsWithin_29 rfl ?_
        refine e_iadE _ dX9_cutsWithin_31 ⟨by decide, by decide⟩ rfl rfl (by simp only [lenK]; omega) (k_wt hK (by first | omega | (simp (disch := omega) only [upN_n, upN_s]; omega))) ?_
        first | ((with_reducible refine mk_n ?_); refine n_i2l dX9_cutsWithin_32 (by omega) ?_) | refine e_i2l dX9_cutsWithin_32 ?_
        first | ((with_reducible refine mk_LL ?_); refine n_ladd dX9_cutsWithin_33 ?_) | refine e_ladd dX9_cutsWithin_33 ?_
        refine e_iload_n dX9_cutsWithin_34 rfl rfl ?_
        first | ((with_reducible refine mk_n ?_); refine n_i2l dX9_cutsWithin_35 (by omega) ?_) | refine e_i2l dX9_cutsWithin_35 ?_
        refine e_lcmp dX9_cutsWithin_36 ?_
        first | ((with_reducible refine mk_ll ?_); refine m_if_le (tgt := 46) dX9_cutsWithin_37 (by decide) (by omega) (by omega) (fun h37 => ?_) (fun h37 => ?_)) | ((with_reducible refine mk_lc ?_); refine l_if_le (tgt := 46) dX9_cutsWithin_37 (by decide) (fun h37 => ?_) (fun h37 => ?_)) | ((with_reducible refine mk_n ?_); refine n_if_le (tgt := 46) dX9_cutsWithin_37 (by decide) (by omega) (fun h37 => ?_) (fun h37 => ?_)) | refine e_if_le (tgt := 46) dX9_cutsWithin_37 (by decide) (fun h37 => ?_) (fun h37 => ?_)
        · try first | contradiction | omega
          all_goals
            refine e_lload dX9_cutsWithin_46 rfl ?_
            refine e_aload_n dX9_cutsWithin_48 rfl rfl ?_
            refine e_getR dX9_cutsWithin_49 fl_X9_15 rfl (cm_wts cm) ?_
            refine e_iload dX9_cutsWithin_52 rfl ?_
            refine e_iadE _ dX9_cutsWithin_54 ⟨by decide, by decide⟩ rfl rfl (by simp only [lenK]; omega) (k_wt hK (by first | omega | (simp (disch := omega) only [upN_n, upN_s]; omega))) ?_
            first | ((with_reducible refine mk_n ?_); refine n_i2l dX9_cutsWithin_55 (by omega) ?_) | refine e_i2l dX9_cutsWithin_55 ?_
            first | ((with_reducible refine mk_LL ?_); refine n_ladd dX9_cutsWithin_56 ?_) | refine e_ladd dX9_cutsWithin_56 ?_
            try rw [Nat.zero_add]
            refine e_lstore dX9_cutsWithin_57 (Nat.le_of_ble_eq_true rfl) rfl ?_
            first | refine n_inc dX9_cutsWithin_59 rfl (Nat.le_of_ble_eq_true rfl) rfl ?_ | refine e_iinc dX9_cutsWithin_59 rfl rfl (Nat.le_of_ble_eq_true rfl) rfl ?_
            refine e_goto (tgt := 17) dX9_cutsWithin_62 (by decide) ?_
            first | (rw [cuI_t (by omega)] at ih; exact ih) | (rw [cuI_f (by omega)] at ih; exact ih)
        · try first | contradiction | omega
          all_goals
            first | refine n_inc dX9_cutsWithin_40 rfl (Nat.le_of_ble_eq_true rfl) rfl ?_ | refine e_iinc dX9_cutsWithin_40 rfl rfl (Nat.le_of_ble_eq_true rfl) rfl ?_
            refine e_lconst (v := lN 0) dX9_cutsWithin_43 rfl ?_
            refine e_lstore dX9_cutsWithin_44 (Nat.le_of_ble_eq_true rfl) rfl ?_
            refine e_lload dX9_cutsWithin_46 rfl ?_
            refine e_aload_n dX9_cutsWithin_48 rfl rfl ?_
            refine e_getR dX9_cutsWithin_49 fl_X9_15 rfl (cm_wts cm) ?_
            refine e_iload dX9_cutsWithin_52 rfl ?_
            refine e_iadE _ dX9_cutsWithin_54 ⟨by decide, by decide⟩ rfl rfl (by simp only [lenK]; omega) (k_wt hK (by first | omega | (simp (disch := omega) only [upN_n, upN_s]; omega))) ?_
            first | ((with_reducible refine mk_n ?_); refine n_i2l dX9_cutsWithin_55 (by omega) ?_) | refine e_i2l dX9_cutsWithin_55 ?_
            first | ((with_reducible refine mk_LL ?_); refine n_ladd dX9_cutsWithin_56 ?_) | refine e_ladd dX9_cutsWithin_56 ?_
            try rw [Nat.zero_add]
            refine e_lstore dX9_cutsWithin_57 (Nat.le_of_ble_eq_true rfl) rfl ?_
            first | refine n_inc dX9_cutsWithin_59 rfl (Nat.le_of_ble_eq_true rfl) rfl ?_ | refine e_iinc dX9_cutsWithin_59 rfl rfl (Nat.le_of_ble_eq_true rfl) rfl ?_
            refine e_goto (tgt := 17) dX9_cutsWithin_62 (by decide) ?_
            first | (rw [cuI_t (by omega)] at ih; exact ih) | (rw [cuI_f (by omega)] at ih; exact ih)
    ) (by
    refine e_iload dX9_cutsWithin_17 rfl ?_
    refine e_iload_n dX9_cutsWithin_19 rfl rfl ?_
    first | ((with_reducible refine mk_nn ?_); refine n_icmp_ge (tgt := 65) dX9_cutsWithin_20 (by decide) (by omega) (by omega) (fun h20 => ?_) (fun h20 => ?_)) | refine e_icmp_ge (tgt := 65) dX9_cutsWithin_20 (by decide) (fun h20 => ?_) (fun h20 => ?_)
    · try first | contradiction | omega
      all_goals
        refine e_iload dX9_cutsWithin_65 rfl ?_
        refine e_ret (some _) rfl (r_int dX9_cutsWithin_67 rfl) ?_
        exact xq rfl rfl rfl rfl rfl rfl
    · try first | contradiction | omega
      all_goals
        refine e_lload dX9_cutsWithin_23 rfl ?_
        refine e_aload_n dX9_cutsWithin_25 rfl rfl ?_
        refine e_getR dX9_cutsWithin_26 fl_X9_15 rfl (cm_wts cm) ?_
        refine e_iload dX9_cutsWithin_29 rfl ?_
        refine e_iadE _ dX9_cutsWithin_31 ⟨by decide, by decide⟩ rfl rfl (by simp only [lenK]; omega) (k_wt hK (by first | omega | (simp (disch := omega) only [upN_n, upN_s]; omega))) ?_
        first | ((with_reducible refine mk_n ?_); refine n_i2l dX9_cutsWithin_32 (by omega) ?_) | refine e_i2l dX9_cutsWithin_32 ?_
        first | ((with_reducible refine mk_LL ?_); refine n_ladd dX9_cutsWithin_33 ?_) | refine e_ladd dX9_cutsWithin_33 ?_
        refine e_iload_n dX9_cutsWithin_34 rfl rfl ?_
        first | ((with_reducible refine mk_n ?_); refine n_i2l dX9_cutsWithin_35 (by omega) ?_) | refine e_i2l dX9_cutsWithin_35 ?_
        refine e_lcmp dX9_cutsWithin_36 ?_
        first | ((with_reducible refine mk_ll ?_); refine m_if_le (tgt := 46) dX9_cutsWithin_37 (by decide) (by omega) (by omega) (fun h37 => ?_) (fun h37 => ?_)) | ((with_reducible refine mk_lc ?_); refine l_if_le (tgt := 46) dX9_cutsWithin_37 (by decide) (fun h37 => ?_) (fun h37 => ?_)) | ((with_reducible refine mk_n ?_); refine n_if_le (tgt := 46) dX9_cutsWithin_37 (by decide) (by omega) (fun h37 => ?_) (fun h37 => ?_)) | refine e_if_le (tgt := 46) dX9_cutsWithin_37 (by decide) (fun h37 => ?_) (fun h37 => ?_)
        · try first | contradiction | omega
          all_goals
            refine e_lload dX9_cutsWithin_46 rfl ?_
            refine e_aload_n dX9_cutsWithin_48 rfl rfl ?_
            refine e_getR dX9_cutsWithin_49 fl_X9_15 rfl (cm_wts cm) ?_
            refine e_iload dX9_cutsWithin_52 rfl ?_
            refine e_iadE _ dX9_cutsWithin_54 ⟨by decide, by decide⟩ rfl rfl (by simp only [lenK]; omega) (k_wt hK (by first | omega | (simp (disch := omega) only [upN_n, upN_s]; omega))) ?_
            first | ((with_reducible refine mk_n ?_); refine n_i2l dX9_cutsWithin_55 (by omega) ?_) | refine e_i2l dX9_cutsWithin_55 ?_
            first | ((with_reducible refine mk_LL ?_); refine n_ladd dX9_cutsWithin_56 ?_) | refine e_ladd dX9_cutsWithin_56 ?_
            refine e_lstore dX9_cutsWithin_57 (Nat.le_of_ble_eq_true rfl) rfl ?_
            first | refine n_inc dX9_cutsWithin_59 rfl (Nat.le_of_ble_eq_true rfl) rfl ?_ | refine e_iinc dX9_cutsWithin_59 rfl rfl (Nat.le_of_ble_eq_true rfl) rfl ?_
            refine e_goto (tgt := 17) dX9_cutsWithin_62 (by decide) ?_
            contradiction
        · try first | contradiction | omega
          all_goals
            first | refine n_inc dX9_cutsWithin_40 rfl (Nat.le_of_ble_eq_true rfl) rfl ?_ | refine e_iinc dX9_cutsWithin_40 rfl rfl (Nat.le_of_ble_eq_true rfl) rfl ?_
            refine e_lconst (v := lN 0) dX9_cutsWithin_43 rfl ?_
            refine e_lstore dX9_cutsWithin_44 (Nat.le_of_ble_eq_true rfl) rfl ?_
            refine e_lload dX9_cutsWithin_46 rfl ?_
            refine e_aload_n dX9_cutsWithin_48 rfl rfl ?_
            refine e_getR dX9_cutsWithin_49 fl_X9_15 rfl (cm_wts cm) ?_
            refine e_iload dX9_cutsWithin_52 rfl ?_
            refine e_iadE _ dX9_cutsWithin_54 ⟨by decide, by decide⟩ rfl rfl (by simp only [lenK]; omega) (k_wt hK (by first | omega | (simp (disch := omega) only [upN_n, upN_s]; omega))) ?_
            first | ((with_reducible refine mk_n ?_); refine n_i2l dX9_cutsWithin_55 (by omega) ?_) | refine e_i2l dX9_cutsWithin_55 ?_
            first | ((with_reducible refine mk_LL ?_); refine n_ladd dX9_cutsWithin_56 ?_) | refine e_ladd dX9_cutsWithin_56 ?_
            refine e_lstore dX9_cutsWithin_57 (Nat.le_of_ble_eq_true rfl) rfl ?_
            first | refine n_inc dX9_cutsWithin_59 rfl (Nat.le_of_ble_eq_true rfl) rfl ?_ | refine e_iinc dX9_cutsWithin_59 rfl rfl (Nat.le_of_ble_eq_true rfl) rfl ?_
            refine e_goto (tgt := 17) dX9_cutsWithin_62 (by decide) ?_
            contradiction
    )
  refine e_iconst (v := nI 0) dX9_cutsWithin_0 rfl ?_
  refine e_istore dX9_cutsWithin_1 (Nat.le_of_ble_eq_true rfl) rfl ?_
  refine e_aload_n dX9_cutsWithin_3 rfl rfl ?_
  refine e_getR dX9_cutsWithin_4 fl_X9_15 rfl (cm_wts cm) ?_
  refine e_iload_n dX9_cutsWithin_7 rfl rfl ?_
  refine e_iadE _ dX9_cutsWithin_8 ⟨by decide, by decide⟩ rfl rfl (by simp only [lenK]; omega) (k_wt hK (by first | omega | (simp (disch := omega) only [upN_n, upN_s]; omega))) ?_
  first | ((with_reducible refine mk_n ?_); refine n_i2l dX9_cutsWithin_9 (by omega) ?_) | refine e_i2l dX9_cutsWithin_9 ?_
  refine e_lstore dX9_cutsWithin_10 (Nat.le_of_ble_eq_true rfl) rfl ?_
  refine e_iload_n dX9_cutsWithin_12 rfl rfl ?_
  refine e_iconst (v := nI 1) dX9_cutsWithin_13 rfl ?_
  first | ((with_reducible refine mk_nn ?_); refine n_iadd dX9_cutsWithin_14 ?_) | refine e_iadd dX9_cutsWithin_14 ?_
  refine e_istore dX9_cutsWithin_15 (Nat.le_of_ble_eq_true rfl) rfl ?_
  exact key 0 (by omega)
