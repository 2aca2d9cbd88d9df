theorem PL_o {fi fi' ai : FI} {v : Nat → Nat} {f : Nat} (h : PL fi ai v) (o : ∀ g r, ¬ (g = f ∧ r = rf 6 65) → fi' g r = fi g r) (hf : f ≠ 32 * 6 + 5 ∧ f ≠ 32 * 6 + 6) : PL fi' ai v :=
  ⟨h.1, h.2.1, h.2.2.1, h.2.2.2.1, by rw [o _ _ (fun e => hf.1 e.1.symm)]; exact h.2.2.2.2.1, by rw [o _ _ (fun e => hf.2 e.1.symm)]; exact h.2.2.2.2.2⟩
theorem ct_X6_decide {fi : FI} {fr : FR} {ai : FI} {ar : FR} {N : Nat} {u lg w : Nat → Nat} {E : Nat} (cm : CM fr ar) (iu : Inv u) (iv : Inv w) (hK : K fi ai u lg E) (hP : PL fi ai w)  : CP mX6_decide 3 0 0 [.ref (rf 6 65)] fi fr ai ar N (kQ (none) fi fr ai ar N (fun fi ai => K fi ai u lg E ∧ PL fi ai w ∧ fi (32 * 6 + 7) (rf 6 65) = nx1 (nxO w) ∧ fi (32 * 6 + 8) (rf 6 65) = nx2 (nxO w) ∧ fi (32 * 6 + 9) (rf 6 65) = nx3 (nxO w))) := by
  have h1 := iv_n iv
  have h3 := iv_mm iu
  have bd := Bd_iv iu
  have hF : FR1 fi ai fi ai := FR1_rf
  change EV mX6_decide 3 0 0 0 [some (.ref (rf 6 65)), none, none] [] fi fr ai ar N (kQ (none) fi fr ai ar N (fun fi ai => K fi ai u lg E ∧ PL fi ai w ∧ fi (32 * 6 + 7) (rf 6 65) = nx1 (nxO w) ∧ fi (32 * 6 + 8) (rf 6 65) = nx2 (nxO w) ∧ fi (32 * 6 + 9) (rf 6 65) = nx3 (nxO w)))
  cases hev : evF w with
  | none =>
    have e : nxO w = none := by unfold nxO; rw [hev]; try rfl
    refine e_aload_n dX6_decide_0 rfl rfl ?_
    refine e_iconst (v := nI 0) dX6_decide_1 rfl ?_
    refine e_pg dX6_decide_2 fl_X6_73 rfl rfl rfl rfl (fun fi2 g2 o2 => ?_)
    have hK := kp_f bd hK o2
    have hF := fr_f hF o2 (by decide) (by omega)
    have hP := PL_o hP o2 (by decide)
    refine e_aload_n dX6_decide_5 rfl rfl ?_
    refine e_iconst (v := -1) dX6_decide_6 rfl ?_
    refine e_pg dX6_decide_7 fl_X6_76 rfl rfl rfl rfl (fun fi7 g7 o7 => ?_)
    have hK := kp_f bd hK o7
    have hF := fr_f hF o7 (by decide) (by omega)
    have hP := PL_o hP o7 (by decide)
    refine e_aload_n dX6_decide_10 rfl rfl ?_
    refine e_iconst (v := -1) dX6_decide_11 rfl ?_
    refine e_pg dX6_decide_12 fl_X6_79 rfl rfl rfl rfl (fun fi12 g12 o12 => ?_)
    have hK := kp_f bd hK o12
    have hF := fr_f hF o12 (by decide) (by omega)
    have hP := PL_o hP o12 (by decide)
    refine e_aload_n dX6_decide_15 rfl rfl ?_
    refine e_iconst (v := -1) dX6_decide_16 rfl ?_
    refine x_V1 (M' := mX6_gap) dX6_decide_17 ml_X6_82 ok_X6_gap (by decide) rfl im_X6_gap se_X6_gap (by first | exact ct_gapN cm iv hP | exact ct_gapB cm iv hP (by omega)) (Nat.le_of_ble_eq_true rfl) (by decide) (Nat.le_of_ble_eq_true rfl) ?_
    rw [hev]
    refine e_istore_n dX6_decide_20 rfl (Nat.le_of_ble_eq_true rfl) rfl ?_
    refine e_iload_n dX6_decide_21 rfl rfl ?_
    first | ((with_reducible refine mk_ll ?_); refine m_if_gt (tgt := 26) dX6_decide_22 (by decide) (by omega) (by omega) (fun h22 => ?_) (fun h22 => ?_)) | ((with_reducible refine mk_lc ?_); refine l_if_gt (tgt := 26) dX6_decide_22 (by decide) (fun h22 => ?_) (fun h22 => ?_)) | ((with_reducible refine mk_n ?_); refine n_if_gt (tgt := 26) dX6_decide_22 (by decide) (by omega) (fun h22 => ?_) (fun h22 => ?_)) | refine e_if_gt (tgt := 26) dX6_decide_22 (by decide) (fun h22 => ?_) (fun h22 => ?_)
    · try first | contradiction | omega
      all_goals
        exact absurd h22 (by decide)
    · try first | contradiction | omega
      all_goals
        refine e_ret none rfl (r_void dX6_decide_25 rfl) ?_
        rw [e]
        exact kq rfl hF ⟨hK, hP, (o12 _ _ (by decide)).trans ((o7 _ _ (by decide)).trans (g2)), (o12 _ _ (by decide)).trans (g7), g12⟩
  | some e0 =>
    by_cases he0 : e0 = 0
    · subst he0
      have e : nxO w = none := by unfold nxO; rw [hev]; cases otH w <;> cases otL w <;> rfl
      refine e_aload_n dX6_decide_0 rfl rfl ?_
      refine e_iconst (v := nI 0) dX6_decide_1 rfl ?_
      refine e_pg dX6_decide_2 fl_X6_73 rfl rfl rfl rfl (fun fi2 g2 o2 => ?_)
      have hK := kp_f bd hK o2
      have hF := fr_f hF o2 (by decide) (by omega)
      have hP := PL_o hP o2 (by decide)
      refine e_aload_n dX6_decide_5 rfl rfl ?_
      refine e_iconst (v := -1) dX6_decide_6 rfl ?_
      refine e_pg dX6_decide_7 fl_X6_76 rfl rfl rfl rfl (fun fi7 g7 o7 => ?_)
      have hK := kp_f bd hK o7
      have hF := fr_f hF o7 (by decide) (by omega)
      have hP := PL_o hP o7 (by decide)
      refine e_aload_n dX6_decide_10 rfl rfl ?_
      refine e_iconst (v := -1) dX6_decide_11 rfl ?_
      refine e_pg dX6_decide_12 fl_X6_79 rfl rfl rfl rfl (fun fi12 g12 o12 => ?_)
      have hK := kp_f bd hK o12
      have hF := fr_f hF o12 (by decide) (by omega)
      have hP := PL_o hP o12 (by decide)
      refine e_aload_n dX6_decide_15 rfl rfl ?_
      refine e_iconst (v := -1) dX6_decide_16 rfl ?_
      refine x_V1 (M' := mX6_gap) dX6_decide_17 ml_X6_82 ok_X6_gap (by decide) rfl im_X6_gap se_X6_gap (by first | exact ct_gapN cm iv hP | exact ct_gapB cm iv hP (by omega)) (Nat.le_of_ble_eq_true rfl) (by decide) (Nat.le_of_ble_eq_true rfl) ?_
      rw [hev, oI_s]
      refine e_istore_n dX6_decide_20 rfl (Nat.le_of_ble_eq_true rfl) rfl ?_
      refine e_iload_n dX6_decide_21 rfl rfl ?_
      first | ((with_reducible refine mk_ll ?_); refine m_if_gt (tgt := 26) dX6_decide_22 (by decide) (by omega) (by omega) (fun h22 => ?_) (fun h22 => ?_)) | ((with_reducible refine mk_lc ?_); refine l_if_gt (tgt := 26) dX6_decide_22 (by decide) (fun h22 => ?_) (fun h22 => ?_)) | ((with_reducible refine mk_n ?_); refine n_if_gt (tgt := 26) dX6_decide_22 (by decide) (by omega) (fun h22 => ?_) (fun h22 => ?_)) | refine e_if_gt (tgt := 26) dX6_decide_22 (by decide) (fun h22 => ?_) (fun h22 => ?_)
      · try first | contradiction | omega
        all_goals
          omega
      · try first | contradiction | omega
        all_goals
          refine e_ret none rfl (r_void dX6_decide_25 rfl) ?_
          rw [e]
          exact kq rfl hF ⟨hK, hP, (o12 _ _ (by decide)).trans ((o7 _ _ (by decide)).trans (g2)), (o12 _ _ (by decide)).trans (g7), g12⟩
    · obtain ⟨a, l, ha, hl, ha6, hl6, hne, hee⟩ := evF_s hev he0
      have hle := ldF_le2 iv a
      cases hs : smO w a e0 with
      | some i =>
        have hi := (bst_in hs).1
        have e : nxO w = some (1, i, l) := by
          unfold nxO
          rw [hev, ha, hl]
          show (if e0 = 0 then none else _) = _
          rw [if_neg he0, hs]
        refine e_aload_n dX6_decide_0 rfl rfl ?_
        refine e_iconst (v := nI 0) dX6_decide_1 rfl ?_
        refine e_pg dX6_decide_2 fl_X6_73 rfl rfl rfl rfl (fun fi2 g2 o2 => ?_)
        have hK := kp_f bd hK o2
        have hF := fr_f hF o2 (by decide) (by omega)
        have hP := PL_o hP o2 (by decide)
        refine e_aload_n dX6_decide_5 rfl rfl ?_
        refine e_iconst (v := -1) dX6_decide_6 rfl ?_
        refine e_pg dX6_decide_7 fl_X6_76 rfl rfl rfl rfl (fun fi7 g7 o7 => ?_)
        have hK := kp_f bd hK o7
        have hF := fr_f hF o7 (by decide) (by omega)
        have hP := PL_o hP o7 (by decide)
        refine e_aload_n dX6_decide_10 rfl rfl ?_
        refine e_iconst (v := -1) dX6_decide_11 rfl ?_
        refine e_pg dX6_decide_12 fl_X6_79 rfl rfl rfl rfl (fun fi12 g12 o12 => ?_)
        have hK := kp_f bd hK o12
        have hF := fr_f hF o12 (by decide) (by omega)
        have hP := PL_o hP o12 (by decide)
        refine e_aload_n dX6_decide_15 rfl rfl ?_
        refine e_iconst (v := -1) dX6_decide_16 rfl ?_
        refine x_V1 (M' := mX6_gap) dX6_decide_17 ml_X6_82 ok_X6_gap (by decide) rfl im_X6_gap se_X6_gap (by first | exact ct_gapN cm iv hP | exact ct_gapB cm iv hP (by omega)) (Nat.le_of_ble_eq_true rfl) (by decide) (Nat.le_of_ble_eq_true rfl) ?_
        rw [hev, oI_s]
        refine e_istore_n dX6_decide_20 rfl (Nat.le_of_ble_eq_true rfl) rfl ?_
        refine e_iload_n dX6_decide_21 rfl rfl ?_
        first | ((with_reducible refine mk_ll ?_); refine m_if_gt (tgt := 26) dX6_decide_22 (by decide) (by omega) (by omega) (fun h22 => ?_) (fun h22 => ?_)) | ((with_reducible refine mk_lc ?_); refine l_if_gt (tgt := 26) dX6_decide_22 (by decide) (fun h22 => ?_) (fun h22 => ?_)) | ((with_reducible refine mk_n ?_); refine n_if_gt (tgt := 26) dX6_decide_22 (by decide) (by omega) (fun h22 => ?_) (fun h22 => ?_)) | refine e_if_gt (tgt := 26) dX6_decide_22 (by decide) (fun h22 => ?_) (fun h22 => ?_)
        · try first | contradiction | omega
          all_goals
            refine e_aload_n dX6_decide_26 rfl rfl ?_
            refine e_iconst (v := -1) dX6_decide_27 rfl ?_
            refine x_V1 (M' := mX6_heaviest) dX6_decide_28 ml_X6_67 ok_X6_heaviest (by decide) rfl im_X6_heaviest se_X6_heaviest (by first | exact ct_heaviestN cm iv hP | exact ct_heaviestB cm iv hP (by omega)) (Nat.le_of_ble_eq_true rfl) (by decide) (Nat.le_of_ble_eq_true rfl) ?_
            rw [ha, oI_s]
            refine e_istore_n dX6_decide_31 rfl (Nat.le_of_ble_eq_true rfl) rfl ?_
            refine e_aload_n dX6_decide_32 rfl rfl ?_
            refine e_aload_n dX6_decide_33 rfl rfl ?_
            refine e_iload_n dX6_decide_34 rfl rfl ?_
            refine e_iload_n dX6_decide_35 rfl rfl ?_
            refine x_V2 (M' := mX6_bestToMove) dX6_decide_36 ml_X6_85 ok_X6_bestToMove (by decide) rfl im_X6_bestToMove se_X6_bestToMove (ct_X6_bestToMove cm iv hP (by omega) (by omega)) (Nat.le_of_ble_eq_true rfl) (by decide) (Nat.le_of_ble_eq_true rfl) ?_
            rw [hs, oI_s]
            refine e_pg dX6_decide_39 fl_X6_76 rfl rfl rfl rfl (fun fi39 g39 o39 => ?_)
            have hK := kp_f bd hK o39
            have hF := fr_f hF o39 (by decide) (by omega)
            have hP := PL_o hP o39 (by decide)
            refine e_aload_n dX6_decide_42 rfl rfl ?_
            refine e_getE dX6_decide_43 fl_X6_76 rfl g39 ?_
            refine e_iconst (v := -1) dX6_decide_46 rfl ?_
            first | ((with_reducible refine mk_mo ?_); refine p_icmp_eq (tgt := 65) dX6_decide_47 (by decide) (fun h47 => ?_) (fun h47 => ?_)) | ((with_reducible refine mk_ms ?_); refine s_icmp_eq (tgt := 65) dX6_decide_47 (by decide) (by omega) (fun h47 => ?_) (fun h47 => ?_)) | ((with_reducible refine mk_mn ?_); refine q_icmp_eq (tgt := 65) dX6_decide_47 (by decide) (by omega) (fun h47 => ?_) (fun h47 => ?_)) | ((with_reducible refine mk_nn ?_); refine n_icmp_eq (tgt := 65) dX6_decide_47 (by decide) (by omega) (by omega) (fun h47 => ?_) (fun h47 => ?_)) | refine e_icmp_eq (tgt := 65) dX6_decide_47 (by decide) (fun h47 => ?_) (fun h47 => ?_)
            · try first | contradiction | omega
              all_goals
                contradiction
            · try first | contradiction | omega
              all_goals
                refine e_aload_n dX6_decide_50 rfl rfl ?_
                refine e_iconst (v := nI 1) dX6_decide_51 rfl ?_
                refine e_pg dX6_decide_52 fl_X6_73 rfl rfl rfl rfl (fun fi52 g52 o52 => ?_)
                have hK := kp_f bd hK o52
                have hF := fr_f hF o52 (by decide) (by omega)
                have hP := PL_o hP o52 (by decide)
                refine e_aload_n dX6_decide_55 rfl rfl ?_
                refine e_aload_n dX6_decide_56 rfl rfl ?_
                refine e_iconst (v := -1) dX6_decide_57 rfl ?_
                refine x_V1 (M' := mX6_lightest) dX6_decide_58 ml_X6_70 ok_X6_lightest (by decide) rfl im_X6_lightest se_X6_lightest (by first | exact ct_lightestN cm iv hP | exact ct_lightestB cm iv hP (by omega)) (Nat.le_of_ble_eq_true rfl) (by decide) (Nat.le_of_ble_eq_true rfl) ?_
                rw [hl, oI_s]
                refine e_pg dX6_decide_61 fl_X6_79 rfl rfl rfl rfl (fun fi61 g61 o61 => ?_)
                have hK := kp_f bd hK o61
                have hF := fr_f hF o61 (by decide) (by omega)
                have hP := PL_o hP o61 (by decide)
                refine e_ret none rfl (r_void dX6_decide_64 rfl) ?_
                rw [e]
                exact kq rfl hF ⟨hK, hP, (o61 _ _ (by decide)).trans (g52), (o61 _ _ (by decide)).trans ((o52 _ _ (by decide)).trans (g39)), g61⟩
        · try first | contradiction | omega
          all_goals
            omega
      | none =>
        have e0x : nxO w = match ssO w a with
            | some i => (match mdO w i with
              | some k => some (2, i, k)
              | none => none)
            | none => none := by
          unfold nxO
          rw [hev, ha, hl]
          show (if e0 = 0 then none else _) = _
          rw [if_neg he0, hs]
          rfl
        by_cases h32 : w 1 < 32
        · have e2 : ssO w a = bst (fun i => decide (w (42 + i) = a) && (mvL w (w (10 + i))).isNone && (mdO w i).isSome) (fun i q => decide (wtF w q < wtF w i)) (w 1) := by unfold ssO; rw [if_pos h32]
          cases hb : bst (fun i => decide (w (42 + i) = a) && (mvL w (w (10 + i))).isNone && (mdO w i).isSome) (fun i q => decide (wtF w q < wtF w i)) (w 1) with
          | none =>
            have e : nxO w = none := by rw [e0x, e2, hb]
            refine e_aload_n dX6_decide_0 rfl rfl ?_
            refine e_iconst (v := nI 0) dX6_decide_1 rfl ?_
            refine e_pg dX6_decide_2 fl_X6_73 rfl rfl rfl rfl (fun fi2 g2 o2 => ?_)
            have hK := kp_f bd hK o2
            have hF := fr_f hF o2 (by decide) (by omega)
            have hP := PL_o hP o2 (by decide)
            refine e_aload_n dX6_decide_5 rfl rfl ?_
            refine e_iconst (v := -1) dX6_decide_6 rfl ?_
            refine e_pg dX6_decide_7 fl_X6_76 rfl rfl rfl rfl (fun fi7 g7 o7 => ?_)
            have hK := kp_f bd hK o7
            have hF := fr_f hF o7 (by decide) (by omega)
            have hP := PL_o hP o7 (by decide)
            refine e_aload_n dX6_decide_10 rfl rfl ?_
            refine e_iconst (v := -1) dX6_decide_11 rfl ?_
            refine e_pg dX6_decide_12 fl_X6_79 rfl rfl rfl rfl (fun fi12 g12 o12 => ?_)
            have hK := kp_f bd hK o12
            have hF := fr_f hF o12 (by decide) (by omega)
            have hP := PL_o hP o12 (by decide)
            refine e_aload_n dX6_decide_15 rfl rfl ?_
            refine e_iconst (v := -1) dX6_decide_16 rfl ?_
            refine x_V1 (M' := mX6_gap) dX6_decide_17 ml_X6_82 ok_X6_gap (by decide) rfl im_X6_gap se_X6_gap (by first | exact ct_gapN cm iv hP | exact ct_gapB cm iv hP (by omega)) (Nat.le_of_ble_eq_true rfl) (by decide) (Nat.le_of_ble_eq_true rfl) ?_
            rw [hev, oI_s]
            refine e_istore_n dX6_decide_20 rfl (Nat.le_of_ble_eq_true rfl) rfl ?_
            refine e_iload_n dX6_decide_21 rfl rfl ?_
            first | ((with_reducible refine mk_ll ?_); refine m_if_gt (tgt := 26) dX6_decide_22 (by decide) (by omega) (by omega) (fun h22 => ?_) (fun h22 => ?_)) | ((with_reducible refine mk_lc ?_); refine l_if_gt (tgt := 26) dX6_decide_22 (by decide) (fun h22 => ?_) (fun h22 => ?_)) | ((with_reducible refine mk_n ?_); refine n_if_gt (tgt := 26) dX6_decide_22 (by decide) (by omega) (fun h22 => ?_) (fun h22 => ?_)) | refine e_if_gt (tgt := 26) dX6_decide_22 (by decide) (fun h22 => ?_) (fun h22 => ?_)
            · try first | contradiction | omega
              all_goals
                refine e_aload_n dX6_decide_26 rfl rfl ?_
                refine e_iconst (v := -1) dX6_decide_27 rfl ?_
                refine x_V1 (M' := mX6_heaviest) dX6_decide_28 ml_X6_67 ok_X6_heaviest (by decide) rfl im_X6_heaviest se_X6_heaviest (by first | exact ct_heaviestN cm iv hP | exact ct_heaviestB cm iv hP (by omega)) (Nat.le_of_ble_eq_true rfl) (by decide) (Nat.le_of_ble_eq_true rfl) ?_
                rw [ha, oI_s]
                refine e_istore_n dX6_decide_31 rfl (Nat.le_of_ble_eq_true rfl) rfl ?_
                refine e_aload_n dX6_decide_32 rfl rfl ?_
                refine e_aload_n dX6_decide_33 rfl rfl ?_
                refine e_iload_n dX6_decide_34 rfl rfl ?_
                refine e_iload_n dX6_decide_35 rfl rfl ?_
                refine x_V2 (M' := mX6_bestToMove) dX6_decide_36 ml_X6_85 ok_X6_bestToMove (by decide) rfl im_X6_bestToMove se_X6_bestToMove (ct_X6_bestToMove cm iv hP (by omega) (by omega)) (Nat.le_of_ble_eq_true rfl) (by decide) (Nat.le_of_ble_eq_true rfl) ?_
                rw [hs]
                refine e_pg dX6_decide_39 fl_X6_76 rfl rfl rfl rfl (fun fi39 g39 o39 => ?_)
                have hK := kp_f bd hK o39
                have hF := fr_f hF o39 (by decide) (by omega)
                have hP := PL_o hP o39 (by decide)
                refine e_aload_n dX6_decide_42 rfl rfl ?_
                refine e_getE dX6_decide_43 fl_X6_76 rfl g39 ?_
                refine e_iconst (v := -1) dX6_decide_46 rfl ?_
                first | ((with_reducible refine mk_mo ?_); refine p_icmp_eq (tgt := 65) dX6_decide_47 (by decide) (fun h47 => ?_) (fun h47 => ?_)) | ((with_reducible refine mk_ms ?_); refine s_icmp_eq (tgt := 65) dX6_decide_47 (by decide) (by omega) (fun h47 => ?_) (fun h47 => ?_)) | ((with_reducible refine mk_mn ?_); refine q_icmp_eq (tgt := 65) dX6_decide_47 (by decide) (by omega) (fun h47 => ?_) (fun h47 => ?_)) | ((with_reducible refine mk_nn ?_); refine n_icmp_eq (tgt := 65) dX6_decide_47 (by decide) (by omega) (by omega) (fun h47 => ?_) (fun h47 => ?_)) | refine e_icmp_eq (tgt := 65) dX6_decide_47 (by decide) (fun h47 => ?_) (fun h47 => ?_)
                · try first | contradiction | omega
                  all_goals
                    refine e_aload_n dX6_decide_65 rfl rfl ?_
                    refine e_aload_n dX6_decide_66 rfl rfl ?_
                    refine e_getE dX6_decide_67 fl_X6_43 rfl (pl_n hP) ?_
                    refine e_bipush (v := nI 32) dX6_decide_70 rfl ?_
                    first | ((with_reducible refine mk_nn ?_); refine n_icmp_ge (tgt := 83) dX6_decide_72 (by decide) (by omega) (by omega) (fun h72 => ?_) (fun h72 => ?_)) | refine e_icmp_ge (tgt := 83) dX6_decide_72 (by decide) (fun h72 => ?_) (fun h72 => ?_)
                    · try first | contradiction | omega
                      all_goals
                        omega
                    · try first | contradiction | omega
                      all_goals
                        refine e_aload_n dX6_decide_75 rfl rfl ?_
                        refine e_iload_n dX6_decide_76 rfl rfl ?_
                        refine x_V1 (M' := mX6_bestToSplit) dX6_decide_77 ml_X6_89 ok_X6_bestToSplit (by decide) rfl im_X6_bestToSplit se_X6_bestToSplit (ct_X6_bestToSplit cm iv hP (by omega)) (Nat.le_of_ble_eq_true rfl) (by decide) (Nat.le_of_ble_eq_true rfl) ?_
                        rw [hb]
                        refine e_goto (tgt := 84) dX6_decide_80 (by decide) ?_
                        refine e_pg dX6_decide_84 fl_X6_76 rfl rfl rfl rfl (fun fi84 g84 o84 => ?_)
                        have hK := kp_f bd hK o84
                        have hF := fr_f hF o84 (by decide) (by omega)
                        have hP := PL_o hP o84 (by decide)
                        refine e_aload_n dX6_decide_87 rfl rfl ?_
                        refine e_getE dX6_decide_88 fl_X6_76 rfl g84 ?_
                        refine e_iconst (v := -1) dX6_decide_91 rfl ?_
                        first | ((with_reducible refine mk_mo ?_); refine p_icmp_eq (tgt := 112) dX6_decide_92 (by decide) (fun h92 => ?_) (fun h92 => ?_)) | ((with_reducible refine mk_ms ?_); refine s_icmp_eq (tgt := 112) dX6_decide_92 (by decide) (by omega) (fun h92 => ?_) (fun h92 => ?_)) | ((with_reducible refine mk_mn ?_); refine q_icmp_eq (tgt := 112) dX6_decide_92 (by decide) (by omega) (fun h92 => ?_) (fun h92 => ?_)) | ((with_reducible refine mk_nn ?_); refine n_icmp_eq (tgt := 112) dX6_decide_92 (by decide) (by omega) (by omega) (fun h92 => ?_) (fun h92 => ?_)) | refine e_icmp_eq (tgt := 112) dX6_decide_92 (by decide) (fun h92 => ?_) (fun h92 => ?_)
                        · try first | contradiction | omega
                          all_goals
                            refine e_ret none rfl (r_void dX6_decide_112 rfl) ?_
                            rw [e]
                            exact kq rfl hF ⟨hK, hP, (o84 _ _ (by decide)).trans ((o39 _ _ (by decide)).trans ((o12 _ _ (by decide)).trans ((o7 _ _ (by decide)).trans (g2)))), g84, (o84 _ _ (by decide)).trans ((o39 _ _ (by decide)).trans (g12))⟩
                        · try first | contradiction | omega
                          all_goals
                            contradiction
                · try first | contradiction | omega
                  all_goals
                    contradiction
            · try first | contradiction | omega
              all_goals
                omega
          | some i =>
            have hi := (bst_in hb).1
            have hmi := (bst_in hb).2
            obtain ⟨k, hmd⟩ : ∃ k, mdO w i = some k := Option.isSome_iff_exists.mp (by simp only [Bool.and_eq_true] at hmi; exact hmi.2)
            have hmk := mdO_in iv hi hmd
            have hen := enF_le iv hi
            have e : nxO w = some (2, i, k) := by
              rw [e0x, e2, hb]
              show (match mdO w i with | some k => some (2, i, k) | none => none) = _
              rw [hmd]
            refine e_aload_n dX6_decide_0 rfl rfl ?_
            refine e_iconst (v := nI 0) dX6_decide_1 rfl ?_
            refine e_pg dX6_decide_2 fl_X6_73 rfl rfl rfl rfl (fun fi2 g2 o2 => ?_)
            have hK := kp_f bd hK o2
            have hF := fr_f hF o2 (by decide) (by omega)
            have hP := PL_o hP o2 (by decide)
            refine e_aload_n dX6_decide_5 rfl rfl ?_
            refine e_iconst (v := -1) dX6_decide_6 rfl ?_
            refine e_pg dX6_decide_7 fl_X6_76 rfl rfl rfl rfl (fun fi7 g7 o7 => ?_)
            have hK := kp_f bd hK o7
            have hF := fr_f hF o7 (by decide) (by omega)
            have hP := PL_o hP o7 (by decide)
            refine e_aload_n dX6_decide_10 rfl rfl ?_
            refine e_iconst (v := -1) dX6_decide_11 rfl ?_
            refine e_pg dX6_decide_12 fl_X6_79 rfl rfl rfl rfl (fun fi12 g12 o12 => ?_)
            have hK := kp_f bd hK o12
            have hF := fr_f hF o12 (by decide) (by omega)
            have hP := PL_o hP o12 (by decide)
            refine e_aload_n dX6_decide_15 rfl rfl ?_
            refine e_iconst (v := -1) dX6_decide_16 rfl ?_
            refine x_V1 (M' := mX6_gap) dX6_decide_17 ml_X6_82 ok_X6_gap (by decide) rfl im_X6_gap se_X6_gap (by first | exact ct_gapN cm iv hP | exact ct_gapB cm iv hP (by omega)) (Nat.le_of_ble_eq_true rfl) (by decide) (Nat.le_of_ble_eq_true rfl) ?_
            rw [hev, oI_s]
            refine e_istore_n dX6_decide_20 rfl (Nat.le_of_ble_eq_true rfl) rfl ?_
            refine e_iload_n dX6_decide_21 rfl rfl ?_
            first | ((with_reducible refine mk_ll ?_); refine m_if_gt (tgt := 26) dX6_decide_22 (by decide) (by omega) (by omega) (fun h22 => ?_) (fun h22 => ?_)) | ((with_reducible refine mk_lc ?_); refine l_if_gt (tgt := 26) dX6_decide_22 (by decide) (fun h22 => ?_) (fun h22 => ?_)) | ((with_reducible refine mk_n ?_); refine n_if_gt (tgt := 26) dX6_decide_22 (by decide) (by omega) (fun h22 => ?_) (fun h22 => ?_)) | refine e_if_gt (tgt := 26) dX6_decide_22 (by decide) (fun h22 => ?_) (fun h22 => ?_)
            · try first | contradiction | omega
              all_goals
                refine e_aload_n dX6_decide_26 rfl rfl ?_
                refine e_iconst (v := -1) dX6_decide_27 rfl ?_
                refine x_V1 (M' := mX6_heaviest) dX6_decide_28 ml_X6_67 ok_X6_heaviest (by decide) rfl im_X6_heaviest se_X6_heaviest (by first | exact ct_heaviestN cm iv hP | exact ct_heaviestB cm iv hP (by omega)) (Nat.le_of_ble_eq_true rfl) (by decide) (Nat.le_of_ble_eq_true rfl) ?_
                rw [ha, oI_s]
                refine e_istore_n dX6_decide_31 rfl (Nat.le_of_ble_eq_true rfl) rfl ?_
                refine e_aload_n dX6_decide_32 rfl rfl ?_
                refine e_aload_n dX6_decide_33 rfl rfl ?_
                refine e_iload_n dX6_decide_34 rfl rfl ?_
                refine e_iload_n dX6_decide_35 rfl rfl ?_
                refine x_V2 (M' := mX6_bestToMove) dX6_decide_36 ml_X6_85 ok_X6_bestToMove (by decide) rfl im_X6_bestToMove se_X6_bestToMove (ct_X6_bestToMove cm iv hP (by omega) (by omega)) (Nat.le_of_ble_eq_true rfl) (by decide) (Nat.le_of_ble_eq_true rfl) ?_
                rw [hs]
                refine e_pg dX6_decide_39 fl_X6_76 rfl rfl rfl rfl (fun fi39 g39 o39 => ?_)
                have hK := kp_f bd hK o39
                have hF := fr_f hF o39 (by decide) (by omega)
                have hP := PL_o hP o39 (by decide)
                refine e_aload_n dX6_decide_42 rfl rfl ?_
                refine e_getE dX6_decide_43 fl_X6_76 rfl g39 ?_
                refine e_iconst (v := -1) dX6_decide_46 rfl ?_
                first | ((with_reducible refine mk_mo ?_); refine p_icmp_eq (tgt := 65) dX6_decide_47 (by decide) (fun h47 => ?_) (fun h47 => ?_)) | ((with_reducible refine mk_ms ?_); refine s_icmp_eq (tgt := 65) dX6_decide_47 (by decide) (by omega) (fun h47 => ?_) (fun h47 => ?_)) | ((with_reducible refine mk_mn ?_); refine q_icmp_eq (tgt := 65) dX6_decide_47 (by decide) (by omega) (fun h47 => ?_) (fun h47 => ?_)) | ((with_reducible refine mk_nn ?_); refine n_icmp_eq (tgt := 65) dX6_decide_47 (by decide) (by omega) (by omega) (fun h47 => ?_) (fun h47 => ?_)) | refine e_icmp_eq (tgt := 65) dX6_decide_47 (by decide) (fun h47 => ?_) (fun h47 => ?_)
                · try first | contradiction | omega
                  all_goals
                    refine e_aload_n dX6_decide_65 rfl rfl ?_
                    refine e_aload_n dX6_decide_66 rfl rfl ?_
                    refine e_getE dX6_decide_67 fl_X6_43 rfl (pl_n hP) ?_
                    refine e_bipush (v := nI 32) dX6_decide_70 rfl ?_
                    first | ((with_reducible refine mk_nn ?_); refine n_icmp_ge (tgt := 83) dX6_decide_72 (by decide) (by omega) (by omega) (fun h72 => ?_) (fun h72 => ?_)) | refine e_icmp_ge (tgt := 83) dX6_decide_72 (by decide) (fun h72 => ?_) (fun h72 => ?_)
                    · try first | contradiction | omega
                      all_goals
                        omega
                    · try first | contradiction | omega
                      all_goals
                        refine e_aload_n dX6_decide_75 rfl rfl ?_
                        refine e_iload_n dX6_decide_76 rfl rfl ?_
                        refine x_V1 (M' := mX6_bestToSplit) dX6_decide_77 ml_X6_89 ok_X6_bestToSplit (by decide) rfl im_X6_bestToSplit se_X6_bestToSplit (ct_X6_bestToSplit cm iv hP (by omega)) (Nat.le_of_ble_eq_true rfl) (by decide) (Nat.le_of_ble_eq_true rfl) ?_
                        rw [hb, oI_s]
                        refine e_goto (tgt := 84) dX6_decide_80 (by decide) ?_
                        refine e_pg dX6_decide_84 fl_X6_76 rfl rfl rfl rfl (fun fi84 g84 o84 => ?_)
                        have hK := kp_f bd hK o84
                        have hF := fr_f hF o84 (by decide) (by omega)
                        have hP := PL_o hP o84 (by decide)
                        refine e_aload_n dX6_decide_87 rfl rfl ?_
                        refine e_getE dX6_decide_88 fl_X6_76 rfl g84 ?_
                        refine e_iconst (v := -1) dX6_decide_91 rfl ?_
                        first | ((with_reducible refine mk_mo ?_); refine p_icmp_eq (tgt := 112) dX6_decide_92 (by decide) (fun h92 => ?_) (fun h92 => ?_)) | ((with_reducible refine mk_ms ?_); refine s_icmp_eq (tgt := 112) dX6_decide_92 (by decide) (by omega) (fun h92 => ?_) (fun h92 => ?_)) | ((with_reducible refine mk_mn ?_); refine q_icmp_eq (tgt := 112) dX6_decide_92 (by decide) (by omega) (fun h92 => ?_) (fun h92 => ?_)) | ((with_reducible refine mk_nn ?_); refine n_icmp_eq (tgt := 112) dX6_decide_92 (by decide) (by omega) (by omega) (fun h92 => ?_) (fun h92 => ?_)) | refine e_icmp_eq (tgt := 112) dX6_decide_92 (by decide) (fun h92 => ?_) (fun h92 => ?_)
                        · try first | contradiction | omega
                          all_goals
                            refine e_ret none rfl (r_void dX6_decide_112 rfl) ?_
                            rw [e]
                            exact kq rfl hF ⟨hK, hP, (o109 _ _ (by decide)).trans (g97), (o109 _ _ (by decide)).trans ((o97 _ _ (by decide)).trans (g84)), g109⟩
                        · try first | contradiction | omega
                          all_goals
                            refine e_aload_n dX6_decide_95 rfl rfl ?_
                            refine e_iconst (v := nI 2) dX6_decide_96 rfl ?_
                            refine e_pg dX6_decide_97 fl_X6_73 rfl rfl rfl rfl (fun fi97 g97 o97 => ?_)
                            have hK := kp_f bd hK o97
                            have hF := fr_f hF o97 (by decide) (by omega)
                            have hP := PL_o hP o97 (by decide)
                            refine e_aload_n dX6_decide_100 rfl rfl ?_
                            refine e_aload_n dX6_decide_101 rfl rfl ?_
                            refine e_aload_n dX6_decide_102 rfl rfl ?_
                            refine e_getE dX6_decide_103 fl_X6_76 rfl ((o97 _ _ (by decide)).trans g84) ?_
                            refine x_V1 (M' := mX6_middleIn) dX6_decide_106 ml_X6_92 ok_X6_middleIn (by decide) rfl im_X6_middleIn se_X6_middleIn (ct_X6_middleIn cm iv hP (by omega)) (Nat.le_of_ble_eq_true rfl) (by decide) (Nat.le_of_ble_eq_true rfl) ?_
                            rw [hmd, oI_s]
                            refine e_pg dX6_decide_109 fl_X6_79 rfl rfl rfl rfl (fun fi109 g109 o109 => ?_)
                            have hK := kp_f bd hK o109
                            have hF := fr_f hF o109 (by decide) (by omega)
                            have hP := PL_o hP o109 (by decide)
                            refine e_ret none rfl (r_void dX6_decide_112 rfl) ?_
                            rw [e]
                            exact kq rfl hF ⟨hK, hP, (o109 _ _ (by decide)).trans (g97), (o109 _ _ (by decide)).trans ((o97 _ _ (by decide)).trans (g84)), g109⟩
                · try first | contradiction | omega
                  all_goals
                    contradiction
            · try first | contradiction | omega
              all_goals
                omega
        · have e2 : ssO w a = none := by unfold ssO; rw [if_neg h32]
          have e : nxO w = none := by rw [e0x, e2]
          refine e_aload_n dX6_decide_0 rfl rfl ?_
          refine e_iconst (v := nI 0) dX6_decide_1 rfl ?_
          refine e_pg dX6_decide_2 fl_X6_73 rfl rfl rfl rfl (fun fi2 g2 o2 => ?_)
          have hK := kp_f bd hK o2
          have hF := fr_f hF o2 (by decide) (by omega)
          have hP := PL_o hP o2 (by decide)
          refine e_aload_n dX6_decide_5 rfl rfl ?_
          refine e_iconst (v := -1) dX6_decide_6 rfl ?_
          refine e_pg dX6_decide_7 fl_X6_76 rfl rfl rfl rfl (fun fi7 g7 o7 => ?_)
          have hK := kp_f bd hK o7
          have hF := fr_f hF o7 (by decide) (by omega)
          have hP := PL_o hP o7 (by decide)
          refine e_aload_n dX6_decide_10 rfl rfl ?_
          refine e_iconst (v := -1) dX6_decide_11 rfl ?_
          refine e_pg dX6_decide_12 fl_X6_79 rfl rfl rfl rfl (fun fi12 g12 o12 => ?_)
          have hK := kp_f bd hK o12
          have hF := fr_f hF o12 (by decide) (by omega)
          have hP := PL_o hP o12 (by decide)
          refine e_aload_n dX6_decide_15 rfl rfl ?_
          refine e_iconst (v := -1) dX6_decide_16 rfl ?_
          refine x_V1 (M' := mX6_gap) dX6_decide_17 ml_X6_82 ok_X6_gap (by decide) rfl im_X6_gap se_X6_gap (by first | exact ct_gapN cm iv hP | exact ct_gapB cm iv hP (by omega)) (Nat.le_of_ble_eq_true rfl) (by decide) (Nat.le_of_ble_eq_true rfl) ?_
          rw [hev, oI_s]
          refine e_istore_n dX6_decide_20 rfl (Nat.le_of_ble_eq_true rfl) rfl ?_
          refine e_iload_n dX6_decide_21 rfl rfl ?_
          first | ((with_reducible refine mk_ll ?_); refine m_if_gt (tgt := 26) dX6_decide_22 (by decide) (by omega) (by omega) (fun h22 => ?_) (fun h22 => ?_)) | ((with_reducible refine mk_lc ?_); refine l_if_gt (tgt := 26) dX6_decide_22 (by decide) (fun h22 => ?_) (fun h22 => ?_)) | ((with_reducible refine mk_n ?_); refine n_if_gt (tgt := 26) dX6_decide_22 (by decide) (by omega) (fun h22 => ?_) (fun h22 => ?_)) | refine e_if_gt (tgt := 26) dX6_decide_22 (by decide) (fun h22 => ?_) (fun h22 => ?_)
          · try first | contradiction | omega
            all_goals
              refine e_aload_n dX6_decide_26 rfl rfl ?_
              refine e_iconst (v := -1) dX6_decide_27 rfl ?_
              refine x_V1 (M' := mX6_heaviest) dX6_decide_28 ml_X6_67 ok_X6_heaviest (by decide) rfl im_X6_heaviest se_X6_heaviest (by first | exact ct_heaviestN cm iv hP | exact ct_heaviestB cm iv hP (by omega)) (Nat.le_of_ble_eq_true rfl) (by decide) (Nat.le_of_ble_eq_true rfl) ?_
              rw [ha, oI_s]
              refine e_istore_n dX6_decide_31 rfl (Nat.le_of_ble_eq_true rfl) rfl ?_
              refine e_aload_n dX6_decide_32 rfl rfl ?_
              refine e_aload_n dX6_decide_33 rfl rfl ?_
              refine e_iload_n dX6_decide_34 rfl rfl ?_
              refine e_iload_n dX6_decide_35 rfl rfl ?_
              refine x_V2 (M' := mX6_bestToMove) dX6_decide_36 ml_X6_85 ok_X6_bestToMove (by decide) rfl im_X6_bestToMove se_X6_bestToMove (ct_X6_bestToMove cm iv hP (by omega) (by omega)) (Nat.le_of_ble_eq_true rfl) (by decide) (Nat.le_of_ble_eq_true rfl) ?_
              rw [hs]
              refine e_pg dX6_decide_39 fl_X6_76 rfl rfl rfl rfl (fun fi39 g39 o39 => ?_)
              have hK := kp_f bd hK o39
              have hF := fr_f hF o39 (by decide) (by omega)
              have hP := PL_o hP o39 (by decide)
              refine e_aload_n dX6_decide_42 rfl rfl ?_
              refine e_getE dX6_decide_43 fl_X6_76 rfl g39 ?_
              refine e_iconst (v := -1) dX6_decide_46 rfl ?_
              first | ((with_reducible refine mk_mo ?_); refine p_icmp_eq (tgt := 65) dX6_decide_47 (by decide) (fun h47 => ?_) (fun h47 => ?_)) | ((with_reducible refine mk_ms ?_); refine s_icmp_eq (tgt := 65) dX6_decide_47 (by decide) (by omega) (fun h47 => ?_) (fun h47 => ?_)) | ((with_reducible refine mk_mn ?_); refine q_icmp_eq (tgt := 65) dX6_decide_47 (by decide) (by omega) (fun h47 => ?_) (fun h47 => ?_)) | ((with_reducible refine mk_nn ?_); refine n_icmp_eq (tgt := 65) dX6_decide_47 (by decide) (by omega) (by omega) (fun h47 => ?_) (fun h47 => ?_)) | refine e_icmp_eq (tgt := 65) dX6_decide_47 (by decide) (fun h47 => ?_) (fun h47 => ?_)
              · try first | contradiction | omega
                all_goals
                  refine e_aload_n dX6_decide_65 rfl rfl ?_
                  refine e_aload_n dX6_decide_66 rfl rfl ?_
                  refine e_getE dX6_decide_67 fl_X6_43 rfl (pl_n hP) ?_
                  refine e_bipush (v := nI 32) dX6_decide_70 rfl ?_
                  first | ((with_reducible refine mk_nn ?_); refine n_icmp_ge (tgt := 83) dX6_decide_72 (by decide) (by omega) (by omega) (fun h72 => ?_) (fun h72 => ?_)) | refine e_icmp_ge (tgt := 83) dX6_decide_72 (by decide) (fun h72 => ?_) (fun h72 => ?_)
                  · try first | contradiction | omega
                    all_goals
                      refine e_iconst (v := -1) dX6_decide_83 rfl ?_
                      refine e_pg dX6_decide_84 fl_X6_76 rfl rfl rfl rfl (fun fi84 g84 o84 => ?_)
                      have hK := kp_f bd hK o84
                      have hF := fr_f hF o84 (by decide) (by omega)
                      have hP := PL_o hP o84 (by decide)
                      refine e_aload_n dX6_decide_87 rfl rfl ?_
                      refine e_getE dX6_decide_88 fl_X6_76 rfl g84 ?_
                      refine e_iconst (v := -1) dX6_decide_91 rfl ?_
                      first | ((with_reducible refine mk_mo ?_); refine p_icmp_eq (tgt := 112) dX6_decide_92 (by decide) (fun h92 => ?_) (fun h92 => ?_)) | ((with_reducible refine mk_ms ?_); refine s_icmp_eq (tgt := 112) dX6_decide_92 (by decide) (by omega) (fun h92 => ?_) (fun h92 => ?_)) | ((with_reducible refine mk_mn ?_); refine q_icmp_eq (tgt := 112) dX6_decide_92 (by decide) (by omega) (fun h92 => ?_) (fun h92 => ?_)) | ((with_reducible refine mk_nn ?_); refine n_icmp_eq (tgt := 112) dX6_decide_92 (by decide) (by omega) (by omega) (fun h92 => ?_) (fun h92 => ?_)) | refine e_icmp_eq (tgt := 112) dX6_decide_92 (by decide) (fun h92 => ?_) (fun h92 => ?_)
                      · try first | contradiction | omega
                        all_goals
                          refine e_ret none rfl (r_void dX6_decide_112 rfl) ?_
                          rw [e]
                          exact kq rfl hF ⟨hK, hP, (o84 _ _ (by decide)).trans ((o39 _ _ (by decide)).trans ((o12 _ _ (by decide)).trans ((o7 _ _ (by decide)).trans (g2)))), g84, (o84 _ _ (by decide)).trans ((o39 _ _ (by decide)).trans (g12))⟩
                      · try first | contradiction | omega
                        all_goals
                          exact absurd rfl h92
                  · try first | contradiction | omega
                    all_goals
                      omega
              · try first | contradiction | omega
                all_goals
                  contradiction
          · try first | contradiction | omega
            all_goals
              omega
theorem nxO_nm {w : Nat → Nat} {q : Nat × Nat × Nat} (h : nxO w = some q) : (mvL w (w (10 + q.2.1))).isNone = true := by
  unfold nxO at h
  split at h
  · split at h
    · cases h
    · split at h
      · rename_i i hi
        obtain rfl := Option.some.inj h
        have := (bst_in hi).2
        simp only [Bool.and_eq_true] at this
        exact this.1.1.2
      · split at h
        · rename_i i hi
          split at h
          · obtain rfl := Option.some.inj h
            unfold ssO at hi
            split at hi
            · have := (bst_in hi).2
              simp only [Bool.and_eq_true] at this
              exact this.1.2
            · cases hi
          · cases h
        · cases h
  · cases h
theorem own_I2 {w : Nat → Nat} (iv : Inv w) (h : Inv2 w) {i s : Nat} (hi : i < w 1) : Inv2 (upN w (42 + i) s) := Inv2_fr iv (fun q a _ => upN_n (by omega)) (fun m d a b => upN_n (by have := iv_n iv; omega)) h
theorem ap_I2 {w : Nat → Nat} (iv : Inv w) (h : Inv2 w) {q : Nat × Nat × Nat} (hq : nxO w = some q) : Inv2 (apW w q) := by
  obtain ⟨hi, hk⟩ := nxO_in iv hq
  unfold apW
  rcases hk with ⟨k1, k2⟩ | ⟨k1, k2, k3⟩
  · rw [if_pos k1]; exact own_I2 iv h hi
  · rw [if_neg (by omega)]; exact spl_I2 iv h hi k2 (nxO_nm hq)
theorem ct_X6_carryOut {fi : FI} {fr : FR} {ai : FI} {ar : FR} {N : Nat} {u lg w : Nat → Nat} {E : Nat} (cm : CM fr ar) (iu : Inv u) (iv : Inv w) (hK : K fi ai u lg E) (hP : PL fi ai w) (i2 : Inv2 w) {q : Nat × Nat × Nat} (hq : nxO w = some q) (hk : fi (32 * 6 + 7) (rf 6 65) = nI q.1) (hc : fi (32 * 6 + 8) (rf 6 65) = nI q.2.1) (ht : fi (32 * 6 + 9) (rf 6 65) = nI q.2.2) : CP mX6_carryOut 2 0 0 [.ref (rf 6 65)] fi fr ai ar N (kQ (none) fi fr ai ar N (fun fi ai => K fi ai u lg E ∧ PL fi ai (apW w q))) := by
  have h1 := iv_n iv
  have h3 := iv_mm iu
  have bd := Bd_iv iu
  have hF : FR1 fi ai fi ai := FR1_rf
  change EV mX6_carryOut 2 0 0 0 [some (.ref (rf 6 65))] [] fi fr ai ar N (kQ (none) fi fr ai ar N (fun fi ai => K fi ai u lg E ∧ PL fi ai (apW w q)))
  obtain ⟨hi, hkk⟩ := nxO_in iv hq
  rcases hkk with ⟨k1, k2⟩ | ⟨k1, k2, k3⟩
  · have e : apW w q = upN w (42 + q.2.1) q.2.2 := by unfold apW; rw [if_pos k1]
    rw [e]
    refine e_aload_n dX6_carryOut_0 rfl rfl ?_
    refine e_getE dX6_carryOut_1 fl_X6_73 rfl hk ?_
    refine e_iconst (v := nI 1) dX6_carryOut_4 rfl ?_
    first | ((with_reducible refine mk_mo ?_); refine p_icmp_ne (tgt := 23) dX6_carryOut_5 (by decide) (fun h5 => ?_) (fun h5 => ?_)) | ((with_reducible refine mk_ms ?_); refine s_icmp_ne (tgt := 23) dX6_carryOut_5 (by decide) (by omega) (fun h5 => ?_) (fun h5 => ?_)) | ((with_reducible refine mk_mn ?_); refine q_icmp_ne (tgt := 23) dX6_carryOut_5 (by decide) (by omega) (fun h5 => ?_) (fun h5 => ?_)) | ((with_reducible refine mk_nn ?_); refine n_icmp_ne (tgt := 23) dX6_carryOut_5 (by decide) (by omega) (by omega) (fun h5 => ?_) (fun h5 => ?_)) | refine e_icmp_ne (tgt := 23) dX6_carryOut_5 (by decide) (fun h5 => ?_) (fun h5 => ?_)
    · try first | contradiction | omega
      all_goals
        omega
    · try first | contradiction | omega
      all_goals
        refine e_aload_n dX6_carryOut_8 rfl rfl ?_
        refine e_aload_n dX6_carryOut_9 rfl rfl ?_
        refine e_getE dX6_carryOut_10 fl_X6_76 rfl hc ?_
        refine e_aload_n dX6_carryOut_13 rfl rfl ?_
        refine e_getE dX6_carryOut_14 fl_X6_79 rfl ht ?_
        refine ky_V2 (M' := mX6_handTo) dX6_carryOut_17 ml_X6_100 ok_X6_handTo (by decide) rfl im_X6_handTo se_X6_handTo (ct_X6_handTo cm iu iv hK hP (by omega) (by omega)) (Nat.le_of_ble_eq_true rfl) (by decide) (Nat.le_of_ble_eq_true rfl) (fun fi ai hG hK => ?_)
        have hF := FR1_tr hF hG
        refine e_goto (tgt := 43) dX6_carryOut_20 (by decide) ?_
        refine e_ret none rfl (r_void dX6_carryOut_43 rfl) ?_
        exact kq rfl hF hK
  · have e : apW w q = splW w q.2.1 q.2.2 := by unfold apW; rw [if_neg (by omega)]
    rw [e]
    have hm := mdO_in iv hi k3
    refine e_aload_n dX6_carryOut_0 rfl rfl ?_
    refine e_getE dX6_carryOut_1 fl_X6_73 rfl hk ?_
    refine e_iconst (v := nI 1) dX6_carryOut_4 rfl ?_
    first | ((with_reducible refine mk_mo ?_); refine p_icmp_ne (tgt := 23) dX6_carryOut_5 (by decide) (fun h5 => ?_) (fun h5 => ?_)) | ((with_reducible refine mk_ms ?_); refine s_icmp_ne (tgt := 23) dX6_carryOut_5 (by decide) (by omega) (fun h5 => ?_) (fun h5 => ?_)) | ((with_reducible refine mk_mn ?_); refine q_icmp_ne (tgt := 23) dX6_carryOut_5 (by decide) (by omega) (fun h5 => ?_) (fun h5 => ?_)) | ((with_reducible refine mk_nn ?_); refine n_icmp_ne (tgt := 23) dX6_carryOut_5 (by decide) (by omega) (by omega) (fun h5 => ?_) (fun h5 => ?_)) | refine e_icmp_ne (tgt := 23) dX6_carryOut_5 (by decide) (fun h5 => ?_) (fun h5 => ?_)
    · try first | contradiction | omega
      all_goals
        refine e_aload_n dX6_carryOut_23 rfl rfl ?_
        refine e_getE dX6_carryOut_24 fl_X6_73 rfl hk ?_
        refine e_iconst (v := nI 2) dX6_carryOut_27 rfl ?_
        first | ((with_reducible refine mk_mo ?_); refine p_icmp_ne (tgt := 43) dX6_carryOut_28 (by decide) (fun h28 => ?_) (fun h28 => ?_)) | ((with_reducible refine mk_ms ?_); refine s_icmp_ne (tgt := 43) dX6_carryOut_28 (by decide) (by omega) (fun h28 => ?_) (fun h28 => ?_)) | ((with_reducible refine mk_mn ?_); refine q_icmp_ne (tgt := 43) dX6_carryOut_28 (by decide) (by omega) (fun h28 => ?_) (fun h28 => ?_)) | ((with_reducible refine mk_nn ?_); refine n_icmp_ne (tgt := 43) dX6_carryOut_28 (by decide) (by omega) (by omega) (fun h28 => ?_) (fun h28 => ?_)) | refine e_icmp_ne (tgt := 43) dX6_carryOut_28 (by decide) (fun h28 => ?_) (fun h28 => ?_)
        · try first | contradiction | omega
          all_goals
            refine e_ret none rfl (r_void dX6_carryOut_43 rfl) ?_
            exact kq rfl hF hK
        · try first | contradiction | omega
          all_goals
            refine e_aload_n dX6_carryOut_31 rfl rfl ?_
            refine e_aload_n dX6_carryOut_32 rfl rfl ?_
            refine e_getE dX6_carryOut_33 fl_X6_76 rfl hc ?_
            refine e_aload_n dX6_carryOut_36 rfl rfl ?_
            refine e_getE dX6_carryOut_37 fl_X6_79 rfl ht ?_
            refine ky_V2 (M' := mX6_cut) dX6_carryOut_40 ml_X6_104 ok_X6_cut (by decide) rfl im_X6_cut se_X6_cut (ct_X6_cut cm iu iv hK hP ‹_› (by omega) (by omega) (by omega)) (Nat.le_of_ble_eq_true rfl) (by decide) (Nat.le_of_ble_eq_true rfl) (fun fi ai hG hK => ?_)
            have hF := FR1_tr hF hG
            refine e_ret none rfl (r_void dX6_carryOut_43 rfl) ?_
            exact kq rfl hF hK
    · try first | contradiction | omega
      all_goals
        omega
