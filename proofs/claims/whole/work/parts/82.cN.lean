theorem ct_X10_next {fi : FI} {fr : FR} {ai : FI} {ar : FR} {N : Nat} {w lg : Nat → Nat} {E : Nat} (cm : CM fr ar) (iv : Inv w) (hK : K fi ai w lg E) (y : Int32) : CP mX10_next 4 0 0 [.ref (rf 10 0), .int y] fi fr ai ar N (kQ (some (.int (nexR w y))) fi fr ai ar N (fun fi ai => K fi ai w lg E)) := by
  have h1 := iv_n iv
  have h3 := iv_mm iv
  have bd := Bd_iv iv
  have hF : FR1 fi ai fi ai := FR1_rf
  change EV mX10_next 4 0 0 0 [some (.ref (rf 10 0)), some (.int y)] [] fi fr ai ar N (kQ (some (.int (nexR w y))) fi fr ai ar N (fun fi ai => K fi ai w lg E))
  have t2 : (nI 2).toInt = 2 := by decide
  cases hy : inR y 3 with
  | false =>
    have hf := inR_f hy
    have e : nexR w y = -1 := by
      unfold nexR
      have t : ∀ v : Int32, 0 ≤ v.toInt → v.toInt < 3 → ¬ y = v := fun v a b z => by rw [z] at hf; omega
      rw [if_neg (t 0 (by decide) (by decide)), if_neg (t 1 (by decide) (by decide)), if_neg (t 2 (by decide) (by decide))]
    rw [e]
    refine e_iload_n dX10_next_0 rfl rfl ?_
    first | ((with_reducible refine mk_ll ?_); refine m_if_lt (tgt := 9) dX10_next_1 (by decide) (by omega) (by omega) (fun h1 => ?_) (fun h1 => ?_)) | ((with_reducible refine mk_lc ?_); refine l_if_lt (tgt := 9) dX10_next_1 (by decide) (fun h1 => ?_) (fun h1 => ?_)) | ((with_reducible refine mk_n ?_); refine n_if_lt (tgt := 9) dX10_next_1 (by decide) (by omega) (fun h1 => ?_) (fun h1 => ?_)) | refine e_if_lt (tgt := 9) dX10_next_1 (by decide) (fun h1 => ?_) (fun h1 => ?_)
    · try first | contradiction | omega
      all_goals
        refine e_iconst (v := -1) dX10_next_9 rfl ?_
        refine e_ret (some _) rfl (r_int dX10_next_10 rfl) ?_
        exact kq rfl hF hK
    · try first | contradiction | omega
      all_goals
        refine e_iload_n dX10_next_4 rfl rfl ?_
        refine e_iconst (v := nI 2) dX10_next_5 rfl ?_
        first | ((with_reducible refine mk_nn ?_); refine n_icmp_le (tgt := 11) dX10_next_6 (by decide) (by omega) (by omega) (fun h6 => ?_) (fun h6 => ?_)) | refine e_icmp_le (tgt := 11) dX10_next_6 (by decide) (fun h6 => ?_) (fun h6 => ?_)
        · try first | contradiction | omega
          all_goals
            exfalso; simp only [Int32.lt_iff_toInt_lt, Int32.le_iff_toInt_le, z_toInt, t2] at *; omega
        · try first | contradiction | omega
          all_goals
            refine e_iconst (v := -1) dX10_next_9 rfl ?_
            refine e_ret (some _) rfl (r_int dX10_next_10 rfl) ?_
            exact kq rfl hF hK
  | true =>
    obtain ⟨v, hv, hv2, rfl⟩ := inR_ex hy
    cases hq : nxO w with
    | none =>
      have e : nexR w (nI v) = if v = 0 then nI 0 else -1 := by
        unfold nexR
        rw [hq]
        rcases (show v = 0 ∨ v = 1 ∨ v = 2 by omega) with e | e | e <;> subst e <;> rfl
      rw [e]
      refine e_iload_n dX10_next_0 rfl rfl ?_
      first | ((with_reducible refine mk_ll ?_); refine m_if_lt (tgt := 9) dX10_next_1 (by decide) (by omega) (by omega) (fun h1 => ?_) (fun h1 => ?_)) | ((with_reducible refine mk_lc ?_); refine l_if_lt (tgt := 9) dX10_next_1 (by decide) (fun h1 => ?_) (fun h1 => ?_)) | ((with_reducible refine mk_n ?_); refine n_if_lt (tgt := 9) dX10_next_1 (by decide) (by omega) (fun h1 => ?_) (fun h1 => ?_)) | refine e_if_lt (tgt := 9) dX10_next_1 (by decide) (fun h1 => ?_) (fun h1 => ?_)
      · try first | contradiction | omega
        all_goals
          omega
      · try first | contradiction | omega
        all_goals
          refine e_iload_n dX10_next_4 rfl rfl ?_
          refine e_iconst (v := nI 2) dX10_next_5 rfl ?_
          first | ((with_reducible refine mk_nn ?_); refine n_icmp_le (tgt := 11) dX10_next_6 (by decide) (by omega) (by omega) (fun h6 => ?_) (fun h6 => ?_)) | refine e_icmp_le (tgt := 11) dX10_next_6 (by decide) (fun h6 => ?_) (fun h6 => ?_)
          · try first | contradiction | omega
            all_goals
              refine e_aload_n dX10_next_11 rfl rfl ?_
              refine e_getR dX10_next_12 fl_X10_26 rfl (cx_5 cm) ?_
              refine e_aload_n dX10_next_15 rfl rfl ?_
              refine e_getR dX10_next_16 fl_X10_18 rfl (cx_0 cm) ?_
              refine ky_V1 (M' := mX6_take) dX10_next_19 ml_X10_252 ok_X6_take (by decide) rfl im_X6_take se_X6_take (ct_X6_take cm iv hK) (Nat.le_of_ble_eq_true rfl) (by decide) (Nat.le_of_ble_eq_true rfl) (fun fi ai hG hKP => ?_)
              have hF := FR1_tr hF hG
              have hK := hKP.1
              have hP := hKP.2
              refine e_aload_n dX10_next_22 rfl rfl ?_
              refine e_getR dX10_next_23 fl_X10_26 rfl (cx_5 cm) ?_
              refine ky_V0 (M' := mX6_decide) dX10_next_26 ml_X10_392 ok_X6_decide (by decide) rfl im_X6_decide se_X6_decide (ct_X6_decide cm iv iv hK hP) (Nat.le_of_ble_eq_true rfl) (by decide) (Nat.le_of_ble_eq_true rfl) (fun fi ai hG hKP => ?_)
              have hF := FR1_tr hF hG
              obtain ⟨hK, hP, n1, n2, n3⟩ := hKP
              rw [hq] at n1 n2 n3
              change _ = nI 0 at n1
              refine e_iload_n dX10_next_29 rfl rfl ?_
              first | ((with_reducible refine mk_b ?_); refine b_if_ne (tgt := 41) dX10_next_30 (by decide) (fun h30 => ?_) (fun h30 => ?_)) | ((with_reducible refine mk_ll ?_); refine m_if_ne (tgt := 41) dX10_next_30 (by decide) (by omega) (by omega) (fun h30 => ?_) (fun h30 => ?_)) | ((with_reducible refine mk_lc ?_); refine l_if_ne (tgt := 41) dX10_next_30 (by decide) (fun h30 => ?_) (fun h30 => ?_)) | ((with_reducible refine mk_n ?_); refine n_if_ne (tgt := 41) dX10_next_30 (by decide) (by omega) (fun h30 => ?_) (fun h30 => ?_)) | refine e_if_ne (tgt := 41) dX10_next_30 (by decide) (fun h30 => ?_) (fun h30 => ?_)
              · try first | contradiction | omega | (simp only [decide_eq_true_eq, decide_eq_false_iff_not] at h30; omega)
                all_goals
                  refine e_aload_n dX10_next_41 rfl rfl ?_
                  refine e_getR dX10_next_42 fl_X10_26 rfl (cx_5 cm) ?_
                  refine e_getE dX10_next_45 fl_X10_395 rfl n1 ?_
                  first | ((with_reducible refine mk_b ?_); refine b_if_ne (tgt := 53) dX10_next_48 (by decide) (fun h48 => ?_) (fun h48 => ?_)) | ((with_reducible refine mk_ll ?_); refine m_if_ne (tgt := 53) dX10_next_48 (by decide) (by omega) (by omega) (fun h48 => ?_) (fun h48 => ?_)) | ((with_reducible refine mk_lc ?_); refine l_if_ne (tgt := 53) dX10_next_48 (by decide) (fun h48 => ?_) (fun h48 => ?_)) | ((with_reducible refine mk_n ?_); refine n_if_ne (tgt := 53) dX10_next_48 (by decide) (by omega) (fun h48 => ?_) (fun h48 => ?_)) | refine e_if_ne (tgt := 53) dX10_next_48 (by decide) (fun h48 => ?_) (fun h48 => ?_)
                  · try first | contradiction | omega | (simp only [decide_eq_true_eq, decide_eq_false_iff_not] at h48; omega)
                    all_goals
                      omega
                  · try first | contradiction | omega | (simp only [decide_eq_true_eq, decide_eq_false_iff_not] at h48; omega)
                    all_goals
                      refine e_iconst (v := -1) dX10_next_51 rfl ?_
                      refine e_ret (some _) rfl (r_int dX10_next_52 rfl) ?_
                      refine kq ?_ hF hK
                      first | (rw [if_pos (by omega)]; done) | (rw [if_neg (by omega)]; done)
              · try first | contradiction | omega | (simp only [decide_eq_true_eq, decide_eq_false_iff_not] at h30; omega)
                all_goals
                  refine e_aload_n dX10_next_33 rfl rfl ?_
                  refine e_getR dX10_next_34 fl_X10_26 rfl (cx_5 cm) ?_
                  refine e_getE dX10_next_37 fl_X10_395 rfl n1 ?_
                  refine e_ret (some _) rfl (r_int dX10_next_40 rfl) ?_
                  refine kq ?_ hF hK
                  first | (rw [if_pos (by omega)]; done) | (rw [if_neg (by omega)]; done)
          · try first | contradiction | omega
            all_goals
              omega
    | some p =>
      obtain ⟨hi, hk⟩ := nxO_in iv hq
      have hp1 : p.1 = 1 ∨ p.1 = 2 := by omega
      have hp3 : p.2.2 < 2147483648 := by
        rcases hk with ⟨-, k2⟩ | ⟨-, -, k3⟩
        · omega
        · have := mdO_in iv hi k3; have := enF_le iv hi; omega
      have e : nexR w (nI v) = if v = 0 then nI p.1 else if v = 1 then nI (w (10 + p.2.1)) else nI p.2.2 := by
        unfold nexR
        rw [hq]
        rcases (show v = 0 ∨ v = 1 ∨ v = 2 by omega) with e | e | e <;> subst e <;> rfl
      rw [e]
      refine e_iload_n dX10_next_0 rfl rfl ?_
      first | ((with_reducible refine mk_ll ?_); refine m_if_lt (tgt := 9) dX10_next_1 (by decide) (by omega) (by omega) (fun h1 => ?_) (fun h1 => ?_)) | ((with_reducible refine mk_lc ?_); refine l_if_lt (tgt := 9) dX10_next_1 (by decide) (fun h1 => ?_) (fun h1 => ?_)) | ((with_reducible refine mk_n ?_); refine n_if_lt (tgt := 9) dX10_next_1 (by decide) (by omega) (fun h1 => ?_) (fun h1 => ?_)) | refine e_if_lt (tgt := 9) dX10_next_1 (by decide) (fun h1 => ?_) (fun h1 => ?_)
      · try first | contradiction | omega
        all_goals
          omega
      · try first | contradiction | omega
        all_goals
          refine e_iload_n dX10_next_4 rfl rfl ?_
          refine e_iconst (v := nI 2) dX10_next_5 rfl ?_
          first | ((with_reducible refine mk_nn ?_); refine n_icmp_le (tgt := 11) dX10_next_6 (by decide) (by omega) (by omega) (fun h6 => ?_) (fun h6 => ?_)) | refine e_icmp_le (tgt := 11) dX10_next_6 (by decide) (fun h6 => ?_) (fun h6 => ?_)
          · try first | contradiction | omega
            all_goals
              refine e_aload_n dX10_next_11 rfl rfl ?_
              refine e_getR dX10_next_12 fl_X10_26 rfl (cx_5 cm) ?_
              refine e_aload_n dX10_next_15 rfl rfl ?_
              refine e_getR dX10_next_16 fl_X10_18 rfl (cx_0 cm) ?_
              refine ky_V1 (M' := mX6_take) dX10_next_19 ml_X10_252 ok_X6_take (by decide) rfl im_X6_take se_X6_take (ct_X6_take cm iv hK) (Nat.le_of_ble_eq_true rfl) (by decide) (Nat.le_of_ble_eq_true rfl) (fun fi ai hG hKP => ?_)
              have hF := FR1_tr hF hG
              have hK := hKP.1
              have hP := hKP.2
              refine e_aload_n dX10_next_22 rfl rfl ?_
              refine e_getR dX10_next_23 fl_X10_26 rfl (cx_5 cm) ?_
              refine ky_V0 (M' := mX6_decide) dX10_next_26 ml_X10_392 ok_X6_decide (by decide) rfl im_X6_decide se_X6_decide (ct_X6_decide cm iv iv hK hP) (Nat.le_of_ble_eq_true rfl) (by decide) (Nat.le_of_ble_eq_true rfl) (fun fi ai hG hKP => ?_)
              have hF := FR1_tr hF hG
              obtain ⟨hK, hP, n1, n2, n3⟩ := hKP
              rw [hq] at n1 n2 n3
              change _ = nI p.1 at n1
              change _ = nI p.2.1 at n2
              change _ = nI p.2.2 at n3
              refine e_iload_n dX10_next_29 rfl rfl ?_
              first | ((with_reducible refine mk_b ?_); refine b_if_ne (tgt := 41) dX10_next_30 (by decide) (fun h30 => ?_) (fun h30 => ?_)) | ((with_reducible refine mk_ll ?_); refine m_if_ne (tgt := 41) dX10_next_30 (by decide) (by omega) (by omega) (fun h30 => ?_) (fun h30 => ?_)) | ((with_reducible refine mk_lc ?_); refine l_if_ne (tgt := 41) dX10_next_30 (by decide) (fun h30 => ?_) (fun h30 => ?_)) | ((with_reducible refine mk_n ?_); refine n_if_ne (tgt := 41) dX10_next_30 (by decide) (by omega) (fun h30 => ?_) (fun h30 => ?_)) | refine e_if_ne (tgt := 41) dX10_next_30 (by decide) (fun h30 => ?_) (fun h30 => ?_)
              · try first | contradiction | omega | (simp only [decide_eq_true_eq, decide_eq_false_iff_not] at h30; omega)
                all_goals
                  refine e_aload_n dX10_next_41 rfl rfl ?_
                  refine e_getR dX10_next_42 fl_X10_26 rfl (cx_5 cm) ?_
                  refine e_getE dX10_next_45 fl_X10_395 rfl n1 ?_
                  first | ((with_reducible refine mk_b ?_); refine b_if_ne (tgt := 53) dX10_next_48 (by decide) (fun h48 => ?_) (fun h48 => ?_)) | ((with_reducible refine mk_ll ?_); refine m_if_ne (tgt := 53) dX10_next_48 (by decide) (by omega) (by omega) (fun h48 => ?_) (fun h48 => ?_)) | ((with_reducible refine mk_lc ?_); refine l_if_ne (tgt := 53) dX10_next_48 (by decide) (fun h48 => ?_) (fun h48 => ?_)) | ((with_reducible refine mk_n ?_); refine n_if_ne (tgt := 53) dX10_next_48 (by decide) (by omega) (fun h48 => ?_) (fun h48 => ?_)) | refine e_if_ne (tgt := 53) dX10_next_48 (by decide) (fun h48 => ?_) (fun h48 => ?_)
                  · try first | contradiction | omega | (simp only [decide_eq_true_eq, decide_eq_false_iff_not] at h48; omega)
                    all_goals
                      refine e_iload_n dX10_next_53 rfl rfl ?_
                      refine e_iconst (v := nI 1) dX10_next_54 rfl ?_
                      first | ((with_reducible refine mk_mo ?_); refine p_icmp_ne (tgt := 76) dX10_next_55 (by decide) (fun h55 => ?_) (fun h55 => ?_)) | ((with_reducible refine mk_ms ?_); refine s_icmp_ne (tgt := 76) dX10_next_55 (by decide) (by omega) (fun h55 => ?_) (fun h55 => ?_)) | ((with_reducible refine mk_mn ?_); refine q_icmp_ne (tgt := 76) dX10_next_55 (by decide) (by omega) (fun h55 => ?_) (fun h55 => ?_)) | ((with_reducible refine mk_nn ?_); refine n_icmp_ne (tgt := 76) dX10_next_55 (by decide) (by omega) (by omega) (fun h55 => ?_) (fun h55 => ?_)) | refine e_icmp_ne (tgt := 76) dX10_next_55 (by decide) (fun h55 => ?_) (fun h55 => ?_)
                      · try first | contradiction | omega
                        all_goals
                          refine e_aload_n dX10_next_76 rfl rfl ?_
                          refine e_getR dX10_next_77 fl_X10_26 rfl (cx_5 cm) ?_
                          refine e_getE dX10_next_80 fl_X10_402 rfl n3 ?_
                          refine e_ret (some _) rfl (r_int dX10_next_83 rfl) ?_
                          refine kq ?_ hF hK
                          first | (rw [if_pos (by omega)]; done) | (rw [if_neg (by omega), if_pos (by omega)]; done) | (rw [if_neg (by omega), if_neg (by omega)]; done)
                      · try first | contradiction | omega
                        all_goals
                          refine e_aload_n dX10_next_58 rfl rfl ?_
                          refine e_getR dX10_next_59 fl_X10_26 rfl (cx_5 cm) ?_
                          refine e_getR dX10_next_62 fl_X10_398 rfl (cp_lows cm) ?_
                          refine e_aload_n dX10_next_65 rfl rfl ?_
                          refine e_getR dX10_next_66 fl_X10_26 rfl (cx_5 cm) ?_
                          refine e_getE dX10_next_69 fl_X10_399 rfl n2 ?_
                          refine e_iadE _ dX10_next_72 ⟨by decide, by decide⟩ rfl rfl (by simp only [lenK]; omega) (by first | exact pl_lo hP (by omega) | exact pl_hi hP (by omega)) ?_
                          refine e_goto (tgt := 83) dX10_next_73 (by decide) ?_
                          refine e_ret (some _) rfl (r_int dX10_next_83 rfl) ?_
                          refine kq ?_ hF hK
                          first | (rw [if_pos (by omega)]; done) | (rw [if_neg (by omega), if_pos (by omega)]; done) | (rw [if_neg (by omega), if_neg (by omega)]; done)
                  · try first | contradiction | omega | (simp only [decide_eq_true_eq, decide_eq_false_iff_not] at h48; omega)
                    all_goals
                      omega
              · try first | contradiction | omega | (simp only [decide_eq_true_eq, decide_eq_false_iff_not] at h30; omega)
                all_goals
                  refine e_aload_n dX10_next_33 rfl rfl ?_
                  refine e_getR dX10_next_34 fl_X10_26 rfl (cx_5 cm) ?_
                  refine e_getE dX10_next_37 fl_X10_395 rfl n1 ?_
                  refine e_ret (some _) rfl (r_int dX10_next_40 rfl) ?_
                  refine kq ?_ hF hK
                  first | (rw [if_pos (by omega)]; done) | (rw [if_neg (by omega), if_pos (by omega)]; done) | (rw [if_neg (by omega), if_neg (by omega)]; done)
          · try first | contradiction | omega
            all_goals
              omega
theorem ct_X10_rounds {fi : FI} {fr : FR} {ai : FI} {ar : FR} {N : Nat} {w lg : Nat → Nat} {E : Nat} (cm : CM fr ar) (iv : Inv w) (hK : K fi ai w lg E) (i2 : Inv2 w) (h01 : w 0 + 42 < 1999) (x : Int32) : CP mX10_rounds 4 0 0 [.ref (rf 10 0), .int x] fi fr ai ar N (kQ (some (.int (rouR w x))) fi fr ai ar N (fun fi ai => K fi ai w lg E)) := by
  have h1 := iv_n iv
  have h3 := iv_mm iv
  have bd := Bd_iv iv
  have hF : FR1 fi ai fi ai := FR1_rf
  change EV mX10_rounds 4 0 0 0 [some (.ref (rf 10 0)), some (.int x), none] [] fi fr ai ar N (kQ (some (.int (rouR w x))) fi fr ai ar N (fun fi ai => K fi ai w lg E))
  have t1000000 : (nI 1000000).toInt = 1000000 := by decide
  cases hx : inR x 1000001 with
  | false =>
    have e : rouR w x = -1 := by unfold rouR; rw [hx]; rfl
    have hf := inR_f hx
    rw [e]
    refine e_iload_n dX10_rounds_0 rfl rfl ?_
    first | ((with_reducible refine mk_ll ?_); refine m_if_lt (tgt := 11) dX10_rounds_1 (by decide) (by omega) (by omega) (fun h1 => ?_) (fun h1 => ?_)) | ((with_reducible refine mk_lc ?_); refine l_if_lt (tgt := 11) dX10_rounds_1 (by decide) (fun h1 => ?_) (fun h1 => ?_)) | ((with_reducible refine mk_n ?_); refine n_if_lt (tgt := 11) dX10_rounds_1 (by decide) (by omega) (fun h1 => ?_) (fun h1 => ?_)) | refine e_if_lt (tgt := 11) dX10_rounds_1 (by decide) (fun h1 => ?_) (fun h1 => ?_)
    · try first | contradiction | omega
      all_goals
        refine e_iconst (v := -1) dX10_rounds_11 rfl ?_
        refine e_ret (some _) rfl (r_int dX10_rounds_12 rfl) ?_
        exact kq rfl hF hK
    · try first | contradiction | omega
      all_goals
        refine e_iload_n dX10_rounds_4 rfl rfl ?_
        refine e_ldcw dX10_rounds_5 co_X10_385 ?_
        first | ((with_reducible refine mk_nn ?_); refine n_icmp_le (tgt := 13) dX10_rounds_8 (by decide) (by omega) (by omega) (fun h8 => ?_) (fun h8 => ?_)) | refine e_icmp_le (tgt := 13) dX10_rounds_8 (by decide) (fun h8 => ?_) (fun h8 => ?_)
        · try first | contradiction | omega
          all_goals
            exfalso; simp only [Int32.lt_iff_toInt_lt, Int32.le_iff_toInt_le, z_toInt, t1000000] at *; omega
        · try first | contradiction | omega
          all_goals
            refine e_iconst (v := -1) dX10_rounds_11 rfl ?_
            refine e_ret (some _) rfl (r_int dX10_rounds_12 rfl) ?_
            exact kq rfl hF hK
  | true =>
    obtain ⟨b, hb, hb2, rfl⟩ := inR_ex hx
    have e : rouR w (nI b) = oI (rnF b 40 w) := by unfold rouR; rw [hx, if_pos rfl, nI_clamp hb2]
    rw [e]
    have key : ∀ n r v fi2 ai2, r + n = 40 → Inv v → Inv2 v → v 0 + n + 1 < 1999 → (rnF b n v).map (· + r) = rnF b 40 w → FR1 fi ai fi2 ai2 → K fi2 ai2 w lg E → PL fi2 ai2 v → EV mX10_rounds 4 0 0 26 [some (.ref (rf 10 0)), some (.int (nI b)), some (.int (nI r))] [] fi2 fr ai2 ar N (kQ (some (.int (oI (rnF b 40 w)))) fi fr ai ar N (fun fi ai => K fi ai w lg E)) := by
      intro n
      induction n with
      | zero =>
        intro r v fi2 ai2 hr ivv i2v hv0 hH hF hK hP
        have hH0 : rnF b 0 v = if evQ (evF v) b = true ∧ (nxO v).isSome = true then none else some 0 := rfl
        cases hq : nxO v with
        | none =>
          have hr2 : rnF b 40 w = some r := by rw [← hH, hH0, hq, if_neg (fun z => absurd z.2 (by decide))]; show some (0 + r) = some r; rw [Nat.zero_add]
          rw [hr2]
          refine e_iload_n dX10_rounds_26 rfl rfl ?_
          refine e_bipush (v := nI 40) dX10_rounds_27 rfl ?_
          first | ((with_reducible refine mk_nn ?_); refine n_icmp_gt (tgt := 76) dX10_rounds_29 (by decide) (by omega) (by omega) (fun h29 => ?_) (fun h29 => ?_)) | refine e_icmp_gt (tgt := 76) dX10_rounds_29 (by decide) (fun h29 => ?_) (fun h29 => ?_)
          · try first | contradiction | omega
            all_goals
              omega
          · try first | contradiction | omega
            all_goals
              refine e_aload_n dX10_rounds_32 rfl rfl ?_
              refine e_getR dX10_rounds_33 fl_X10_26 rfl (cx_5 cm) ?_
              refine ky_V0 (M' := mX6_decide) dX10_rounds_36 ml_X10_392 ok_X6_decide (by decide) rfl im_X6_decide se_X6_decide (ct_X6_decide cm iv ivv hK hP) (Nat.le_of_ble_eq_true rfl) (by decide) (Nat.le_of_ble_eq_true rfl) (fun fi ai hG hKP => ?_)
              have hF := FR1_tr hF hG
              obtain ⟨hK, hP, n1, n2, n3⟩ := hKP
              rw [hq] at n1 n2 n3
              change _ = nI 0 at n1
              refine e_aload_n dX10_rounds_39 rfl rfl ?_
              refine e_getR dX10_rounds_40 fl_X10_26 rfl (cx_5 cm) ?_
              refine e_getE dX10_rounds_43 fl_X10_395 rfl n1 ?_
              first | ((with_reducible refine mk_b ?_); refine b_if_eq (tgt := 61) dX10_rounds_46 (by decide) (fun h46 => ?_) (fun h46 => ?_)) | ((with_reducible refine mk_ll ?_); refine m_if_eq (tgt := 61) dX10_rounds_46 (by decide) (by omega) (by omega) (fun h46 => ?_) (fun h46 => ?_)) | ((with_reducible refine mk_lc ?_); refine l_if_eq (tgt := 61) dX10_rounds_46 (by decide) (fun h46 => ?_) (fun h46 => ?_)) | ((with_reducible refine mk_n ?_); refine n_if_eq (tgt := 61) dX10_rounds_46 (by decide) (by omega) (fun h46 => ?_) (fun h46 => ?_)) | refine e_if_eq (tgt := 61) dX10_rounds_46 (by decide) (fun h46 => ?_) (fun h46 => ?_)
              · try first | contradiction | omega | (simp only [decide_eq_true_eq, decide_eq_false_iff_not] at h46; omega)
                all_goals
                  refine e_iload_n dX10_rounds_61 rfl rfl ?_
                  refine e_ret (some _) rfl (r_int dX10_rounds_62 rfl) ?_
                  exact kq rfl hF hK
              · try first | contradiction | omega | (simp only [decide_eq_true_eq, decide_eq_false_iff_not] at h46; omega)
                all_goals
                  omega
        | some p =>
          obtain ⟨hi, hk⟩ := nxO_in ivv hq
          have hp1 : p.1 = 1 ∨ p.1 = 2 := by omega
          obtain ⟨e0, hev⟩ : ∃ e0, evF v = some e0 := by
            unfold nxO at hq
            cases h : evF v with
            | some e0 => exact ⟨e0, rfl⟩
            | none => rw [h] at hq; cases hq
          have hle : e0 < 2147483648 := by
            have h := hev
            unfold evF at h
            split at h
            · rename_i a c _ _
              have := ldF_le2 ivv a
              have := Option.some.inj h
              omega
            · cases h
          have hQ : evQ (evF v) b = decide (b < e0) := by rw [hev]; rfl
          by_cases hbe : b < e0
          · have hr2 : rnF b 40 w = none := by rw [← hH, hH0, hQ, hq, if_pos ⟨decide_eq_true hbe, rfl⟩]; rfl
            rw [hr2]
            refine e_iload_n dX10_rounds_26 rfl rfl ?_
            refine e_bipush (v := nI 40) dX10_rounds_27 rfl ?_
            first | ((with_reducible refine mk_nn ?_); refine n_icmp_gt (tgt := 76) dX10_rounds_29 (by decide) (by omega) (by omega) (fun h29 => ?_) (fun h29 => ?_)) | refine e_icmp_gt (tgt := 76) dX10_rounds_29 (by decide) (fun h29 => ?_) (fun h29 => ?_)
            · try first | contradiction | omega
              all_goals
                refine e_iconst (v := -1) dX10_rounds_76 rfl ?_
                refine e_ret (some _) rfl (r_int dX10_rounds_77 rfl) ?_
                first | (exact kq rfl hF hK) | omega
            · try first | contradiction | omega
              all_goals
                refine e_aload_n dX10_rounds_32 rfl rfl ?_
                refine e_getR dX10_rounds_33 fl_X10_26 rfl (cx_5 cm) ?_
                refine ky_V0 (M' := mX6_decide) dX10_rounds_36 ml_X10_392 ok_X6_decide (by decide) rfl im_X6_decide se_X6_decide (ct_X6_decide cm iv ivv hK hP) (Nat.le_of_ble_eq_true rfl) (by decide) (Nat.le_of_ble_eq_true rfl) (fun fi ai hG hKP => ?_)
                have hF := FR1_tr hF hG
                obtain ⟨hK, hP, n1, n2, n3⟩ := hKP
                rw [hq] at n1 n2 n3
                change _ = nI p.1 at n1
                change _ = nI p.2.1 at n2
                change _ = nI p.2.2 at n3
                refine e_aload_n dX10_rounds_39 rfl rfl ?_
                refine e_getR dX10_rounds_40 fl_X10_26 rfl (cx_5 cm) ?_
                refine e_getE dX10_rounds_43 fl_X10_395 rfl n1 ?_
                first | ((with_reducible refine mk_b ?_); refine b_if_eq (tgt := 61) dX10_rounds_46 (by decide) (fun h46 => ?_) (fun h46 => ?_)) | ((with_reducible refine mk_ll ?_); refine m_if_eq (tgt := 61) dX10_rounds_46 (by decide) (by omega) (by omega) (fun h46 => ?_) (fun h46 => ?_)) | ((with_reducible refine mk_lc ?_); refine l_if_eq (tgt := 61) dX10_rounds_46 (by decide) (fun h46 => ?_) (fun h46 => ?_)) | ((with_reducible refine mk_n ?_); refine n_if_eq (tgt := 61) dX10_rounds_46 (by decide) (by omega) (fun h46 => ?_) (fun h46 => ?_)) | refine e_if_eq (tgt := 61) dX10_rounds_46 (by decide) (fun h46 => ?_) (fun h46 => ?_)
                · try first | contradiction | omega | (simp only [decide_eq_true_eq, decide_eq_false_iff_not] at h46; omega)
                  all_goals
                    omega
                · try first | contradiction | omega | (simp only [decide_eq_true_eq, decide_eq_false_iff_not] at h46; omega)
                  all_goals
                    refine e_aload_n dX10_rounds_49 rfl rfl ?_
                    refine e_getR dX10_rounds_50 fl_X10_26 rfl (cx_5 cm) ?_
                    refine e_iconst (v := -1) dX10_rounds_53 rfl ?_
                    refine x_V1 (M' := mX6_gap) dX10_rounds_54 ml_X10_389 ok_X6_gap (by decide) rfl im_X6_gap se_X6_gap (ct_gapN cm ivv hP) (Nat.le_of_ble_eq_true rfl) (by decide) (Nat.le_of_ble_eq_true rfl) ?_
                    rw [hev, oI_s]
                    refine e_iload_n dX10_rounds_57 rfl rfl ?_
                    first | ((with_reducible refine mk_nn ?_); refine n_icmp_gt (tgt := 63) dX10_rounds_58 (by decide) (by omega) (by omega) (fun h58 => ?_) (fun h58 => ?_)) | refine e_icmp_gt (tgt := 63) dX10_rounds_58 (by decide) (fun h58 => ?_) (fun h58 => ?_)
                    · try first | contradiction | omega
                      all_goals
                        refine e_aload_n dX10_rounds_63 rfl rfl ?_
                        refine e_getR dX10_rounds_64 fl_X10_26 rfl (cx_5 cm) ?_
                        refine ky_V0 (M' := mX6_carryOut) dX10_rounds_67 ml_X10_405 ok_X6_carryOut (by decide) rfl im_X6_carryOut se_X6_carryOut (ct_X6_carryOut cm iv ivv hK hP i2v hq n1 n2 n3) (Nat.le_of_ble_eq_true rfl) (by decide) (Nat.le_of_ble_eq_true rfl) (fun fi ai hG hKP => ?_)
                        have hF := FR1_tr hF hG
                        obtain ⟨hK, hP⟩ := hKP
                        first | refine n_inc dX10_rounds_70 rfl (Nat.le_of_ble_eq_true rfl) rfl ?_ | refine e_iinc dX10_rounds_70 rfl rfl (Nat.le_of_ble_eq_true rfl) rfl ?_
                        refine e_goto (tgt := 26) dX10_rounds_73 (by decide) ?_
                        refine e_iload_n dX10_rounds_26 rfl rfl ?_
                        refine e_bipush (v := nI 40) dX10_rounds_27 rfl ?_
                        refine n_icmp_gt (tgt := 76) dX10_rounds_29 (by decide) (by omega) (by omega) (fun hz => ?_) (fun hz => by omega)
                        refine e_iconst (v := -1) dX10_rounds_76 rfl ?_
                        refine e_ret (some _) rfl (r_int dX10_rounds_77 rfl) ?_
                        exact kq rfl hF hK
                    · try first | contradiction | omega
                      all_goals
                        omega
          · have hr2 : rnF b 40 w = some r := by rw [← hH, hH0, hQ, if_neg (fun z => hbe (of_decide_eq_true z.1))]; show some (0 + r) = some r; rw [Nat.zero_add]
            rw [hr2]
            refine e_iload_n dX10_rounds_26 rfl rfl ?_
            refine e_bipush (v := nI 40) dX10_rounds_27 rfl ?_
            first | ((with_reducible refine mk_nn ?_); refine n_icmp_gt (tgt := 76) dX10_rounds_29 (by decide) (by omega) (by omega) (fun h29 => ?_) (fun h29 => ?_)) | refine e_icmp_gt (tgt := 76) dX10_rounds_29 (by decide) (fun h29 => ?_) (fun h29 => ?_)
            · try first | contradiction | omega
              all_goals
                omega
            · try first | contradiction | omega
              all_goals
                refine e_aload_n dX10_rounds_32 rfl rfl ?_
                refine e_getR dX10_rounds_33 fl_X10_26 rfl (cx_5 cm) ?_
                refine ky_V0 (M' := mX6_decide) dX10_rounds_36 ml_X10_392 ok_X6_decide (by decide) rfl im_X6_decide se_X6_decide (ct_X6_decide cm iv ivv hK hP) (Nat.le_of_ble_eq_true rfl) (by decide) (Nat.le_of_ble_eq_true rfl) (fun fi ai hG hKP => ?_)
                have hF := FR1_tr hF hG
                obtain ⟨hK, hP, n1, n2, n3⟩ := hKP
                rw [hq] at n1 n2 n3
                change _ = nI p.1 at n1
                change _ = nI p.2.1 at n2
                change _ = nI p.2.2 at n3
                refine e_aload_n dX10_rounds_39 rfl rfl ?_
                refine e_getR dX10_rounds_40 fl_X10_26 rfl (cx_5 cm) ?_
                refine e_getE dX10_rounds_43 fl_X10_395 rfl n1 ?_
                first | ((with_reducible refine mk_b ?_); refine b_if_eq (tgt := 61) dX10_rounds_46 (by decide) (fun h46 => ?_) (fun h46 => ?_)) | ((with_reducible refine mk_ll ?_); refine m_if_eq (tgt := 61) dX10_rounds_46 (by decide) (by omega) (by omega) (fun h46 => ?_) (fun h46 => ?_)) | ((with_reducible refine mk_lc ?_); refine l_if_eq (tgt := 61) dX10_rounds_46 (by decide) (fun h46 => ?_) (fun h46 => ?_)) | ((with_reducible refine mk_n ?_); refine n_if_eq (tgt := 61) dX10_rounds_46 (by decide) (by omega) (fun h46 => ?_) (fun h46 => ?_)) | refine e_if_eq (tgt := 61) dX10_rounds_46 (by decide) (fun h46 => ?_) (fun h46 => ?_)
                · try first | contradiction | omega | (simp only [decide_eq_true_eq, decide_eq_false_iff_not] at h46; omega)
                  all_goals
                    refine e_iload_n dX10_rounds_61 rfl rfl ?_
                    refine e_ret (some _) rfl (r_int dX10_rounds_62 rfl) ?_
                    exact kq rfl hF hK
                · try first | contradiction | omega | (simp only [decide_eq_true_eq, decide_eq_false_iff_not] at h46; omega)
                  all_goals
                    refine e_aload_n dX10_rounds_49 rfl rfl ?_
                    refine e_getR dX10_rounds_50 fl_X10_26 rfl (cx_5 cm) ?_
                    refine e_iconst (v := -1) dX10_rounds_53 rfl ?_
                    refine x_V1 (M' := mX6_gap) dX10_rounds_54 ml_X10_389 ok_X6_gap (by decide) rfl im_X6_gap se_X6_gap (ct_gapN cm ivv hP) (Nat.le_of_ble_eq_true rfl) (by decide) (Nat.le_of_ble_eq_true rfl) ?_
                    rw [hev, oI_s]
                    refine e_iload_n dX10_rounds_57 rfl rfl ?_
                    first | ((with_reducible refine mk_nn ?_); refine n_icmp_gt (tgt := 63) dX10_rounds_58 (by decide) (by omega) (by omega) (fun h58 => ?_) (fun h58 => ?_)) | refine e_icmp_gt (tgt := 63) dX10_rounds_58 (by decide) (fun h58 => ?_) (fun h58 => ?_)
                    · try first | contradiction | omega
                      all_goals
                        omega
                    · try first | contradiction | omega
                      all_goals
                        refine e_iload_n dX10_rounds_61 rfl rfl ?_
                        refine e_ret (some _) rfl (r_int dX10_rounds_62 rfl) ?_
                        exact kq rfl hF hK
      | succ n ih =>
        intro r v fi2 ai2 hr ivv i2v hv0 hH hF hK hP
        have hH0 : rnF b (n + 1) v = if evQ (evF v) b = true then (match nxO v with
          | none => some 0
          | some q => (rnF b n (apW v q)).map (· + 1)) else some 0 := rfl
        cases hq : nxO v with
        | none =>
          have hr2 : rnF b 40 w = some r := by
            rw [← hH, hH0, hq]
            cases evQ (evF v) b
            · show some (0 + r) = some r; rw [Nat.zero_add]
            · show some (0 + r) = some r; rw [Nat.zero_add]
          rw [hr2]
          refine e_iload_n dX10_rounds_26 rfl rfl ?_
          refine e_bipush (v := nI 40) dX10_rounds_27 rfl ?_
          first | ((with_reducible refine mk_nn ?_); refine n_icmp_gt (tgt := 76) dX10_rounds_29 (by decide) (by omega) (by omega) (fun h29 => ?_) (fun h29 => ?_)) | refine e_icmp_gt (tgt := 76) dX10_rounds_29 (by decide) (fun h29 => ?_) (fun h29 => ?_)
          · try first | contradiction | omega
            all_goals
              omega
          · try first | contradiction | omega
            all_goals
              refine e_aload_n dX10_rounds_32 rfl rfl ?_
              refine e_getR dX10_rounds_33 fl_X10_26 rfl (cx_5 cm) ?_
              refine ky_V0 (M' := mX6_decide) dX10_rounds_36 ml_X10_392 ok_X6_decide (by decide) rfl im_X6_decide se_X6_decide (ct_X6_decide cm iv ivv hK hP) (Nat.le_of_ble_eq_true rfl) (by decide) (Nat.le_of_ble_eq_true rfl) (fun fi ai hG hKP => ?_)
              have hF := FR1_tr hF hG
              obtain ⟨hK, hP, n1, n2, n3⟩ := hKP
              rw [hq] at n1 n2 n3
              change _ = nI 0 at n1
              refine e_aload_n dX10_rounds_39 rfl rfl ?_
              refine e_getR dX10_rounds_40 fl_X10_26 rfl (cx_5 cm) ?_
              refine e_getE dX10_rounds_43 fl_X10_395 rfl n1 ?_
              first | ((with_reducible refine mk_b ?_); refine b_if_eq (tgt := 61) dX10_rounds_46 (by decide) (fun h46 => ?_) (fun h46 => ?_)) | ((with_reducible refine mk_ll ?_); refine m_if_eq (tgt := 61) dX10_rounds_46 (by decide) (by omega) (by omega) (fun h46 => ?_) (fun h46 => ?_)) | ((with_reducible refine mk_lc ?_); refine l_if_eq (tgt := 61) dX10_rounds_46 (by decide) (fun h46 => ?_) (fun h46 => ?_)) | ((with_reducible refine mk_n ?_); refine n_if_eq (tgt := 61) dX10_rounds_46 (by decide) (by omega) (fun h46 => ?_) (fun h46 => ?_)) | refine e_if_eq (tgt := 61) dX10_rounds_46 (by decide) (fun h46 => ?_) (fun h46 => ?_)
              · try first | contradiction | omega | (simp only [decide_eq_true_eq, decide_eq_false_iff_not] at h46; omega)
                all_goals
                  refine e_iload_n dX10_rounds_61 rfl rfl ?_
                  refine e_ret (some _) rfl (r_int dX10_rounds_62 rfl) ?_
                  exact kq rfl hF hK
              · try first | contradiction | omega | (simp only [decide_eq_true_eq, decide_eq_false_iff_not] at h46; omega)
                all_goals
                  omega
        | some p =>
          obtain ⟨hi, hk⟩ := nxO_in ivv hq
          have hp1 : p.1 = 1 ∨ p.1 = 2 := by omega
          obtain ⟨e0, hev⟩ : ∃ e0, evF v = some e0 := by
            unfold nxO at hq
            cases h : evF v with
            | some e0 => exact ⟨e0, rfl⟩
            | none => rw [h] at hq; cases hq
          have hle : e0 < 2147483648 := by
            have h := hev
            unfold evF at h
            split at h
            · rename_i a c _ _
              have := ldF_le2 ivv a
              have := Option.some.inj h
              omega
            · cases h
          have hQ : evQ (evF v) b = decide (b < e0) := by rw [hev]; rfl
          by_cases hbe : b < e0
          · obtain ⟨iva, ha0, -⟩ := ap_Inv ivv hq (by omega)
            have i2a := ap_I2 ivv i2v hq
            have hr2 : (rnF b n (apW v p)).map (· + (r + 1)) = rnF b 40 w := by
              rw [← hH, hH0, hQ, if_pos (decide_eq_true hbe), hq]
              show _ = ((rnF b n (apW v p)).map (· + 1)).map (· + r)
              rw [Option.map_map]
              congr 1
              funext z
              show z + (r + 1) = z + 1 + r
              omega
            refine e_iload_n dX10_rounds_26 rfl rfl ?_
            refine e_bipush (v := nI 40) dX10_rounds_27 rfl ?_
            first | ((with_reducible refine mk_nn ?_); refine n_icmp_gt (tgt := 76) dX10_rounds_29 (by decide) (by omega) (by omega) (fun h29 => ?_) (fun h29 => ?_)) | refine e_icmp_gt (tgt := 76) dX10_rounds_29 (by decide) (fun h29 => ?_) (fun h29 => ?_)
            · try first | contradiction | omega
              all_goals
                omega
            · try first | contradiction | omega
              all_goals
                refine e_aload_n dX10_rounds_32 rfl rfl ?_
                refine e_getR dX10_rounds_33 fl_X10_26 rfl (cx_5 cm) ?_
                refine ky_V0 (M' := mX6_decide) dX10_rounds_36 ml_X10_392 ok_X6_decide (by decide) rfl im_X6_decide se_X6_decide (ct_X6_decide cm iv ivv hK hP) (Nat.le_of_ble_eq_true rfl) (by decide) (Nat.le_of_ble_eq_true rfl) (fun fi ai hG hKP => ?_)
                have hF := FR1_tr hF hG
                obtain ⟨hK, hP, n1, n2, n3⟩ := hKP
                rw [hq] at n1 n2 n3
                change _ = nI p.1 at n1
                change _ = nI p.2.1 at n2
                change _ = nI p.2.2 at n3
                refine e_aload_n dX10_rounds_39 rfl rfl ?_
                refine e_getR dX10_rounds_40 fl_X10_26 rfl (cx_5 cm) ?_
                refine e_getE dX10_rounds_43 fl_X10_395 rfl n1 ?_
                first | ((with_reducible refine mk_b ?_); refine b_if_eq (tgt := 61) dX10_rounds_46 (by decide) (fun h46 => ?_) (fun h46 => ?_)) | ((with_reducible refine mk_ll ?_); refine m_if_eq (tgt := 61) dX10_rounds_46 (by decide) (by omega) (by omega) (fun h46 => ?_) (fun h46 => ?_)) | ((with_reducible refine mk_lc ?_); refine l_if_eq (tgt := 61) dX10_rounds_46 (by decide) (fun h46 => ?_) (fun h46 => ?_)) | ((with_reducible refine mk_n ?_); refine n_if_eq (tgt := 61) dX10_rounds_46 (by decide) (by omega) (fun h46 => ?_) (fun h46 => ?_)) | refine e_if_eq (tgt := 61) dX10_rounds_46 (by decide) (fun h46 => ?_) (fun h46 => ?_)
                · try first | contradiction | omega | (simp only [decide_eq_true_eq, decide_eq_false_iff_not] at h46; omega)
                  all_goals
                    omega
                · try first | contradiction | omega | (simp only [decide_eq_true_eq, decide_eq_false_iff_not] at h46; omega)
                  all_goals
                    refine e_aload_n dX10_rounds_49 rfl rfl ?_
                    refine e_getR dX10_rounds_50 fl_X10_26 rfl (cx_5 cm) ?_
                    refine e_iconst (v := -1) dX10_rounds_53 rfl ?_
                    refine x_V1 (M' := mX6_gap) dX10_rounds_54 ml_X10_389 ok_X6_gap (by decide) rfl im_X6_gap se_X6_gap (ct_gapN cm ivv hP) (Nat.le_of_ble_eq_true rfl) (by decide) (Nat.le_of_ble_eq_true rfl) ?_
                    rw [hev, oI_s]
                    refine e_iload_n dX10_rounds_57 rfl rfl ?_
                    first | ((with_reducible refine mk_nn ?_); refine n_icmp_gt (tgt := 63) dX10_rounds_58 (by decide) (by omega) (by omega) (fun h58 => ?_) (fun h58 => ?_)) | refine e_icmp_gt (tgt := 63) dX10_rounds_58 (by decide) (fun h58 => ?_) (fun h58 => ?_)
                    · try first | contradiction | omega
                      all_goals
                        refine e_aload_n dX10_rounds_63 rfl rfl ?_
                        refine e_getR dX10_rounds_64 fl_X10_26 rfl (cx_5 cm) ?_
                        refine ky_V0 (M' := mX6_carryOut) dX10_rounds_67 ml_X10_405 ok_X6_carryOut (by decide) rfl im_X6_carryOut se_X6_carryOut (ct_X6_carryOut cm iv ivv hK hP i2v hq n1 n2 n3) (Nat.le_of_ble_eq_true rfl) (by decide) (Nat.le_of_ble_eq_true rfl) (fun fi ai hG hKP => ?_)
                        have hF := FR1_tr hF hG
                        obtain ⟨hK, hP⟩ := hKP
                        first | refine n_inc dX10_rounds_70 rfl (Nat.le_of_ble_eq_true rfl) rfl ?_ | refine e_iinc dX10_rounds_70 rfl rfl (Nat.le_of_ble_eq_true rfl) rfl ?_
                        refine e_goto (tgt := 26) dX10_rounds_73 (by decide) ?_
                        exact ih (r + 1) (apW v p) _ _ (by omega) iva i2a (by omega) hr2 hF hK hP
                    · try first | contradiction | omega
                      all_goals
                        omega
          · have hr2 : rnF b 40 w = some r := by rw [← hH, hH0, hQ, if_neg (fun z => hbe (of_decide_eq_true z))]; show some (0 + r) = some r; rw [Nat.zero_add]
            rw [hr2]
            refine e_iload_n dX10_rounds_26 rfl rfl ?_
            refine e_bipush (v := nI 40) dX10_rounds_27 rfl ?_
            first | ((with_reducible refine mk_nn ?_); refine n_icmp_gt (tgt := 76) dX10_rounds_29 (by decide) (by omega) (by omega) (fun h29 => ?_) (fun h29 => ?_)) | refine e_icmp_gt (tgt := 76) dX10_rounds_29 (by decide) (fun h29 => ?_) (fun h29 => ?_)
            · try first | contradiction | omega
              all_goals
                omega
            · try first | contradiction | omega
              all_goals
                refine e_aload_n dX10_rounds_32 rfl rfl ?_
                refine e_getR dX10_rounds_33 fl_X10_26 rfl (cx_5 cm) ?_
                refine ky_V0 (M' := mX6_decide) dX10_rounds_36 ml_X10_392 ok_X6_decide (by decide) rfl im_X6_decide se_X6_decide (ct_X6_decide cm iv ivv hK hP) (Nat.le_of_ble_eq_true rfl) (by decide) (Nat.le_of_ble_eq_true rfl) (fun fi ai hG hKP => ?_)
                have hF := FR1_tr hF hG
                obtain ⟨hK, hP, n1, n2, n3⟩ := hKP
                rw [hq] at n1 n2 n3
                change _ = nI p.1 at n1
                change _ = nI p.2.1 at n2
                change _ = nI p.2.2 at n3
                refine e_aload_n dX10_rounds_39 rfl rfl ?_
                refine e_getR dX10_rounds_40 fl_X10_26 rfl (cx_5 cm) ?_
                refine e_getE dX10_rounds_43 fl_X10_395 rfl n1 ?_
                first | ((with_reducible refine mk_b ?_); refine b_if_eq (tgt := 61) dX10_rounds_46 (by decide) (fun h46 => ?_) (fun h46 => ?_)) | ((with_reducible refine mk_ll ?_); refine m_if_eq (tgt := 61) dX10_rounds_46 (by decide) (by omega) (by omega) (fun h46 => ?_) (fun h46 => ?_)) | ((with_reducible refine mk_lc ?_); refine l_if_eq (tgt := 61) dX10_rounds_46 (by decide) (fun h46 => ?_) (fun h46 => ?_)) | ((with_reducible refine mk_n ?_); refine n_if_eq (tgt := 61) dX10_rounds_46 (by decide) (by omega) (fun h46 => ?_) (fun h46 => ?_)) | refine e_if_eq (tgt := 61) dX10_rounds_46 (by decide) (fun h46 => ?_) (fun h46 => ?_)
                · try first | contradiction | omega | (simp only [decide_eq_true_eq, decide_eq_false_iff_not] at h46; omega)
                  all_goals
                    refine e_iload_n dX10_rounds_61 rfl rfl ?_
                    refine e_ret (some _) rfl (r_int dX10_rounds_62 rfl) ?_
                    exact kq rfl hF hK
                · try first | contradiction | omega | (simp only [decide_eq_true_eq, decide_eq_false_iff_not] at h46; omega)
                  all_goals
                    refine e_aload_n dX10_rounds_49 rfl rfl ?_
                    refine e_getR dX10_rounds_50 fl_X10_26 rfl (cx_5 cm) ?_
                    refine e_iconst (v := -1) dX10_rounds_53 rfl ?_
                    refine x_V1 (M' := mX6_gap) dX10_rounds_54 ml_X10_389 ok_X6_gap (by decide) rfl im_X6_gap se_X6_gap (ct_gapN cm ivv hP) (Nat.le_of_ble_eq_true rfl) (by decide) (Nat.le_of_ble_eq_true rfl) ?_
                    rw [hev, oI_s]
                    refine e_iload_n dX10_rounds_57 rfl rfl ?_
                    first | ((with_reducible refine mk_nn ?_); refine n_icmp_gt (tgt := 63) dX10_rounds_58 (by decide) (by omega) (by omega) (fun h58 => ?_) (fun h58 => ?_)) | refine e_icmp_gt (tgt := 63) dX10_rounds_58 (by decide) (fun h58 => ?_) (fun h58 => ?_)
                    · try first | contradiction | omega
                      all_goals
                        omega
                    · try first | contradiction | omega
                      all_goals
                        refine e_iload_n dX10_rounds_61 rfl rfl ?_
                        refine e_ret (some _) rfl (r_int dX10_rounds_62 rfl) ?_
                        exact kq rfl hF hK
    refine e_iload_n dX10_rounds_0 rfl rfl ?_
    first | ((with_reducible refine mk_ll ?_); refine m_if_lt (tgt := 11) dX10_rounds_1 (by decide) (by omega) (by omega) (fun h1 => ?_) (fun h1 => ?_)) | ((with_reducible refine mk_lc ?_); refine l_if_lt (tgt := 11) dX10_rounds_1 (by decide) (fun h1 => ?_) (fun h1 => ?_)) | ((with_reducible refine mk_n ?_); refine n_if_lt (tgt := 11) dX10_rounds_1 (by decide) (by omega) (fun h1 => ?_) (fun h1 => ?_)) | refine e_if_lt (tgt := 11) dX10_rounds_1 (by decide) (fun h1 => ?_) (fun h1 => ?_)
    · try first | contradiction | omega
      all_goals
        omega
    · try first | contradiction | omega
      all_goals
        refine e_iload_n dX10_rounds_4 rfl rfl ?_
        refine e_ldcw dX10_rounds_5 co_X10_385 ?_
        first | ((with_reducible refine mk_nn ?_); refine n_icmp_le (tgt := 13) dX10_rounds_8 (by decide) (by omega) (by omega) (fun h8 => ?_) (fun h8 => ?_)) | refine e_icmp_le (tgt := 13) dX10_rounds_8 (by decide) (fun h8 => ?_) (fun h8 => ?_)
        · try first | contradiction | omega
          all_goals
            refine e_aload_n dX10_rounds_13 rfl rfl ?_
            refine e_getR dX10_rounds_14 fl_X10_26 rfl (cx_5 cm) ?_
            refine e_aload_n dX10_rounds_17 rfl rfl ?_
            refine e_getR dX10_rounds_18 fl_X10_18 rfl (cx_0 cm) ?_
            refine ky_V1 (M' := mX6_take) dX10_rounds_21 ml_X10_252 ok_X6_take (by decide) rfl im_X6_take se_X6_take (ct_X6_take cm iv hK) (Nat.le_of_ble_eq_true rfl) (by decide) (Nat.le_of_ble_eq_true rfl) (fun fi ai hG hKP => ?_)
            have hF := FR1_tr hF hG
            have hK := hKP.1
            have hP := hKP.2
            refine e_iconst (v := nI 0) dX10_rounds_24 rfl ?_
            refine e_istore_n dX10_rounds_25 rfl (Nat.le_of_ble_eq_true rfl) rfl ?_
            exact key 40 0 w _ _ (by omega) iv i2 (by omega) (by cases rnF b 40 w <;> rfl) hF hK hP
        · try first | contradiction | omega
          all_goals
            omega
theorem ct_X10_emptied {fi : FI} {fr : FR} {ai : FI} {ar : FR} {N : Nat} {w lg : Nat → Nat} {E : Nat} (cm : CM fr ar) (iv : Inv w) (hK : K fi ai w lg E) (x y : Int32) : CP mX10_emptied 3 0 0 [.ref (rf 10 0), .int x, .int y] fi fr ai ar N (kQ (some (.long (empR w x y))) fi fr ai ar N (fun fi ai => K fi ai w lg E)) := by
  have h1 := iv_n iv
  have h3 := iv_mm iv
  have bd := Bd_iv iv
  have hF : FR1 fi ai fi ai := FR1_rf
  change EV mX10_emptied 3 0 0 0 [some (.ref (rf 10 0)), some (.int x), some (.int y), none, none, none, none] [] fi fr ai ar N (kQ (some (.long (empR w x y))) fi fr ai ar N (fun fi ai => K fi ai w lg E))
  have t2 : (nI 2).toInt = 2 := by decide
  cases hx : inR x 6 with
  | false =>
    have e : empR w x y = -1 := by unfold empR; rw [if_neg (fun z => by rw [hx] at z; exact absurd z.1 (by decide))]
    rw [e]
    refine e_iload_n dX10_emptied_0 rfl rfl ?_
    refine x_S1 (M' := mX10_isServer) dX10_emptied_1 ml_X10_264 ok_X10_isServer rfl sc_X10_isServer (ct_X10_isServer _) (Nat.le_of_ble_eq_true rfl) (by decide) (Nat.le_of_ble_eq_true rfl) ?_
    rw [hx]
    first | ((with_reducible refine mk_b ?_); refine b_if_eq (tgt := 16) dX10_emptied_4 (by decide) (fun h4 => ?_) (fun h4 => ?_)) | ((with_reducible refine mk_ll ?_); refine m_if_eq (tgt := 16) dX10_emptied_4 (by decide) (by omega) (by omega) (fun h4 => ?_) (fun h4 => ?_)) | ((with_reducible refine mk_lc ?_); refine l_if_eq (tgt := 16) dX10_emptied_4 (by decide) (fun h4 => ?_) (fun h4 => ?_)) | ((with_reducible refine mk_n ?_); refine n_if_eq (tgt := 16) dX10_emptied_4 (by decide) (by omega) (fun h4 => ?_) (fun h4 => ?_)) | refine e_if_eq (tgt := 16) dX10_emptied_4 (by decide) (fun h4 => ?_) (fun h4 => ?_)
    · try first | contradiction | omega | (simp only [decide_eq_true_eq, decide_eq_false_iff_not] at h4; omega)
      all_goals
        refine e_ldc2 dX10_emptied_16 co_X10_250 ?_
        refine e_ret (some _) rfl (r_long dX10_emptied_19 rfl) ?_
        exact kq rfl hF hK
    · try first | contradiction | omega | (simp only [decide_eq_true_eq, decide_eq_false_iff_not] at h4; omega)
      all_goals
        contradiction
  | true =>
    have hx0 := hx
    obtain ⟨s, hs, hs2, rfl⟩ := inR_ex hx
    cases hy : inR y 3 with
    | false =>
      have e : empR w (nI s) y = -1 := by unfold empR; rw [if_neg (fun z => by rw [hy] at z; exact absurd z.2.1 (by decide))]
      have hf := inR_f hy
      rw [e]
      refine e_iload_n dX10_emptied_0 rfl rfl ?_
      refine x_S1 (M' := mX10_isServer) dX10_emptied_1 ml_X10_264 ok_X10_isServer rfl sc_X10_isServer (ct_X10_isServer _) (Nat.le_of_ble_eq_true rfl) (by decide) (Nat.le_of_ble_eq_true rfl) ?_
      rw [hx]
      first | ((with_reducible refine mk_b ?_); refine b_if_eq (tgt := 16) dX10_emptied_4 (by decide) (fun h4 => ?_) (fun h4 => ?_)) | ((with_reducible refine mk_ll ?_); refine m_if_eq (tgt := 16) dX10_emptied_4 (by decide) (by omega) (by omega) (fun h4 => ?_) (fun h4 => ?_)) | ((with_reducible refine mk_lc ?_); refine l_if_eq (tgt := 16) dX10_emptied_4 (by decide) (fun h4 => ?_) (fun h4 => ?_)) | ((with_reducible refine mk_n ?_); refine n_if_eq (tgt := 16) dX10_emptied_4 (by decide) (by omega) (fun h4 => ?_) (fun h4 => ?_)) | refine e_if_eq (tgt := 16) dX10_emptied_4 (by decide) (fun h4 => ?_) (fun h4 => ?_)
      · try first | contradiction | omega | (simp only [decide_eq_true_eq, decide_eq_false_iff_not] at h4; omega)
        all_goals
          refine e_ldc2 dX10_emptied_16 co_X10_250 ?_
          refine e_ret (some _) rfl (r_long dX10_emptied_19 rfl) ?_
          exact kq rfl hF hK
      · try first | contradiction | omega | (simp only [decide_eq_true_eq, decide_eq_false_iff_not] at h4; omega)
        all_goals
          refine e_iload_n dX10_emptied_7 rfl rfl ?_
          first | ((with_reducible refine mk_ll ?_); refine m_if_lt (tgt := 16) dX10_emptied_8 (by decide) (by omega) (by omega) (fun h8 => ?_) (fun h8 => ?_)) | ((with_reducible refine mk_lc ?_); refine l_if_lt (tgt := 16) dX10_emptied_8 (by decide) (fun h8 => ?_) (fun h8 => ?_)) | ((with_reducible refine mk_n ?_); refine n_if_lt (tgt := 16) dX10_emptied_8 (by decide) (by omega) (fun h8 => ?_) (fun h8 => ?_)) | refine e_if_lt (tgt := 16) dX10_emptied_8 (by decide) (fun h8 => ?_) (fun h8 => ?_)
          · try first | contradiction | omega
            all_goals
              refine e_ldc2 dX10_emptied_16 co_X10_250 ?_
              refine e_ret (some _) rfl (r_long dX10_emptied_19 rfl) ?_
              exact kq rfl hF hK
          · try first | contradiction | omega
            all_goals
              refine e_iload_n dX10_emptied_11 rfl rfl ?_
              refine e_iconst (v := nI 2) dX10_emptied_12 rfl ?_
              first | ((with_reducible refine mk_nn ?_); refine n_icmp_le (tgt := 20) dX10_emptied_13 (by decide) (by omega) (by omega) (fun h13 => ?_) (fun h13 => ?_)) | refine e_icmp_le (tgt := 20) dX10_emptied_13 (by decide) (fun h13 => ?_) (fun h13 => ?_)
              · try first | contradiction | omega
                all_goals
                  exfalso; simp only [Int32.lt_iff_toInt_lt, Int32.le_iff_toInt_le, z_toInt, t2] at *; omega
              · try first | contradiction | omega
                all_goals
                  refine e_ldc2 dX10_emptied_16 co_X10_250 ?_
                  refine e_ret (some _) rfl (r_long dX10_emptied_19 rfl) ?_
                  exact kq rfl hF hK
    | true =>
      have hy0 := hy
      obtain ⟨b, hb, hb2, rfl⟩ := inR_ex hy
      cases ho : obL w s with
      | none =>
        have e : empR w (nI s) (nI b) = -1 := by unfold empR; rw [if_neg (fun z => by rw [nI_clamp hs2, ho] at z; exact absurd z.2.2 (by decide))]
        rw [e]
        refine e_iload_n dX10_emptied_0 rfl rfl ?_
        refine x_S1 (M' := mX10_isServer) dX10_emptied_1 ml_X10_264 ok_X10_isServer rfl sc_X10_isServer (ct_X10_isServer _) (Nat.le_of_ble_eq_true rfl) (by decide) (Nat.le_of_ble_eq_true rfl) ?_
        rw [hx]
        first | ((with_reducible refine mk_b ?_); refine b_if_eq (tgt := 16) dX10_emptied_4 (by decide) (fun h4 => ?_) (fun h4 => ?_)) | ((with_reducible refine mk_ll ?_); refine m_if_eq (tgt := 16) dX10_emptied_4 (by decide) (by omega) (by omega) (fun h4 => ?_) (fun h4 => ?_)) | ((with_reducible refine mk_lc ?_); refine l_if_eq (tgt := 16) dX10_emptied_4 (by decide) (fun h4 => ?_) (fun h4 => ?_)) | ((with_reducible refine mk_n ?_); refine n_if_eq (tgt := 16) dX10_emptied_4 (by decide) (by omega) (fun h4 => ?_) (fun h4 => ?_)) | refine e_if_eq (tgt := 16) dX10_emptied_4 (by decide) (fun h4 => ?_) (fun h4 => ?_)
        · try first | contradiction | omega | (simp only [decide_eq_true_eq, decide_eq_false_iff_not] at h4; omega)
          all_goals
            first | omega | contradiction
        · try first | contradiction | omega | (simp only [decide_eq_true_eq, decide_eq_false_iff_not] at h4; omega)
          all_goals
            refine e_iload_n dX10_emptied_7 rfl rfl ?_
            first | ((with_reducible refine mk_ll ?_); refine m_if_lt (tgt := 16) dX10_emptied_8 (by decide) (by omega) (by omega) (fun h8 => ?_) (fun h8 => ?_)) | ((with_reducible refine mk_lc ?_); refine l_if_lt (tgt := 16) dX10_emptied_8 (by decide) (fun h8 => ?_) (fun h8 => ?_)) | ((with_reducible refine mk_n ?_); refine n_if_lt (tgt := 16) dX10_emptied_8 (by decide) (by omega) (fun h8 => ?_) (fun h8 => ?_)) | refine e_if_lt (tgt := 16) dX10_emptied_8 (by decide) (fun h8 => ?_) (fun h8 => ?_)
            · try first | contradiction | omega
              all_goals
                first | omega | contradiction
            · try first | contradiction | omega
              all_goals
                refine e_iload_n dX10_emptied_11 rfl rfl ?_
                refine e_iconst (v := nI 2) dX10_emptied_12 rfl ?_
                first | ((with_reducible refine mk_nn ?_); refine n_icmp_le (tgt := 20) dX10_emptied_13 (by decide) (by omega) (by omega) (fun h13 => ?_) (fun h13 => ?_)) | refine e_icmp_le (tgt := 20) dX10_emptied_13 (by decide) (fun h13 => ?_) (fun h13 => ?_)
                · try first | contradiction | omega
                  all_goals
                    refine e_aload_n dX10_emptied_20 rfl rfl ?_
                    refine e_getR dX10_emptied_21 fl_X10_26 rfl (cx_5 cm) ?_
                    refine e_aload_n dX10_emptied_24 rfl rfl ?_
                    refine e_getR dX10_emptied_25 fl_X10_18 rfl (cx_0 cm) ?_
                    refine ky_V1 (M' := mX6_take) dX10_emptied_28 ml_X10_252 ok_X6_take (by decide) rfl im_X6_take se_X6_take (ct_X6_take cm iv hK) (Nat.le_of_ble_eq_true rfl) (by decide) (Nat.le_of_ble_eq_true rfl) (fun fi ai hG hKP => ?_)
                    have hF := FR1_tr hF hG
                    have hK := hKP.1
                    have hP := hKP.2
                    refine e_aload_n dX10_emptied_31 rfl rfl ?_
                    refine e_getR dX10_emptied_32 fl_X10_26 rfl (cx_5 cm) ?_
                    refine e_iload_n dX10_emptied_35 rfl rfl ?_
                    refine x_V1 (M' := mX6_lightest) dX10_emptied_36 ml_X10_408 ok_X6_lightest (by decide) rfl im_X6_lightest se_X6_lightest (ct_lightestB cm iv hP (by omega)) (Nat.le_of_ble_eq_true rfl) (by decide) (Nat.le_of_ble_eq_true rfl) ?_
                    rw [ho]
                    refine e_iconst (v := -1) dX10_emptied_39 rfl ?_
                    first | ((with_reducible refine mk_mo ?_); refine p_icmp_ne (tgt := 47) dX10_emptied_40 (by decide) (fun h40 => ?_) (fun h40 => ?_)) | ((with_reducible refine mk_ms ?_); refine s_icmp_ne (tgt := 47) dX10_emptied_40 (by decide) (by omega) (fun h40 => ?_) (fun h40 => ?_)) | ((with_reducible refine mk_mn ?_); refine q_icmp_ne (tgt := 47) dX10_emptied_40 (by decide) (by omega) (fun h40 => ?_) (fun h40 => ?_)) | ((with_reducible refine mk_nn ?_); refine n_icmp_ne (tgt := 47) dX10_emptied_40 (by decide) (by omega) (by omega) (fun h40 => ?_) (fun h40 => ?_)) | refine e_icmp_ne (tgt := 47) dX10_emptied_40 (by decide) (fun h40 => ?_) (fun h40 => ?_)
                    · try first | contradiction | omega
                      all_goals
                        contradiction
                    · try first | contradiction | omega
                      all_goals
                        refine e_ldc2 dX10_emptied_43 co_X10_250 ?_
                        refine e_ret (some _) rfl (r_long dX10_emptied_46 rfl) ?_
                        exact kq rfl hF hK
                · try first | contradiction | omega
                  all_goals
                    first | omega | contradiction
      | some t0 =>
        have hos : (obL w s).isSome = true := by rw [ho]; rfl
        have e : empR w (nI s) (nI b) = emV b (emF s 32 w).1 (emF s 32 w).2 s (oI (emO w s)) := by unfold empR; rw [if_pos ⟨hx0, hy0, by rw [nI_clamp hs2]; exact hos⟩, nI_clamp hs2, nI_clamp hb2]
        rw [e]
        have ht0 := (bst_in ho).1
        have ex : ∀ v fi2 ai2 n F i t, Inv v → (∀ t, t < 6 → v (4 + t) = w (4 + t)) → n ≤ 32 → (emF s 32 w).1 = n → (emF s 32 w).2 = v → F = oI (emO w s) → FR1 fi ai fi2 ai2 → K fi2 ai2 w lg E → PL fi2 ai2 v → EV mX10_emptied 3 0 0 120 [some (.ref (rf 10 0)), some (.int (nI s)), some (.int (nI b)), some (.int F), some (.int (nI n)), i, t] [] fi2 fr ai2 ar N (kQ (some (.long (emV b (emF s 32 w).1 (emF s 32 w).2 s (oI (emO w s))))) fi fr ai ar N (fun fi ai => K fi ai w lg E)) := by
          intro v fi2 ai2 n F i t ivv hu hn h1 h2 hF0 hF hK hP
          rw [h1, h2, ← hF0]
          obtain ⟨a, l, ha, hl, ha6, hl6, -, hle⟩ := ob_some hos hu
          have hla := ldF_le2 ivv a
          have eg : evB v s = some (ldF v a - ldF v l) := by unfold evB; rw [ha, hl]
          have eg2 : emG v s = ldF v a - ldF v l := by unfold emG; rw [ha, hl]
          rcases (show b = 0 ∨ b = 1 ∨ b = 2 by omega) with e | e | e
          · subst e
            refine e_iload_n dX10_emptied_120 rfl rfl ?_
            refine e_lookup (off := 27) (tgt := 148) dX10_emptied_121 (by decide) (by decide) (by decide) ?_
            refine e_iload dX10_emptied_148 rfl ?_
            first | ((with_reducible refine mk_n ?_); refine n_i2l dX10_emptied_150 (by omega) ?_) | refine e_i2l dX10_emptied_150 ?_
            refine e_ret (some _) rfl (r_long dX10_emptied_151 rfl) ?_
            exact kq rfl hF hK
          · subst e
            refine e_iload_n dX10_emptied_120 rfl rfl ?_
            refine e_lookup (off := 31) (tgt := 152) dX10_emptied_121 (by decide) (by decide) (by decide) ?_
            refine e_aload_n dX10_emptied_152 rfl rfl ?_
            refine e_getR dX10_emptied_153 fl_X10_26 rfl (cx_5 cm) ?_
            refine e_iload_n dX10_emptied_156 rfl rfl ?_
            refine x_V1 (M' := mX6_gap) dX10_emptied_157 ml_X10_389 ok_X6_gap (by decide) rfl im_X6_gap se_X6_gap (ct_gapB cm ivv hP (by omega)) (Nat.le_of_ble_eq_true rfl) (by decide) (Nat.le_of_ble_eq_true rfl) ?_
            rw [eg, oI_s]
            first | ((with_reducible refine mk_n ?_); refine n_i2l dX10_emptied_160 (by omega) ?_) | refine e_i2l dX10_emptied_160 ?_
            refine e_ret (some _) rfl (r_long dX10_emptied_161 rfl) ?_
            refine kq ?_ hF hK
            show _ = some (Value.long (lN (emG v s)))
            rw [eg2]
          · subst e
            refine e_iload_n dX10_emptied_120 rfl rfl ?_
            refine e_lookup (off := 41) (tgt := 162) dX10_emptied_121 (by decide) (by decide) (by decide) ?_
            refine e_iload_n dX10_emptied_162 rfl rfl ?_
            first | ((with_reducible refine mk_n ?_); refine n_i2l dX10_emptied_163 (by omega) ?_) | refine e_i2l dX10_emptied_163 ?_
            refine e_ret (some _) rfl (r_long dX10_emptied_164 rfl) ?_
            exact kq rfl hF hK
        have key : ∀ f n v fi2 ai2 F t, n + f = 32 → Inv v → (∀ t, t < 6 → v (4 + t) = w (4 + t)) → (emF s 32 w).1 = (emF s f v).1 + n → (emF s 32 w).2 = (emF s f v).2 → ((n = 0 ∧ v = w ∧ F = -1) ∨ (0 < n ∧ F = oI (emO w s))) → FR1 fi ai fi2 ai2 → K fi2 ai2 w lg E → PL fi2 ai2 v → EV mX10_emptied 3 0 0 62 [some (.ref (rf 10 0)), some (.int (nI s)), some (.int (nI b)), some (.int F), some (.int (nI n)), some (.int (oI (hvO v s))), t] [] fi2 fr ai2 ar N (kQ (some (.long (emV b (emF s 32 w).1 (emF s 32 w).2 s (oI (emO w s))))) fi fr ai ar N (fun fi ai => K fi ai w lg E)) := by
          intro f
          induction f with
          | zero =>
            intro n v fi2 ai2 F t hn ivv hu h1 h2 hFF hF hK hP
            have hFe : F = oI (emO w s) := hFF.elim (fun z => absurd z.1 (by omega)) (fun z => z.2)
            have hz : emF s 0 v = (0, v) := rfl
            cases hh : hvO v s with
            | none =>
              refine e_iload dX10_emptied_62 rfl ?_
              refine e_iconst (v := -1) dX10_emptied_64 rfl ?_
              first | ((with_reducible refine mk_mo ?_); refine p_icmp_eq (tgt := 120) dX10_emptied_65 (by decide) (fun h65 => ?_) (fun h65 => ?_)) | ((with_reducible refine mk_ms ?_); refine s_icmp_eq (tgt := 120) dX10_emptied_65 (by decide) (by omega) (fun h65 => ?_) (fun h65 => ?_)) | ((with_reducible refine mk_mn ?_); refine q_icmp_eq (tgt := 120) dX10_emptied_65 (by decide) (by omega) (fun h65 => ?_) (fun h65 => ?_)) | ((with_reducible refine mk_nn ?_); refine n_icmp_eq (tgt := 120) dX10_emptied_65 (by decide) (by omega) (by omega) (fun h65 => ?_) (fun h65 => ?_)) | refine e_icmp_eq (tgt := 120) dX10_emptied_65 (by decide) (fun h65 => ?_) (fun h65 => ?_)
              · try first | contradiction | omega
                all_goals
                  exact ex v _ _ n F _ _ ivv hu (by omega) (by rw [h1, hz]; show 0 + n = n; omega) (by rw [h2, hz]) hFe hF hK hP
              · try first | contradiction | omega
                all_goals
                  contradiction
            | some i =>
              have hi := (bst_in hh).1
              have hin := iv_n ivv
              rw [oI_s]
              refine e_iload dX10_emptied_62 rfl ?_
              refine e_iconst (v := -1) dX10_emptied_64 rfl ?_
              first | ((with_reducible refine mk_mo ?_); refine p_icmp_eq (tgt := 120) dX10_emptied_65 (by decide) (fun h65 => ?_) (fun h65 => ?_)) | ((with_reducible refine mk_ms ?_); refine s_icmp_eq (tgt := 120) dX10_emptied_65 (by decide) (by omega) (fun h65 => ?_) (fun h65 => ?_)) | ((with_reducible refine mk_mn ?_); refine q_icmp_eq (tgt := 120) dX10_emptied_65 (by decide) (by omega) (fun h65 => ?_) (fun h65 => ?_)) | ((with_reducible refine mk_nn ?_); refine n_icmp_eq (tgt := 120) dX10_emptied_65 (by decide) (by omega) (by omega) (fun h65 => ?_) (fun h65 => ?_)) | refine e_icmp_eq (tgt := 120) dX10_emptied_65 (by decide) (fun h65 => ?_) (fun h65 => ?_)
              · try first | contradiction | omega
                all_goals
                  first | contradiction | exact ex v _ _ n F _ _ ivv hu (by omega) (by rw [h1, hz]; show 0 + n = n; omega) (by rw [h2, hz]) hFe hF hK hP
              · try first | contradiction | omega
                all_goals
                  refine e_iload dX10_emptied_68 rfl ?_
                  refine e_bipush (v := nI 32) dX10_emptied_70 rfl ?_
                  first | ((with_reducible refine mk_nn ?_); refine n_icmp_ge (tgt := 120) dX10_emptied_72 (by decide) (by omega) (by omega) (fun h72 => ?_) (fun h72 => ?_)) | refine e_icmp_ge (tgt := 120) dX10_emptied_72 (by decide) (fun h72 => ?_) (fun h72 => ?_)
                  · try first | contradiction | omega
                    all_goals
                      first | contradiction | exact ex v _ _ n F _ _ ivv hu (by omega) (by rw [h1, hz]; show 0 + n = n; omega) (by rw [h2, hz]) hFe hF hK hP
                  · try first | contradiction | omega
                    all_goals
                      omega
          | succ f ih =>
            intro n v fi2 ai2 F t hn ivv hu h1 h2 hFF hF hK hP
            obtain ⟨a, l, ha, hl, ha6, hl6, -, -⟩ := ob_some hos hu
            cases hh : hvO v s with
            | none =>
              have hz : emF s (f + 1) v = (0, v) := emF_0 hh
              have hFe : F = oI (emO w s) := by
                rcases hFF with ⟨-, b2, b3⟩ | ⟨-, b3⟩
                · rw [b3]; unfold emO; rw [← b2, hh]; rfl
                · exact b3
              refine e_iload dX10_emptied_62 rfl ?_
              refine e_iconst (v := -1) dX10_emptied_64 rfl ?_
              first | ((with_reducible refine mk_mo ?_); refine p_icmp_eq (tgt := 120) dX10_emptied_65 (by decide) (fun h65 => ?_) (fun h65 => ?_)) | ((with_reducible refine mk_ms ?_); refine s_icmp_eq (tgt := 120) dX10_emptied_65 (by decide) (by omega) (fun h65 => ?_) (fun h65 => ?_)) | ((with_reducible refine mk_mn ?_); refine q_icmp_eq (tgt := 120) dX10_emptied_65 (by decide) (by omega) (fun h65 => ?_) (fun h65 => ?_)) | ((with_reducible refine mk_nn ?_); refine n_icmp_eq (tgt := 120) dX10_emptied_65 (by decide) (by omega) (by omega) (fun h65 => ?_) (fun h65 => ?_)) | refine e_icmp_eq (tgt := 120) dX10_emptied_65 (by decide) (fun h65 => ?_) (fun h65 => ?_)
              · try first | contradiction | omega
                all_goals
                  exact ex v _ _ n F _ _ ivv hu (by omega) (by rw [h1, hz]; show 0 + n = n; omega) (by rw [h2, hz]) hFe hF hK hP
              · try first | contradiction | omega
                all_goals
                  contradiction
            | some i =>
              have hi := (bst_in hh).1
              have hin := iv_n ivv
              have hz := emF_1 (f := f) hh hl
              have ivn := own_Inv ivv hi hl6
              have hFn : ∀ F2, (n = 0 → F2 = nI l) → (n ≠ 0 → F2 = F) → F2 = oI (emO w s) := fun F2 c1 c2 => by
                rcases hFF with ⟨b1, b2, b3⟩ | ⟨b1, b3⟩
                · rw [c1 b1]; unfold emO; rw [← b2, hh, hl]; rfl
                · rw [c2 (by omega)]; exact b3
              rw [oI_s]
              refine e_iload dX10_emptied_62 rfl ?_
              refine e_iconst (v := -1) dX10_emptied_64 rfl ?_
              first | ((with_reducible refine mk_mo ?_); refine p_icmp_eq (tgt := 120) dX10_emptied_65 (by decide) (fun h65 => ?_) (fun h65 => ?_)) | ((with_reducible refine mk_ms ?_); refine s_icmp_eq (tgt := 120) dX10_emptied_65 (by decide) (by omega) (fun h65 => ?_) (fun h65 => ?_)) | ((with_reducible refine mk_mn ?_); refine q_icmp_eq (tgt := 120) dX10_emptied_65 (by decide) (by omega) (fun h65 => ?_) (fun h65 => ?_)) | ((with_reducible refine mk_nn ?_); refine n_icmp_eq (tgt := 120) dX10_emptied_65 (by decide) (by omega) (by omega) (fun h65 => ?_) (fun h65 => ?_)) | refine e_icmp_eq (tgt := 120) dX10_emptied_65 (by decide) (fun h65 => ?_) (fun h65 => ?_)
              · try first | contradiction | omega
                all_goals
                  first | omega | contradiction
              · try first | contradiction | omega
                all_goals
                  refine e_iload dX10_emptied_68 rfl ?_
                  refine e_bipush (v := nI 32) dX10_emptied_70 rfl ?_
                  first | ((with_reducible refine mk_nn ?_); refine n_icmp_ge (tgt := 120) dX10_emptied_72 (by decide) (by omega) (by omega) (fun h72 => ?_) (fun h72 => ?_)) | refine e_icmp_ge (tgt := 120) dX10_emptied_72 (by decide) (fun h72 => ?_) (fun h72 => ?_)
                  · try first | contradiction | omega
                    all_goals
                      first | omega | contradiction
                  · try first | contradiction | omega
                    all_goals
                      refine e_aload_n dX10_emptied_75 rfl rfl ?_
                      refine e_getR dX10_emptied_76 fl_X10_26 rfl (cx_5 cm) ?_
                      refine e_iload_n dX10_emptied_79 rfl rfl ?_
                      refine x_V1 (M' := mX6_lightest) dX10_emptied_80 ml_X10_408 ok_X6_lightest (by decide) rfl im_X6_lightest se_X6_lightest (ct_lightestB cm ivv hP (by omega)) (Nat.le_of_ble_eq_true rfl) (by decide) (Nat.le_of_ble_eq_true rfl) ?_
                      rw [hl, oI_s]
                      refine e_istore dX10_emptied_83 (Nat.le_of_ble_eq_true rfl) rfl ?_
                      refine e_iload dX10_emptied_85 rfl ?_
                      first | ((with_reducible refine mk_b ?_); refine b_if_ne (tgt := 93) dX10_emptied_87 (by decide) (fun h87 => ?_) (fun h87 => ?_)) | ((with_reducible refine mk_ll ?_); refine m_if_ne (tgt := 93) dX10_emptied_87 (by decide) (by omega) (by omega) (fun h87 => ?_) (fun h87 => ?_)) | ((with_reducible refine mk_lc ?_); refine l_if_ne (tgt := 93) dX10_emptied_87 (by decide) (fun h87 => ?_) (fun h87 => ?_)) | ((with_reducible refine mk_n ?_); refine n_if_ne (tgt := 93) dX10_emptied_87 (by decide) (by omega) (fun h87 => ?_) (fun h87 => ?_)) | refine e_if_ne (tgt := 93) dX10_emptied_87 (by decide) (fun h87 => ?_) (fun h87 => ?_)
                      · try first | contradiction | omega | (simp only [decide_eq_true_eq, decide_eq_false_iff_not] at h87; omega)
                        all_goals
                          refine e_aload_n dX10_emptied_93 rfl rfl ?_
                          refine e_getR dX10_emptied_94 fl_X10_26 rfl (cx_5 cm) ?_
                          refine e_iload dX10_emptied_97 rfl ?_
                          refine e_iload dX10_emptied_99 rfl ?_
                          refine ky_V2 (M' := mX6_handTo) dX10_emptied_101 ml_X10_414 ok_X6_handTo (by decide) rfl im_X6_handTo se_X6_handTo (ct_X6_handTo cm iv ivv hK hP (by omega) (by omega)) (Nat.le_of_ble_eq_true rfl) (by decide) (Nat.le_of_ble_eq_true rfl) (fun fi ai hG hKP => ?_)
                          have hF := FR1_tr hF hG
                          obtain ⟨hK, hP⟩ := hKP
                          first | refine n_inc dX10_emptied_104 rfl (Nat.le_of_ble_eq_true rfl) rfl ?_ | refine e_iinc dX10_emptied_104 rfl rfl (Nat.le_of_ble_eq_true rfl) rfl ?_
                          refine e_aload_n dX10_emptied_107 rfl rfl ?_
                          refine e_getR dX10_emptied_108 fl_X10_26 rfl (cx_5 cm) ?_
                          refine e_iload_n dX10_emptied_111 rfl rfl ?_
                          refine x_V1 (M' := mX6_heaviestFree) dX10_emptied_112 ml_X10_411 ok_X6_heaviestFree (by decide) rfl im_X6_heaviestFree se_X6_heaviestFree (ct_X6_heaviestFree cm ivn hP (by omega)) (Nat.le_of_ble_eq_true rfl) (by decide) (Nat.le_of_ble_eq_true rfl) ?_
                          refine e_istore dX10_emptied_115 (Nat.le_of_ble_eq_true rfl) rfl ?_
                          refine e_goto (tgt := 62) dX10_emptied_117 (by decide) ?_
                          refine ih (n + 1) (upN v (42 + i) l) _ _ _ _ (by omega) ivn (fun t ht => by rw [upN_n (by omega)]; exact hu t ht) (by rw [h1, hz]; show _ + 1 + n = _; omega) (by rw [h2, hz]) (Or.inr ⟨by omega, ?_⟩) hF hK hP
                          first | exact hFn _ (fun _ => rfl) (fun z => by omega) | exact hFn _ (fun z => by omega) (fun _ => rfl)
                      · try first | contradiction | omega | (simp only [decide_eq_true_eq, decide_eq_false_iff_not] at h87; omega)
                        all_goals
                          refine e_iload dX10_emptied_90 rfl ?_
                          refine e_istore_n dX10_emptied_92 rfl (Nat.le_of_ble_eq_true rfl) rfl ?_
                          refine e_aload_n dX10_emptied_93 rfl rfl ?_
                          refine e_getR dX10_emptied_94 fl_X10_26 rfl (cx_5 cm) ?_
                          refine e_iload dX10_emptied_97 rfl ?_
                          refine e_iload dX10_emptied_99 rfl ?_
                          refine ky_V2 (M' := mX6_handTo) dX10_emptied_101 ml_X10_414 ok_X6_handTo (by decide) rfl im_X6_handTo se_X6_handTo (ct_X6_handTo cm iv ivv hK hP (by omega) (by omega)) (Nat.le_of_ble_eq_true rfl) (by decide) (Nat.le_of_ble_eq_true rfl) (fun fi ai hG hKP => ?_)
                          have hF := FR1_tr hF hG
                          obtain ⟨hK, hP⟩ := hKP
                          first | refine n_inc dX10_emptied_104 rfl (Nat.le_of_ble_eq_true rfl) rfl ?_ | refine e_iinc dX10_emptied_104 rfl rfl (Nat.le_of_ble_eq_true rfl) rfl ?_
                          refine e_aload_n dX10_emptied_107 rfl rfl ?_
                          refine e_getR dX10_emptied_108 fl_X10_26 rfl (cx_5 cm) ?_
                          refine e_iload_n dX10_emptied_111 rfl rfl ?_
                          refine x_V1 (M' := mX6_heaviestFree) dX10_emptied_112 ml_X10_411 ok_X6_heaviestFree (by decide) rfl im_X6_heaviestFree se_X6_heaviestFree (ct_X6_heaviestFree cm ivn hP (by omega)) (Nat.le_of_ble_eq_true rfl) (by decide) (Nat.le_of_ble_eq_true rfl) ?_
                          refine e_istore dX10_emptied_115 (Nat.le_of_ble_eq_true rfl) rfl ?_
                          refine e_goto (tgt := 62) dX10_emptied_117 (by decide) ?_
                          refine ih (n + 1) (upN v (42 + i) l) _ _ _ _ (by omega) ivn (fun t ht => by rw [upN_n (by omega)]; exact hu t ht) (by rw [h1, hz]; show _ + 1 + n = _; omega) (by rw [h2, hz]) (Or.inr ⟨by omega, ?_⟩) hF hK hP
                          first | exact hFn _ (fun _ => rfl) (fun z => by omega) | exact hFn _ (fun z => by omega) (fun _ => rfl)
        refine e_iload_n dX10_emptied_0 rfl rfl ?_
        refine x_S1 (M' := mX10_isServer) dX10_emptied_1 ml_X10_264 ok_X10_isServer rfl sc_X10_isServer (ct_X10_isServer _) (Nat.le_of_ble_eq_true rfl) (by decide) (Nat.le_of_ble_eq_true rfl) ?_
        rw [hx]
        first | ((with_reducible refine mk_b ?_); refine b_if_eq (tgt := 16) dX10_emptied_4 (by decide) (fun h4 => ?_) (fun h4 => ?_)) | ((with_reducible refine mk_ll ?_); refine m_if_eq (tgt := 16) dX10_emptied_4 (by decide) (by omega) (by omega) (fun h4 => ?_) (fun h4 => ?_)) | ((with_reducible refine mk_lc ?_); refine l_if_eq (tgt := 16) dX10_emptied_4 (by decide) (fun h4 => ?_) (fun h4 => ?_)) | ((with_reducible refine mk_n ?_); refine n_if_eq (tgt := 16) dX10_emptied_4 (by decide) (by omega) (fun h4 => ?_) (fun h4 => ?_)) | refine e_if_eq (tgt := 16) dX10_emptied_4 (by decide) (fun h4 => ?_) (fun h4 => ?_)
        · try first | contradiction | omega | (simp only [decide_eq_true_eq, decide_eq_false_iff_not] at h4; omega)
          all_goals
            first | omega | contradiction
        · try first | contradiction | omega | (simp only [decide_eq_true_eq, decide_eq_false_iff_not] at h4; omega)
          all_goals
            refine e_iload_n dX10_emptied_7 rfl rfl ?_
            first | ((with_reducible refine mk_ll ?_); refine m_if_lt (tgt := 16) dX10_emptied_8 (by decide) (by omega) (by omega) (fun h8 => ?_) (fun h8 => ?_)) | ((with_reducible refine mk_lc ?_); refine l_if_lt (tgt := 16) dX10_emptied_8 (by decide) (fun h8 => ?_) (fun h8 => ?_)) | ((with_reducible refine mk_n ?_); refine n_if_lt (tgt := 16) dX10_emptied_8 (by decide) (by omega) (fun h8 => ?_) (fun h8 => ?_)) | refine e_if_lt (tgt := 16) dX10_emptied_8 (by decide) (fun h8 => ?_) (fun h8 => ?_)
            · try first | contradiction | omega
              all_goals
                first | omega | contradiction
            · try first | contradiction | omega
              all_goals
                refine e_iload_n dX10_emptied_11 rfl rfl ?_
                refine e_iconst (v := nI 2) dX10_emptied_12 rfl ?_
                first | ((with_reducible refine mk_nn ?_); refine n_icmp_le (tgt := 20) dX10_emptied_13 (by decide) (by omega) (by omega) (fun h13 => ?_) (fun h13 => ?_)) | refine e_icmp_le (tgt := 20) dX10_emptied_13 (by decide) (fun h13 => ?_) (fun h13 => ?_)
                · try first | contradiction | omega
                  all_goals
                    refine e_aload_n dX10_emptied_20 rfl rfl ?_
                    refine e_getR dX10_emptied_21 fl_X10_26 rfl (cx_5 cm) ?_
                    refine e_aload_n dX10_emptied_24 rfl rfl ?_
                    refine e_getR dX10_emptied_25 fl_X10_18 rfl (cx_0 cm) ?_
                    refine ky_V1 (M' := mX6_take) dX10_emptied_28 ml_X10_252 ok_X6_take (by decide) rfl im_X6_take se_X6_take (ct_X6_take cm iv hK) (Nat.le_of_ble_eq_true rfl) (by decide) (Nat.le_of_ble_eq_true rfl) (fun fi ai hG hKP => ?_)
                    have hF := FR1_tr hF hG
                    have hK := hKP.1
                    have hP := hKP.2
                    refine e_aload_n dX10_emptied_31 rfl rfl ?_
                    refine e_getR dX10_emptied_32 fl_X10_26 rfl (cx_5 cm) ?_
                    refine e_iload_n dX10_emptied_35 rfl rfl ?_
                    refine x_V1 (M' := mX6_lightest) dX10_emptied_36 ml_X10_408 ok_X6_lightest (by decide) rfl im_X6_lightest se_X6_lightest (ct_lightestB cm iv hP (by omega)) (Nat.le_of_ble_eq_true rfl) (by decide) (Nat.le_of_ble_eq_true rfl) ?_
                    rw [ho, oI_s]
                    refine e_iconst (v := -1) dX10_emptied_39 rfl ?_
                    first | ((with_reducible refine mk_mo ?_); refine p_icmp_ne (tgt := 47) dX10_emptied_40 (by decide) (fun h40 => ?_) (fun h40 => ?_)) | ((with_reducible refine mk_ms ?_); refine s_icmp_ne (tgt := 47) dX10_emptied_40 (by decide) (by omega) (fun h40 => ?_) (fun h40 => ?_)) | ((with_reducible refine mk_mn ?_); refine q_icmp_ne (tgt := 47) dX10_emptied_40 (by decide) (by omega) (fun h40 => ?_) (fun h40 => ?_)) | ((with_reducible refine mk_nn ?_); refine n_icmp_ne (tgt := 47) dX10_emptied_40 (by decide) (by omega) (by omega) (fun h40 => ?_) (fun h40 => ?_)) | refine e_icmp_ne (tgt := 47) dX10_emptied_40 (by decide) (fun h40 => ?_) (fun h40 => ?_)
                    · try first | contradiction | omega
                      all_goals
                        refine e_iconst (v := -1) dX10_emptied_47 rfl ?_
                        refine e_istore_n dX10_emptied_48 rfl (Nat.le_of_ble_eq_true rfl) rfl ?_
                        refine e_iconst (v := nI 0) dX10_emptied_49 rfl ?_
                        refine e_istore dX10_emptied_50 (Nat.le_of_ble_eq_true rfl) rfl ?_
                        refine e_aload_n dX10_emptied_52 rfl rfl ?_
                        refine e_getR dX10_emptied_53 fl_X10_26 rfl (cx_5 cm) ?_
                        refine e_iload_n dX10_emptied_56 rfl rfl ?_
                        refine x_V1 (M' := mX6_heaviestFree) dX10_emptied_57 ml_X10_411 ok_X6_heaviestFree (by decide) rfl im_X6_heaviestFree se_X6_heaviestFree (ct_X6_heaviestFree cm iv hP (by omega)) (Nat.le_of_ble_eq_true rfl) (by decide) (Nat.le_of_ble_eq_true rfl) ?_
                        refine e_istore dX10_emptied_60 (Nat.le_of_ble_eq_true rfl) rfl ?_
                        exact key 32 0 w _ _ _ _ (by omega) iv (fun _ _ => rfl) rfl rfl (Or.inl ⟨rfl, rfl, rfl⟩) hF hK hP
                    · try first | contradiction | omega
                      all_goals
                        contradiction
                · try first | contradiction | omega
                  all_goals
                    first | omega | contradiction
