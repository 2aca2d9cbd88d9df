theorem lo_up {w : Nat → Nat} {a n q v : Nat} (h : q < a ∨ a + n ≤ q) : loF (upN w q v) a n = upN (loF w a n) q v := by
  funext p
  show (if a ≤ p ∧ p < a + n then 0 else if p = q then v else w p) = (if p = q then v else if a ≤ p ∧ p < a + n then 0 else w p)
  repeat' split
  all_goals first | rfl | omega
theorem upN_id {w : Nat → Nat} {q v : Nat} (h : w q = v) : upN w q v = w := by
  funext p
  unfold upN
  split
  · rename_i e; rw [e]; exact h.symm
  · rfl
theorem Bd_sm {w w' : Nat → Nat} (h1 : w' 1 = w 1) (h3 : w' 3 = w 3) (hc : ∀ c, c < 6 → w' (7106 + 98 * c + 1) = w (7106 + 98 * c + 1)) (hm : ∀ m, m < w 3 → w' (7694 + 72 * m + 6) = w (7694 + 72 * m + 6)) (bd : Bd w) : Bd w' := by
  obtain ⟨a, b, c, d⟩ := bd
  refine ⟨by rw [h1]; exact a, by rw [h3]; exact b, fun k hk => by rw [hc k hk]; exact c k hk, fun m hml => ?_⟩
  rw [h3] at hml
  rw [hm m hml]; exact d m hml
theorem ct_X5_tellToFail {fi : FI} {fr : FR} {ai : FI} {ar : FR} {N : Nat} {w lg : Nat → Nat} {E : Nat} (cm : CM fr ar) (iv : Inv w) (hK : K fi ai w lg E) (x y : Int32) : CP mX5_tellToFail 2 0 0 [.ref (rf 5 73), .int x, .int y] fi fr ai ar N (kQ (some (.int (bI (faiB w x y)))) fi fr ai ar N (fun fi ai => K fi ai (if faiB w x y then upN w (7694 + 72 * x.toNatClampNeg + 10) y.toNatClampNeg else w) lg E)) := by
  have h1 := iv_n iv
  have h3 := iv_mm iv
  have bd := Bd_iv iv
  have hF : FR1 fi ai fi ai := FR1_rf
  change EV mX5_tellToFail 2 0 0 0 [some (.ref (rf 5 73)), some (.int x), some (.int y)] [] fi fr ai ar N (kQ (some (.int (bI (faiB w x y)))) fi fr ai ar N (fun fi ai => K fi ai (if faiB w x y then upN w (7694 + 72 * x.toNatClampNeg + 10) y.toNatClampNeg else w) lg E))
  have t99 : (nI 99).toInt = 99 := by decide
  cases hf : faiB w x y with
  | false =>
    rw [if_neg (by decide)]
    cases hx : inR x (w 3) with
    | false =>
      refine e_iload_n dX5_tellToFail_0 rfl rfl ?_
      first | ((with_reducible refine mk_ll ?_); refine m_if_lt (tgt := 36) dX5_tellToFail_1 (by decide) (by omega) (by omega) (fun h1 => ?_) (fun h1 => ?_)) | ((with_reducible refine mk_lc ?_); refine l_if_lt (tgt := 36) dX5_tellToFail_1 (by decide) (fun h1 => ?_) (fun h1 => ?_)) | ((with_reducible refine mk_n ?_); refine n_if_lt (tgt := 36) dX5_tellToFail_1 (by decide) (by omega) (fun h1 => ?_) (fun h1 => ?_)) | refine e_if_lt (tgt := 36) dX5_tellToFail_1 (by decide) (fun h1 => ?_) (fun h1 => ?_)
      · try first | contradiction | omega
        all_goals
          refine e_iconst (v := nI 0) dX5_tellToFail_36 rfl ?_
          first | ((with_reducible refine mk_b ?_); refine e_ret (some _) rfl (r_bool dX5_tellToFail_37 rfl) ?_) | ((with_reducible refine mk_n1 ?_); refine e_ret (some _) rfl (r_b1 dX5_tellToFail_37 rfl) ?_) | ((with_reducible refine mk_n0 ?_); refine e_ret (some _) rfl (r_b0 dX5_tellToFail_37 rfl) ?_)
          exact kq rfl hF hK
      · try first | contradiction | omega
        all_goals
          refine e_iload_n dX5_tellToFail_4 rfl rfl ?_
          refine e_bipush (v := nI 99) dX5_tellToFail_5 rfl ?_
          first | ((with_reducible refine mk_nn ?_); refine n_icmp_gt (tgt := 36) dX5_tellToFail_7 (by decide) (by omega) (by omega) (fun h7 => ?_) (fun h7 => ?_)) | refine e_icmp_gt (tgt := 36) dX5_tellToFail_7 (by decide) (fun h7 => ?_) (fun h7 => ?_)
          · try first | contradiction | omega
            all_goals
              refine e_iconst (v := nI 0) dX5_tellToFail_36 rfl ?_
              first | ((with_reducible refine mk_b ?_); refine e_ret (some _) rfl (r_bool dX5_tellToFail_37 rfl) ?_) | ((with_reducible refine mk_n1 ?_); refine e_ret (some _) rfl (r_b1 dX5_tellToFail_37 rfl) ?_) | ((with_reducible refine mk_n0 ?_); refine e_ret (some _) rfl (r_b0 dX5_tellToFail_37 rfl) ?_)
              exact kq rfl hF hK
          · try first | contradiction | omega
            all_goals
              refine e_aload_n dX5_tellToFail_10 rfl rfl ?_
              refine e_getR dX5_tellToFail_11 fl_X5_9 rfl (cv_w cm) ?_
              refine e_iload_n dX5_tellToFail_14 rfl rfl ?_
              refine x_V1 (M' := mX9_hasMove) dX5_tellToFail_15 ml_X5_174 ok_X9_hasMove (by decide) rfl im_X9_hasMove se_X9_hasMove (ct_X9_hasMove cm iv hK _) (Nat.le_of_ble_eq_true rfl) (by decide) (Nat.le_of_ble_eq_true rfl) ?_
              rw [hx]
              first | ((with_reducible refine mk_b ?_); refine b_if_eq (tgt := 36) dX5_tellToFail_18 (by decide) (fun h18 => ?_) (fun h18 => ?_)) | ((with_reducible refine mk_ll ?_); refine m_if_eq (tgt := 36) dX5_tellToFail_18 (by decide) (by omega) (by omega) (fun h18 => ?_) (fun h18 => ?_)) | ((with_reducible refine mk_lc ?_); refine l_if_eq (tgt := 36) dX5_tellToFail_18 (by decide) (fun h18 => ?_) (fun h18 => ?_)) | ((with_reducible refine mk_n ?_); refine n_if_eq (tgt := 36) dX5_tellToFail_18 (by decide) (by omega) (fun h18 => ?_) (fun h18 => ?_)) | refine e_if_eq (tgt := 36) dX5_tellToFail_18 (by decide) (fun h18 => ?_) (fun h18 => ?_)
              · try first | contradiction | omega | (simp only [decide_eq_true_eq, decide_eq_false_iff_not] at h18; omega)
                all_goals
                  refine e_iconst (v := nI 0) dX5_tellToFail_36 rfl ?_
                  first | ((with_reducible refine mk_b ?_); refine e_ret (some _) rfl (r_bool dX5_tellToFail_37 rfl) ?_) | ((with_reducible refine mk_n1 ?_); refine e_ret (some _) rfl (r_b1 dX5_tellToFail_37 rfl) ?_) | ((with_reducible refine mk_n0 ?_); refine e_ret (some _) rfl (r_b0 dX5_tellToFail_37 rfl) ?_)
                  exact kq rfl hF hK
              · try first | contradiction | omega | (simp only [decide_eq_true_eq, decide_eq_false_iff_not] at h18; omega)
                all_goals
                  contradiction
    | true =>
      obtain ⟨m, hm, hm2, rfl⟩ := inR_ex hx
      refine e_iload_n dX5_tellToFail_0 rfl rfl ?_
      first | ((with_reducible refine mk_ll ?_); refine m_if_lt (tgt := 36) dX5_tellToFail_1 (by decide) (by omega) (by omega) (fun h1 => ?_) (fun h1 => ?_)) | ((with_reducible refine mk_lc ?_); refine l_if_lt (tgt := 36) dX5_tellToFail_1 (by decide) (fun h1 => ?_) (fun h1 => ?_)) | ((with_reducible refine mk_n ?_); refine n_if_lt (tgt := 36) dX5_tellToFail_1 (by decide) (by omega) (fun h1 => ?_) (fun h1 => ?_)) | refine e_if_lt (tgt := 36) dX5_tellToFail_1 (by decide) (fun h1 => ?_) (fun h1 => ?_)
      · try first | contradiction | omega
        all_goals
          refine e_iconst (v := nI 0) dX5_tellToFail_36 rfl ?_
          first | ((with_reducible refine mk_b ?_); refine e_ret (some _) rfl (r_bool dX5_tellToFail_37 rfl) ?_) | ((with_reducible refine mk_n1 ?_); refine e_ret (some _) rfl (r_b1 dX5_tellToFail_37 rfl) ?_) | ((with_reducible refine mk_n0 ?_); refine e_ret (some _) rfl (r_b0 dX5_tellToFail_37 rfl) ?_)
          exact kq rfl hF hK
      · try first | contradiction | omega
        all_goals
          refine e_iload_n dX5_tellToFail_4 rfl rfl ?_
          refine e_bipush (v := nI 99) dX5_tellToFail_5 rfl ?_
          first | ((with_reducible refine mk_nn ?_); refine n_icmp_gt (tgt := 36) dX5_tellToFail_7 (by decide) (by omega) (by omega) (fun h7 => ?_) (fun h7 => ?_)) | refine e_icmp_gt (tgt := 36) dX5_tellToFail_7 (by decide) (fun h7 => ?_) (fun h7 => ?_)
          · try first | contradiction | omega
            all_goals
              refine e_iconst (v := nI 0) dX5_tellToFail_36 rfl ?_
              first | ((with_reducible refine mk_b ?_); refine e_ret (some _) rfl (r_bool dX5_tellToFail_37 rfl) ?_) | ((with_reducible refine mk_n1 ?_); refine e_ret (some _) rfl (r_b1 dX5_tellToFail_37 rfl) ?_) | ((with_reducible refine mk_n0 ?_); refine e_ret (some _) rfl (r_b0 dX5_tellToFail_37 rfl) ?_)
              exact kq rfl hF hK
          · try first | contradiction | omega
            all_goals
              refine e_aload_n dX5_tellToFail_10 rfl rfl ?_
              refine e_getR dX5_tellToFail_11 fl_X5_9 rfl (cv_w cm) ?_
              refine e_iload_n dX5_tellToFail_14 rfl rfl ?_
              refine x_V1 (M' := mX9_hasMove) dX5_tellToFail_15 ml_X5_174 ok_X9_hasMove (by decide) rfl im_X9_hasMove se_X9_hasMove (ct_X9_hasMove cm iv hK _) (Nat.le_of_ble_eq_true rfl) (by decide) (Nat.le_of_ble_eq_true rfl) ?_
              rw [hx]
              first | ((with_reducible refine mk_b ?_); refine b_if_eq (tgt := 36) dX5_tellToFail_18 (by decide) (fun h18 => ?_) (fun h18 => ?_)) | ((with_reducible refine mk_ll ?_); refine m_if_eq (tgt := 36) dX5_tellToFail_18 (by decide) (by omega) (by omega) (fun h18 => ?_) (fun h18 => ?_)) | ((with_reducible refine mk_lc ?_); refine l_if_eq (tgt := 36) dX5_tellToFail_18 (by decide) (fun h18 => ?_) (fun h18 => ?_)) | ((with_reducible refine mk_n ?_); refine n_if_eq (tgt := 36) dX5_tellToFail_18 (by decide) (by omega) (fun h18 => ?_) (fun h18 => ?_)) | refine e_if_eq (tgt := 36) dX5_tellToFail_18 (by decide) (fun h18 => ?_) (fun h18 => ?_)
              · try first | contradiction | omega | (simp only [decide_eq_true_eq, decide_eq_false_iff_not] at h18; omega)
                all_goals
                  refine e_iconst (v := nI 0) dX5_tellToFail_36 rfl ?_
                  first | ((with_reducible refine mk_b ?_); refine e_ret (some _) rfl (r_bool dX5_tellToFail_37 rfl) ?_) | ((with_reducible refine mk_n1 ?_); refine e_ret (some _) rfl (r_b1 dX5_tellToFail_37 rfl) ?_) | ((with_reducible refine mk_n0 ?_); refine e_ret (some _) rfl (r_b0 dX5_tellToFail_37 rfl) ?_)
                  exact kq rfl hF hK
              · try first | contradiction | omega | (simp only [decide_eq_true_eq, decide_eq_false_iff_not] at h18; omega)
                all_goals
                  refine e_aload_n dX5_tellToFail_21 rfl rfl ?_
                  refine e_getR dX5_tellToFail_22 fl_X5_9 rfl (cv_w cm) ?_
                  refine e_getR dX5_tellToFail_25 fl_X5_53 rfl (cm_mvs cm) ?_
                  refine e_iload_n dX5_tellToFail_28 rfl rfl ?_
                  refine e_aald _ dX5_tellToFail_29 ⟨by decide, by decide⟩ rfl rfl (by simp only [lenK]; omega) (cm_mo cm (by omega)) ?_
                  refine x_V0 (M' := mX4_goesOn) dX5_tellToFail_30 ml_X5_75 ok_X4_goesOn (by decide) rfl im_X4_goesOn se_X4_goesOn (ct_X4_goesOn cm iv hK (by omega)) (Nat.le_of_ble_eq_true rfl) (by decide) (Nat.le_of_ble_eq_true rfl) ?_
                  first | ((with_reducible refine mk_b ?_); refine b_if_ne (tgt := 38) dX5_tellToFail_33 (by decide) (fun h33 => ?_) (fun h33 => ?_)) | ((with_reducible refine mk_ll ?_); refine m_if_ne (tgt := 38) dX5_tellToFail_33 (by decide) (by omega) (by omega) (fun h33 => ?_) (fun h33 => ?_)) | ((with_reducible refine mk_lc ?_); refine l_if_ne (tgt := 38) dX5_tellToFail_33 (by decide) (fun h33 => ?_) (fun h33 => ?_)) | ((with_reducible refine mk_n ?_); refine n_if_ne (tgt := 38) dX5_tellToFail_33 (by decide) (by omega) (fun h33 => ?_) (fun h33 => ?_)) | refine e_if_ne (tgt := 38) dX5_tellToFail_33 (by decide) (fun h33 => ?_) (fun h33 => ?_)
                  · try first | contradiction | omega | (simp only [decide_eq_true_eq, decide_eq_false_iff_not] at h33; omega)
                    all_goals
                      exfalso; simp only [Int32.lt_iff_toInt_lt, Int32.le_iff_toInt_le, z_toInt, t99] at *; have : faiB w (nI m) y = true := (by unfold faiB; rw [hx, nI_clamp hm2, h33, show inR y 100 = true from decide_eq_true (by omega)]; rfl); rw [this] at hf; exact absurd hf (by decide)
                  · try first | contradiction | omega | (simp only [decide_eq_true_eq, decide_eq_false_iff_not] at h33; omega)
                    all_goals
                      refine e_iconst (v := nI 0) dX5_tellToFail_36 rfl ?_
                      first | ((with_reducible refine mk_b ?_); refine e_ret (some _) rfl (r_bool dX5_tellToFail_37 rfl) ?_) | ((with_reducible refine mk_n1 ?_); refine e_ret (some _) rfl (r_b1 dX5_tellToFail_37 rfl) ?_) | ((with_reducible refine mk_n0 ?_); refine e_ret (some _) rfl (r_b0 dX5_tellToFail_37 rfl) ?_)
                      exact kq rfl hF hK
  | true =>
    rw [if_pos rfl]
    have hf2 := hf
    unfold faiB at hf2
    simp only [Bool.and_eq_true] at hf2
    obtain ⟨⟨hy, hx⟩, hg⟩ := hf2
    obtain ⟨m, hm, hm2, rfl⟩ := inR_ex hx
    obtain ⟨v, hv, hv2, rfl⟩ := inR_ex hy
    rw [nI_clamp hm2] at hg ⊢
    rw [nI_clamp hv2]
    refine e_iload_n dX5_tellToFail_0 rfl rfl ?_
    first | ((with_reducible refine mk_ll ?_); refine m_if_lt (tgt := 36) dX5_tellToFail_1 (by decide) (by omega) (by omega) (fun h1 => ?_) (fun h1 => ?_)) | ((with_reducible refine mk_lc ?_); refine l_if_lt (tgt := 36) dX5_tellToFail_1 (by decide) (fun h1 => ?_) (fun h1 => ?_)) | ((with_reducible refine mk_n ?_); refine n_if_lt (tgt := 36) dX5_tellToFail_1 (by decide) (by omega) (fun h1 => ?_) (fun h1 => ?_)) | refine e_if_lt (tgt := 36) dX5_tellToFail_1 (by decide) (fun h1 => ?_) (fun h1 => ?_)
    · try first | contradiction | omega
      all_goals
        first | omega | contradiction
    · try first | contradiction | omega
      all_goals
        refine e_iload_n dX5_tellToFail_4 rfl rfl ?_
        refine e_bipush (v := nI 99) dX5_tellToFail_5 rfl ?_
        first | ((with_reducible refine mk_nn ?_); refine n_icmp_gt (tgt := 36) dX5_tellToFail_7 (by decide) (by omega) (by omega) (fun h7 => ?_) (fun h7 => ?_)) | refine e_icmp_gt (tgt := 36) dX5_tellToFail_7 (by decide) (fun h7 => ?_) (fun h7 => ?_)
        · try first | contradiction | omega
          all_goals
            first | omega | contradiction
        · try first | contradiction | omega
          all_goals
            refine e_aload_n dX5_tellToFail_10 rfl rfl ?_
            refine e_getR dX5_tellToFail_11 fl_X5_9 rfl (cv_w cm) ?_
            refine e_iload_n dX5_tellToFail_14 rfl rfl ?_
            refine x_V1 (M' := mX9_hasMove) dX5_tellToFail_15 ml_X5_174 ok_X9_hasMove (by decide) rfl im_X9_hasMove se_X9_hasMove (ct_X9_hasMove cm iv hK _) (Nat.le_of_ble_eq_true rfl) (by decide) (Nat.le_of_ble_eq_true rfl) ?_
            rw [hx]
            first | ((with_reducible refine mk_b ?_); refine b_if_eq (tgt := 36) dX5_tellToFail_18 (by decide) (fun h18 => ?_) (fun h18 => ?_)) | ((with_reducible refine mk_ll ?_); refine m_if_eq (tgt := 36) dX5_tellToFail_18 (by decide) (by omega) (by omega) (fun h18 => ?_) (fun h18 => ?_)) | ((with_reducible refine mk_lc ?_); refine l_if_eq (tgt := 36) dX5_tellToFail_18 (by decide) (fun h18 => ?_) (fun h18 => ?_)) | ((with_reducible refine mk_n ?_); refine n_if_eq (tgt := 36) dX5_tellToFail_18 (by decide) (by omega) (fun h18 => ?_) (fun h18 => ?_)) | refine e_if_eq (tgt := 36) dX5_tellToFail_18 (by decide) (fun h18 => ?_) (fun h18 => ?_)
            · try first | contradiction | omega | (simp only [decide_eq_true_eq, decide_eq_false_iff_not] at h18; omega)
              all_goals
                first | omega | contradiction
            · try first | contradiction | omega | (simp only [decide_eq_true_eq, decide_eq_false_iff_not] at h18; omega)
              all_goals
                refine e_aload_n dX5_tellToFail_21 rfl rfl ?_
                refine e_getR dX5_tellToFail_22 fl_X5_9 rfl (cv_w cm) ?_
                refine e_getR dX5_tellToFail_25 fl_X5_53 rfl (cm_mvs cm) ?_
                refine e_iload_n dX5_tellToFail_28 rfl rfl ?_
                refine e_aald _ dX5_tellToFail_29 ⟨by decide, by decide⟩ rfl rfl (by simp only [lenK]; omega) (cm_mo cm (by omega)) ?_
                refine x_V0 (M' := mX4_goesOn) dX5_tellToFail_30 ml_X5_75 ok_X4_goesOn (by decide) rfl im_X4_goesOn se_X4_goesOn (ct_X4_goesOn cm iv hK (by omega)) (Nat.le_of_ble_eq_true rfl) (by decide) (Nat.le_of_ble_eq_true rfl) ?_
                rw [hg]
                first | ((with_reducible refine mk_b ?_); refine b_if_ne (tgt := 38) dX5_tellToFail_33 (by decide) (fun h33 => ?_) (fun h33 => ?_)) | ((with_reducible refine mk_ll ?_); refine m_if_ne (tgt := 38) dX5_tellToFail_33 (by decide) (by omega) (by omega) (fun h33 => ?_) (fun h33 => ?_)) | ((with_reducible refine mk_lc ?_); refine l_if_ne (tgt := 38) dX5_tellToFail_33 (by decide) (fun h33 => ?_) (fun h33 => ?_)) | ((with_reducible refine mk_n ?_); refine n_if_ne (tgt := 38) dX5_tellToFail_33 (by decide) (by omega) (fun h33 => ?_) (fun h33 => ?_)) | refine e_if_ne (tgt := 38) dX5_tellToFail_33 (by decide) (fun h33 => ?_) (fun h33 => ?_)
                · try first | contradiction | omega | (simp only [decide_eq_true_eq, decide_eq_false_iff_not] at h33; omega)
                  all_goals
                    refine e_aload_n dX5_tellToFail_38 rfl rfl ?_
                    refine e_getR dX5_tellToFail_39 fl_X5_9 rfl (cv_w cm) ?_
                    refine e_getR dX5_tellToFail_42 fl_X5_53 rfl (cm_mvs cm) ?_
                    refine e_iload_n dX5_tellToFail_45 rfl rfl ?_
                    refine e_aald _ dX5_tellToFail_46 ⟨by decide, by decide⟩ rfl rfl (by simp only [lenK]; omega) (cm_mo cm (by omega)) ?_
                    refine e_iload_n dX5_tellToFail_47 rfl rfl ?_
                    refine e_pm (f := 11) (dd := 10) dX5_tellToFail_48 fl_X5_177 (by decide) rfl rfl rfl rfl rfl bd hK (by first | omega | (simp (disch := omega) only [upN_n, upN_s]; omega)) hF (fun fi hF hK => ?_)
                    have bd := Bd_K bd hK (by omega)
                    refine e_iconst (v := nI 1) dX5_tellToFail_51 rfl ?_
                    first | ((with_reducible refine mk_b ?_); refine e_ret (some _) rfl (r_bool dX5_tellToFail_52 rfl) ?_) | ((with_reducible refine mk_n1 ?_); refine e_ret (some _) rfl (r_b1 dX5_tellToFail_52 rfl) ?_) | ((with_reducible refine mk_n0 ?_); refine e_ret (some _) rfl (r_b0 dX5_tellToFail_52 rfl) ?_)
                    exact kq rfl hF hK
                · try first | contradiction | omega | (simp only [decide_eq_true_eq, decide_eq_false_iff_not] at h33; omega)
                  all_goals
                    first | omega | contradiction
theorem ct_X5_takeDown {fi : FI} {fr : FR} {ai : FI} {ar : FR} {N : Nat} {w lg : Nat → Nat} {E : Nat} (cm : CM fr ar) (iv : Inv w) (hK : K fi ai w lg E) (x : Int32) : CP mX5_takeDown 1 0 0 [.ref (rf 5 73), .int x] fi fr ai ar N (kQ (some (.int (dowR w x))) fi fr ai ar N (fun fi ai => K fi ai (dowW w x) lg E)) := by
  have h1 := iv_n iv
  have h3 := iv_mm iv
  have bd := Bd_iv iv
  have hF : FR1 fi ai fi ai := FR1_rf
  change EV mX5_takeDown 1 0 0 0 [some (.ref (rf 5 73)), some (.int x), none, none, none] [] fi fr ai ar N (kQ (some (.int (dowR w x))) fi fr ai ar N (fun fi ai => K fi ai (dowW w x) lg E))
  cases hx : inR x 6 with
  | false =>
    have e0 : dowB w x = false := by unfold dowB; rw [hx]; rfl
    have e1 : dowR w x = -1 := by unfold dowR; rw [e0]; rfl
    have e2 : dowW w x = w := by unfold dowW; rw [e0]; rfl
    rw [e1, e2]
    refine e_iload_n dX5_takeDown_0 rfl rfl ?_
    refine x_N1 (M' := mX10_isServer) dX5_takeDown_1 (List.mem_of_getElem? (i := 8) rfl) ok_X10_isServer sc_X10_isServer (ct_X10_isServer _) (Nat.le_of_ble_eq_true rfl) (by decide) (Nat.le_of_ble_eq_true rfl) ?_
    rw [hx]
    first | ((with_reducible refine mk_b ?_); refine b_if_eq (tgt := 18) dX5_takeDown_4 (by decide) (fun h4 => ?_) (fun h4 => ?_)) | ((with_reducible refine mk_ll ?_); refine m_if_eq (tgt := 18) dX5_takeDown_4 (by decide) (by omega) (by omega) (fun h4 => ?_) (fun h4 => ?_)) | ((with_reducible refine mk_lc ?_); refine l_if_eq (tgt := 18) dX5_takeDown_4 (by decide) (fun h4 => ?_) (fun h4 => ?_)) | ((with_reducible refine mk_n ?_); refine n_if_eq (tgt := 18) dX5_takeDown_4 (by decide) (by omega) (fun h4 => ?_) (fun h4 => ?_)) | refine e_if_eq (tgt := 18) dX5_takeDown_4 (by decide) (fun h4 => ?_) (fun h4 => ?_)
    · try first | contradiction | omega | (simp only [decide_eq_true_eq, decide_eq_false_iff_not] at h4; omega)
      all_goals
        refine e_iconst (v := -1) dX5_takeDown_18 rfl ?_
        refine e_ret (some _) rfl (r_int dX5_takeDown_19 rfl) ?_
        exact kq rfl hF hK
    · try first | contradiction | omega | (simp only [decide_eq_true_eq, decide_eq_false_iff_not] at h4; omega)
      all_goals
        contradiction
  | true =>
    obtain ⟨s, hs, hs2, rfl⟩ := inR_ex hx
    have hb := ubF_bit iv hs
    have hu := iv_up iv hs
    have e0 : dowB w (nI s) = decide (w (4 + s) ≠ 0) := by unfold dowB; rw [hx, nI_clamp hs2]; rfl
    by_cases hz : w (4 + s) = 1
    · have e0 : dowB w (nI s) = true := by rw [e0]; exact decide_eq_true (by omega)
      have e1 : dowR w (nI s) = nI (cnt (dnB w s) (w 3)) := by unfold dowR; rw [e0, nI_clamp hs2]; rfl
      have e2 : dowW w (nI s) = dnF w s (w 3) := by unfold dowW; rw [e0, nI_clamp hs2]; rfl
      have e9 : decide (w (4 + s) = 1) = true := decide_eq_true hz
      rw [e1, e2]
      have key := ev_up (P := fun j => ∀ fi2 ai2 z, FR1 fi ai fi2 ai2 → K fi2 ai2 (dnF w s j) lg E → EV mX5_takeDown 1 0 0 41 [some (.ref (rf 5 73)), some (.int (nI s)), some (.int (nI (cnt (dnB w s) j))), some (.int (nI j)), z] [] fi2 fr ai2 ar N (kQ (some (.int (nI (cnt (dnB w s) (w 3))))) fi fr ai ar N (fun fi ai => K fi ai (dnF w s (w 3)) lg E))) (w 3) (fun j hj ih fi2 ai2 z hF hK => by
        have ivj := dnF_Inv iv hs j (by omega)
        have r3 : dnF w s j 3 = w 3 := dnF_fr (by omega) j (fun m hm => by omega)
        have r : ∀ d, dnF w s j (7694 + 72 * j + d) = w (7694 + 72 * j + d) := fun d => dnF_fr (by omega) j (fun m hm => by omega)
        have gr : goB (dnF w s j) j = goB w j := goB_e (r 0)
        have hq := iv_mv iv hj
        have iv := ivj
        have bd := Bd_iv ivj
        have hd1 : dnF w s (j + 1) = dn1 (dnF w s j) s j := rfl
        have hdB : dnB w s j = (goB w j && (decide (w (7694 + 72 * j + 3) = s) || decide (w (7694 + 72 * j + 4) = s)) && decide (w (7694 + 72 * j + 7) ≠ 1)) := rfl
        have r30 := r 3
        have r40 := r 4
        have r70 := r 7
        have r60 := r 6
        generalize dnF w s j = W at *
        cases hg : goB w j with
        | false =>
          rw [hg] at gr hdB
          refine e_iload_n dX5_takeDown_41 rfl rfl ?_
          refine e_aload_n dX5_takeDown_42 rfl rfl ?_
          refine e_getR dX5_takeDown_43 fl_X5_9 rfl (cv_w cm) ?_
          refine e_getE dX5_takeDown_46 fl_X5_45 rfl (k_mm hK) ?_
          try simp (disch := omega) only [upN_n, upN_s]
          first | ((with_reducible refine mk_nn ?_); refine n_icmp_ge (tgt := 143) dX5_takeDown_49 (by decide) (by omega) (by omega) (fun h49 => ?_) (fun h49 => ?_)) | refine e_icmp_ge (tgt := 143) dX5_takeDown_49 (by decide) (fun h49 => ?_) (fun h49 => ?_)
          · try first | contradiction | omega
            all_goals
              omega
          · try first | contradiction | omega
            all_goals
              refine e_aload_n dX5_takeDown_52 rfl rfl ?_
              refine e_getR dX5_takeDown_53 fl_X5_9 rfl (cv_w cm) ?_
              refine e_getR dX5_takeDown_56 fl_X5_53 rfl (cm_mvs cm) ?_
              refine e_iload_n dX5_takeDown_59 rfl rfl ?_
              refine e_aald _ dX5_takeDown_60 ⟨by decide, by decide⟩ rfl rfl (by simp only [lenK]; omega) (cm_mo cm (by omega)) ?_
              refine e_astore dX5_takeDown_61 (Nat.le_of_ble_eq_true rfl) rfl ?_
              refine e_aload dX5_takeDown_63 rfl ?_
              refine x_V0 (M' := mX4_goesOn) dX5_takeDown_65 ml_X5_75 ok_X4_goesOn (by decide) rfl im_X4_goesOn se_X4_goesOn (ct_X4_goesOn cm iv hK (by omega)) (Nat.le_of_ble_eq_true rfl) (by decide) (Nat.le_of_ble_eq_true rfl) ?_
              rw [gr]
              first | ((with_reducible refine mk_b ?_); refine b_if_eq (tgt := 137) dX5_takeDown_68 (by decide) (fun h68 => ?_) (fun h68 => ?_)) | ((with_reducible refine mk_ll ?_); refine m_if_eq (tgt := 137) dX5_takeDown_68 (by decide) (by omega) (by omega) (fun h68 => ?_) (fun h68 => ?_)) | ((with_reducible refine mk_lc ?_); refine l_if_eq (tgt := 137) dX5_takeDown_68 (by decide) (fun h68 => ?_) (fun h68 => ?_)) | ((with_reducible refine mk_n ?_); refine n_if_eq (tgt := 137) dX5_takeDown_68 (by decide) (by omega) (fun h68 => ?_) (fun h68 => ?_)) | refine e_if_eq (tgt := 137) dX5_takeDown_68 (by decide) (fun h68 => ?_) (fun h68 => ?_)
              · try first | contradiction | omega | (simp only [decide_eq_true_eq, decide_eq_false_iff_not] at h68; omega)
                all_goals
                  first | refine n_inc dX5_takeDown_137 rfl (Nat.le_of_ble_eq_true rfl) rfl ?_ | refine e_iinc dX5_takeDown_137 rfl rfl (Nat.le_of_ble_eq_true rfl) rfl ?_
                  refine e_goto (tgt := 41) dX5_takeDown_140 (by decide) ?_
                  have e : dn1 W s j = W := (by unfold dn1; rw [if_neg (fun q => by rw [gr] at q; exact absurd q.1 (by decide))])
                  rw [hd1, e, cnt_f (n := j) (p := dnB w s) hdB] at ih
                  exact ih _ _ _ hF hK
              · try first | contradiction | omega | (simp only [decide_eq_true_eq, decide_eq_false_iff_not] at h68; omega)
                all_goals
                  contradiction
        | true =>
          rw [hg] at gr hdB
          have hdT : ((w (7694 + 72 * j + 3) = s ∨ w (7694 + 72 * j + 4) = s) ∧ w (7694 + 72 * j + 7) ≠ 1) → dnB w s j = true := fun q => by
            rw [hdB]
            simp only [Bool.true_and, Bool.and_eq_true, Bool.or_eq_true, decide_eq_true_eq]
            exact q
          have hdN : ¬ ((w (7694 + 72 * j + 3) = s ∨ w (7694 + 72 * j + 4) = s) ∧ w (7694 + 72 * j + 7) ≠ 1) → dnB w s j = false := fun q => by
            cases e : dnB w s j with
            | false => rfl
            | true =>
              exfalso
              rw [hdB] at e
              simp only [Bool.true_and, Bool.and_eq_true, Bool.or_eq_true, decide_eq_true_eq] at e
              exact q e
          refine e_iload_n dX5_takeDown_41 rfl rfl ?_
          refine e_aload_n dX5_takeDown_42 rfl rfl ?_
          refine e_getR dX5_takeDown_43 fl_X5_9 rfl (cv_w cm) ?_
          refine e_getE dX5_takeDown_46 fl_X5_45 rfl (k_mm hK) ?_
          try simp (disch := omega) only [upN_n, upN_s]
          first | ((with_reducible refine mk_nn ?_); refine n_icmp_ge (tgt := 143) dX5_takeDown_49 (by decide) (by omega) (by omega) (fun h49 => ?_) (fun h49 => ?_)) | refine e_icmp_ge (tgt := 143) dX5_takeDown_49 (by decide) (fun h49 => ?_) (fun h49 => ?_)
          · try first | contradiction | omega
            all_goals
              omega
          · try first | contradiction | omega
            all_goals
              refine e_aload_n dX5_takeDown_52 rfl rfl ?_
              refine e_getR dX5_takeDown_53 fl_X5_9 rfl (cv_w cm) ?_
              refine e_getR dX5_takeDown_56 fl_X5_53 rfl (cm_mvs cm) ?_
              refine e_iload_n dX5_takeDown_59 rfl rfl ?_
              refine e_aald _ dX5_takeDown_60 ⟨by decide, by decide⟩ rfl rfl (by simp only [lenK]; omega) (cm_mo cm (by omega)) ?_
              refine e_astore dX5_takeDown_61 (Nat.le_of_ble_eq_true rfl) rfl ?_
              refine e_aload dX5_takeDown_63 rfl ?_
              refine x_V0 (M' := mX4_goesOn) dX5_takeDown_65 ml_X5_75 ok_X4_goesOn (by decide) rfl im_X4_goesOn se_X4_goesOn (ct_X4_goesOn cm iv hK (by omega)) (Nat.le_of_ble_eq_true rfl) (by decide) (Nat.le_of_ble_eq_true rfl) ?_
              rw [gr]
              first | ((with_reducible refine mk_b ?_); refine b_if_eq (tgt := 137) dX5_takeDown_68 (by decide) (fun h68 => ?_) (fun h68 => ?_)) | ((with_reducible refine mk_ll ?_); refine m_if_eq (tgt := 137) dX5_takeDown_68 (by decide) (by omega) (by omega) (fun h68 => ?_) (fun h68 => ?_)) | ((with_reducible refine mk_lc ?_); refine l_if_eq (tgt := 137) dX5_takeDown_68 (by decide) (fun h68 => ?_) (fun h68 => ?_)) | ((with_reducible refine mk_n ?_); refine n_if_eq (tgt := 137) dX5_takeDown_68 (by decide) (by omega) (fun h68 => ?_) (fun h68 => ?_)) | refine e_if_eq (tgt := 137) dX5_takeDown_68 (by decide) (fun h68 => ?_) (fun h68 => ?_)
              · try first | contradiction | omega | (simp only [decide_eq_true_eq, decide_eq_false_iff_not] at h68; omega)
                all_goals
                  first | refine n_inc dX5_takeDown_137 rfl (Nat.le_of_ble_eq_true rfl) rfl ?_ | refine e_iinc dX5_takeDown_137 rfl rfl (Nat.le_of_ble_eq_true rfl) rfl ?_
                  refine e_goto (tgt := 41) dX5_takeDown_140 (by decide) ?_
                  rw [hd1] at ih
                  first | (rw [cnt_t (n := j) (p := dnB w s) (hdT (by omega))] at ih; refine ih _ _ _ hF (K_eq hK ?_)) | (rw [cnt_f (n := j) (p := dnB w s) (hdN (by omega))] at ih; refine ih _ _ _ hF (K_eq hK ?_))
                  unfold dn1
                  rw [gr]
                  repeat' split
                  all_goals first | rfl | (exfalso; simp_all; done) | (exfalso; simp_all; omega) | (exfalso; omega)
              · try first | contradiction | omega | (simp only [decide_eq_true_eq, decide_eq_false_iff_not] at h68; omega)
                all_goals
                  refine e_aload dX5_takeDown_71 rfl ?_
                  refine e_getE dX5_takeDown_73 fl_X5_133 rfl (k_m5 hK (by first | omega | (simp (disch := omega) only [upN_n, upN_s]; omega))) ?_
                  try simp (disch := omega) only [upN_n, upN_s]
                  refine e_iload_n dX5_takeDown_76 rfl rfl ?_
                  first | ((with_reducible refine mk_mo ?_); refine p_icmp_eq (tgt := 92) dX5_takeDown_77 (by decide) (fun h77 => ?_) (fun h77 => ?_)) | ((with_reducible refine mk_ms ?_); refine s_icmp_eq (tgt := 92) dX5_takeDown_77 (by decide) (by omega) (fun h77 => ?_) (fun h77 => ?_)) | ((with_reducible refine mk_mn ?_); refine q_icmp_eq (tgt := 92) dX5_takeDown_77 (by decide) (by omega) (fun h77 => ?_) (fun h77 => ?_)) | ((with_reducible refine mk_nn ?_); refine n_icmp_eq (tgt := 92) dX5_takeDown_77 (by decide) (by omega) (by omega) (fun h77 => ?_) (fun h77 => ?_)) | refine e_icmp_eq (tgt := 92) dX5_takeDown_77 (by decide) (fun h77 => ?_) (fun h77 => ?_)
                  · try first | contradiction | omega
                    all_goals
                      refine e_aload dX5_takeDown_92 rfl ?_
                      refine e_getE dX5_takeDown_94 fl_X5_133 rfl (k_m5 hK (by first | omega | (simp (disch := omega) only [upN_n, upN_s]; omega))) ?_
                      try simp (disch := omega) only [upN_n, upN_s]
                      refine e_iload_n dX5_takeDown_97 rfl rfl ?_
                      first | ((with_reducible refine mk_mo ?_); refine p_icmp_ne (tgt := 107) dX5_takeDown_98 (by decide) (fun h98 => ?_) (fun h98 => ?_)) | ((with_reducible refine mk_ms ?_); refine s_icmp_ne (tgt := 107) dX5_takeDown_98 (by decide) (by omega) (fun h98 => ?_) (fun h98 => ?_)) | ((with_reducible refine mk_mn ?_); refine q_icmp_ne (tgt := 107) dX5_takeDown_98 (by decide) (by omega) (fun h98 => ?_) (fun h98 => ?_)) | ((with_reducible refine mk_nn ?_); refine n_icmp_ne (tgt := 107) dX5_takeDown_98 (by decide) (by omega) (by omega) (fun h98 => ?_) (fun h98 => ?_)) | refine e_icmp_ne (tgt := 107) dX5_takeDown_98 (by decide) (fun h98 => ?_) (fun h98 => ?_)
                      · try first | contradiction | omega
                        all_goals
                          refine e_aload dX5_takeDown_107 rfl ?_
                          refine e_getE dX5_takeDown_109 fl_X5_79 rfl (k_m8 hK (by first | omega | (simp (disch := omega) only [upN_n, upN_s]; omega))) ?_
                          try simp (disch := omega) only [upN_n, upN_s]
                          first | ((with_reducible refine mk_b ?_); refine b_if_ne (tgt := 137) dX5_takeDown_112 (by decide) (fun h112 => ?_) (fun h112 => ?_)) | ((with_reducible refine mk_ll ?_); refine m_if_ne (tgt := 137) dX5_takeDown_112 (by decide) (by omega) (by omega) (fun h112 => ?_) (fun h112 => ?_)) | ((with_reducible refine mk_lc ?_); refine l_if_ne (tgt := 137) dX5_takeDown_112 (by decide) (fun h112 => ?_) (fun h112 => ?_)) | ((with_reducible refine mk_n ?_); refine n_if_ne (tgt := 137) dX5_takeDown_112 (by decide) (by omega) (fun h112 => ?_) (fun h112 => ?_)) | refine e_if_ne (tgt := 137) dX5_takeDown_112 (by decide) (fun h112 => ?_) (fun h112 => ?_)
                          · try first | contradiction | omega | (simp only [decide_eq_true_eq, decide_eq_false_iff_not] at h112; omega)
                            all_goals
                              first | refine n_inc dX5_takeDown_137 rfl (Nat.le_of_ble_eq_true rfl) rfl ?_ | refine e_iinc dX5_takeDown_137 rfl rfl (Nat.le_of_ble_eq_true rfl) rfl ?_
                              refine e_goto (tgt := 41) dX5_takeDown_140 (by decide) ?_
                              rw [hd1] at ih
                              first | (rw [cnt_t (n := j) (p := dnB w s) (hdT (by omega))] at ih; refine ih _ _ _ hF (K_eq hK ?_)) | (rw [cnt_f (n := j) (p := dnB w s) (hdN (by omega))] at ih; refine ih _ _ _ hF (K_eq hK ?_))
                              unfold dn1
                              rw [gr]
                              repeat' split
                              all_goals first | rfl | (exfalso; simp_all; done) | (exfalso; simp_all; omega) | (exfalso; omega)
                          · try first | contradiction | omega | (simp only [decide_eq_true_eq, decide_eq_false_iff_not] at h112; omega)
                            all_goals
                              refine e_aload dX5_takeDown_115 rfl ?_
                              refine e_aload dX5_takeDown_117 rfl ?_
                              refine e_getE dX5_takeDown_119 fl_X5_133 rfl (k_m5 hK (by first | omega | (simp (disch := omega) only [upN_n, upN_s]; omega))) ?_
                              try simp (disch := omega) only [upN_n, upN_s]
                              refine e_iload_n dX5_takeDown_122 rfl rfl ?_
                              first | ((with_reducible refine mk_mo ?_); refine p_icmp_ne (tgt := 130) dX5_takeDown_123 (by decide) (fun h123 => ?_) (fun h123 => ?_)) | ((with_reducible refine mk_ms ?_); refine s_icmp_ne (tgt := 130) dX5_takeDown_123 (by decide) (by omega) (fun h123 => ?_) (fun h123 => ?_)) | ((with_reducible refine mk_mn ?_); refine q_icmp_ne (tgt := 130) dX5_takeDown_123 (by decide) (by omega) (fun h123 => ?_) (fun h123 => ?_)) | ((with_reducible refine mk_nn ?_); refine n_icmp_ne (tgt := 130) dX5_takeDown_123 (by decide) (by omega) (by omega) (fun h123 => ?_) (fun h123 => ?_)) | refine e_icmp_ne (tgt := 130) dX5_takeDown_123 (by decide) (fun h123 => ?_) (fun h123 => ?_)
                              · try first | contradiction | omega
                                all_goals
                                  refine e_iconst (v := nI 2) dX5_takeDown_130 rfl ?_
                                  refine ky_V1 (M' := mX4_breakBy) dX5_takeDown_131 ml_X5_110 ok_X4_breakBy (by decide) rfl im_X4_breakBy se_X4_breakBy (ct_X4_breakBy cm bd hK (by first | omega | (rw [upN_n (by omega)]; omega))) (Nat.le_of_ble_eq_true rfl) (by decide) (Nat.le_of_ble_eq_true rfl) (fun fi ai hG hK => ?_)
                                  have hF := FR1_tr hF hG
                                  first | refine n_inc dX5_takeDown_134 rfl (Nat.le_of_ble_eq_true rfl) rfl ?_ | refine e_iinc dX5_takeDown_134 rfl rfl (Nat.le_of_ble_eq_true rfl) rfl ?_
                                  first | refine n_inc dX5_takeDown_137 rfl (Nat.le_of_ble_eq_true rfl) rfl ?_ | refine e_iinc dX5_takeDown_137 rfl rfl (Nat.le_of_ble_eq_true rfl) rfl ?_
                                  refine e_goto (tgt := 41) dX5_takeDown_140 (by decide) ?_
                                  rw [hd1] at ih
                                  first | (rw [cnt_t (n := j) (p := dnB w s) (hdT (by omega))] at ih; refine ih _ _ _ hF (K_eq hK ?_)) | (rw [cnt_f (n := j) (p := dnB w s) (hdN (by omega))] at ih; refine ih _ _ _ hF (K_eq hK ?_))
                                  unfold dn1
                                  rw [gr]
                                  repeat' split
                                  all_goals first | rfl | (exfalso; simp_all; done) | (exfalso; simp_all; omega) | (exfalso; omega)
                              · try first | contradiction | omega
                                all_goals
                                  refine e_iconst (v := nI 1) dX5_takeDown_126 rfl ?_
                                  refine e_goto (tgt := 131) dX5_takeDown_127 (by decide) ?_
                                  refine ky_V1 (M' := mX4_breakBy) dX5_takeDown_131 ml_X5_110 ok_X4_breakBy (by decide) rfl im_X4_breakBy se_X4_breakBy (ct_X4_breakBy cm bd hK (by first | omega | (rw [upN_n (by omega)]; omega))) (Nat.le_of_ble_eq_true rfl) (by decide) (Nat.le_of_ble_eq_true rfl) (fun fi ai hG hK => ?_)
                                  have hF := FR1_tr hF hG
                                  first | refine n_inc dX5_takeDown_134 rfl (Nat.le_of_ble_eq_true rfl) rfl ?_ | refine e_iinc dX5_takeDown_134 rfl rfl (Nat.le_of_ble_eq_true rfl) rfl ?_
                                  first | refine n_inc dX5_takeDown_137 rfl (Nat.le_of_ble_eq_true rfl) rfl ?_ | refine e_iinc dX5_takeDown_137 rfl rfl (Nat.le_of_ble_eq_true rfl) rfl ?_
                                  refine e_goto (tgt := 41) dX5_takeDown_140 (by decide) ?_
                                  rw [hd1] at ih
                                  first | (rw [cnt_t (n := j) (p := dnB w s) (hdT (by omega))] at ih; refine ih _ _ _ hF (K_eq hK ?_)) | (rw [cnt_f (n := j) (p := dnB w s) (hdN (by omega))] at ih; refine ih _ _ _ hF (K_eq hK ?_))
                                  unfold dn1
                                  rw [gr]
                                  repeat' split
                                  all_goals first | rfl | (exfalso; simp_all; done) | (exfalso; simp_all; omega) | (exfalso; omega)
                      · try first | contradiction | omega
                        all_goals
                          refine e_aload dX5_takeDown_101 rfl ?_
                          refine e_iconst (v := nI 0) dX5_takeDown_103 rfl ?_
                          refine e_pt dX5_takeDown_104 fl_X5_121 bd hK (by omega) (by omega) hF (fun fi hF hK => ?_)
                          have bd := Bd_up (q := 7694 + 72 * j + 6) (v := 0) bd (by omega)
                          refine e_aload dX5_takeDown_107 rfl ?_
                          refine e_getE dX5_takeDown_109 fl_X5_79 rfl (k_m8 hK (by first | omega | (simp (disch := omega) only [upN_n, upN_s]; omega))) ?_
                          try simp (disch := omega) only [upN_n, upN_s]
                          first | ((with_reducible refine mk_b ?_); refine b_if_ne (tgt := 137) dX5_takeDown_112 (by decide) (fun h112 => ?_) (fun h112 => ?_)) | ((with_reducible refine mk_ll ?_); refine m_if_ne (tgt := 137) dX5_takeDown_112 (by decide) (by omega) (by omega) (fun h112 => ?_) (fun h112 => ?_)) | ((with_reducible refine mk_lc ?_); refine l_if_ne (tgt := 137) dX5_takeDown_112 (by decide) (fun h112 => ?_) (fun h112 => ?_)) | ((with_reducible refine mk_n ?_); refine n_if_ne (tgt := 137) dX5_takeDown_112 (by decide) (by omega) (fun h112 => ?_) (fun h112 => ?_)) | refine e_if_ne (tgt := 137) dX5_takeDown_112 (by decide) (fun h112 => ?_) (fun h112 => ?_)
                          · try first | contradiction | omega | (simp only [decide_eq_true_eq, decide_eq_false_iff_not] at h112; omega)
                            all_goals
                              first | refine n_inc dX5_takeDown_137 rfl (Nat.le_of_ble_eq_true rfl) rfl ?_ | refine e_iinc dX5_takeDown_137 rfl rfl (Nat.le_of_ble_eq_true rfl) rfl ?_
                              refine e_goto (tgt := 41) dX5_takeDown_140 (by decide) ?_
                              rw [hd1] at ih
                              first | (rw [cnt_t (n := j) (p := dnB w s) (hdT (by omega))] at ih; refine ih _ _ _ hF (K_eq hK ?_)) | (rw [cnt_f (n := j) (p := dnB w s) (hdN (by omega))] at ih; refine ih _ _ _ hF (K_eq hK ?_))
                              unfold dn1
                              rw [gr]
                              repeat' split
                              all_goals first | rfl | (exfalso; simp_all; done) | (exfalso; simp_all; omega) | (exfalso; omega)
                          · try first | contradiction | omega | (simp only [decide_eq_true_eq, decide_eq_false_iff_not] at h112; omega)
                            all_goals
                              refine e_aload dX5_takeDown_115 rfl ?_
                              refine e_aload dX5_takeDown_117 rfl ?_
                              refine e_getE dX5_takeDown_119 fl_X5_133 rfl (k_m5 hK (by first | omega | (simp (disch := omega) only [upN_n, upN_s]; omega))) ?_
                              try simp (disch := omega) only [upN_n, upN_s]
                              refine e_iload_n dX5_takeDown_122 rfl rfl ?_
                              first | ((with_reducible refine mk_mo ?_); refine p_icmp_ne (tgt := 130) dX5_takeDown_123 (by decide) (fun h123 => ?_) (fun h123 => ?_)) | ((with_reducible refine mk_ms ?_); refine s_icmp_ne (tgt := 130) dX5_takeDown_123 (by decide) (by omega) (fun h123 => ?_) (fun h123 => ?_)) | ((with_reducible refine mk_mn ?_); refine q_icmp_ne (tgt := 130) dX5_takeDown_123 (by decide) (by omega) (fun h123 => ?_) (fun h123 => ?_)) | ((with_reducible refine mk_nn ?_); refine n_icmp_ne (tgt := 130) dX5_takeDown_123 (by decide) (by omega) (by omega) (fun h123 => ?_) (fun h123 => ?_)) | refine e_icmp_ne (tgt := 130) dX5_takeDown_123 (by decide) (fun h123 => ?_) (fun h123 => ?_)
                              · try first | contradiction | omega
                                all_goals
                                  refine e_iconst (v := nI 2) dX5_takeDown_130 rfl ?_
                                  refine ky_V1 (M' := mX4_breakBy) dX5_takeDown_131 ml_X5_110 ok_X4_breakBy (by decide) rfl im_X4_breakBy se_X4_breakBy (ct_X4_breakBy cm bd hK (by first | omega | (rw [upN_n (by omega)]; omega))) (Nat.le_of_ble_eq_true rfl) (by decide) (Nat.le_of_ble_eq_true rfl) (fun fi ai hG hK => ?_)
                                  have hF := FR1_tr hF hG
                                  first | refine n_inc dX5_takeDown_134 rfl (Nat.le_of_ble_eq_true rfl) rfl ?_ | refine e_iinc dX5_takeDown_134 rfl rfl (Nat.le_of_ble_eq_true rfl) rfl ?_
                                  first | refine n_inc dX5_takeDown_137 rfl (Nat.le_of_ble_eq_true rfl) rfl ?_ | refine e_iinc dX5_takeDown_137 rfl rfl (Nat.le_of_ble_eq_true rfl) rfl ?_
                                  refine e_goto (tgt := 41) dX5_takeDown_140 (by decide) ?_
                                  rw [hd1] at ih
                                  first | (rw [cnt_t (n := j) (p := dnB w s) (hdT (by omega))] at ih; refine ih _ _ _ hF (K_eq hK ?_)) | (rw [cnt_f (n := j) (p := dnB w s) (hdN (by omega))] at ih; refine ih _ _ _ hF (K_eq hK ?_))
                                  unfold dn1
                                  rw [gr]
                                  repeat' split
                                  all_goals first | rfl | (exfalso; simp_all; done) | (exfalso; simp_all; omega) | (exfalso; omega)
                              · try first | contradiction | omega
                                all_goals
                                  refine e_iconst (v := nI 1) dX5_takeDown_126 rfl ?_
                                  refine e_goto (tgt := 131) dX5_takeDown_127 (by decide) ?_
                                  refine ky_V1 (M' := mX4_breakBy) dX5_takeDown_131 ml_X5_110 ok_X4_breakBy (by decide) rfl im_X4_breakBy se_X4_breakBy (ct_X4_breakBy cm bd hK (by first | omega | (rw [upN_n (by omega)]; omega))) (Nat.le_of_ble_eq_true rfl) (by decide) (Nat.le_of_ble_eq_true rfl) (fun fi ai hG hK => ?_)
                                  have hF := FR1_tr hF hG
                                  first | refine n_inc dX5_takeDown_134 rfl (Nat.le_of_ble_eq_true rfl) rfl ?_ | refine e_iinc dX5_takeDown_134 rfl rfl (Nat.le_of_ble_eq_true rfl) rfl ?_
                                  first | refine n_inc dX5_takeDown_137 rfl (Nat.le_of_ble_eq_true rfl) rfl ?_ | refine e_iinc dX5_takeDown_137 rfl rfl (Nat.le_of_ble_eq_true rfl) rfl ?_
                                  refine e_goto (tgt := 41) dX5_takeDown_140 (by decide) ?_
                                  rw [hd1] at ih
                                  first | (rw [cnt_t (n := j) (p := dnB w s) (hdT (by omega))] at ih; refine ih _ _ _ hF (K_eq hK ?_)) | (rw [cnt_f (n := j) (p := dnB w s) (hdN (by omega))] at ih; refine ih _ _ _ hF (K_eq hK ?_))
                                  unfold dn1
                                  rw [gr]
                                  repeat' split
                                  all_goals first | rfl | (exfalso; simp_all; done) | (exfalso; simp_all; omega) | (exfalso; omega)
                  · try first | contradiction | omega
                    all_goals
                      refine e_aload dX5_takeDown_80 rfl ?_
                      refine e_getE dX5_takeDown_82 fl_X5_140 rfl (k_m6 hK (by first | omega | (simp (disch := omega) only [upN_n, upN_s]; omega))) ?_
                      try simp (disch := omega) only [upN_n, upN_s]
                      refine e_iload_n dX5_takeDown_85 rfl rfl ?_
                      first | ((with_reducible refine mk_mo ?_); refine p_icmp_eq (tgt := 92) dX5_takeDown_86 (by decide) (fun h86 => ?_) (fun h86 => ?_)) | ((with_reducible refine mk_ms ?_); refine s_icmp_eq (tgt := 92) dX5_takeDown_86 (by decide) (by omega) (fun h86 => ?_) (fun h86 => ?_)) | ((with_reducible refine mk_mn ?_); refine q_icmp_eq (tgt := 92) dX5_takeDown_86 (by decide) (by omega) (fun h86 => ?_) (fun h86 => ?_)) | ((with_reducible refine mk_nn ?_); refine n_icmp_eq (tgt := 92) dX5_takeDown_86 (by decide) (by omega) (by omega) (fun h86 => ?_) (fun h86 => ?_)) | refine e_icmp_eq (tgt := 92) dX5_takeDown_86 (by decide) (fun h86 => ?_) (fun h86 => ?_)
                      · try first | contradiction | omega
                        all_goals
                          refine e_aload dX5_takeDown_92 rfl ?_
                          refine e_getE dX5_takeDown_94 fl_X5_133 rfl (k_m5 hK (by first | omega | (simp (disch := omega) only [upN_n, upN_s]; omega))) ?_
                          try simp (disch := omega) only [upN_n, upN_s]
                          refine e_iload_n dX5_takeDown_97 rfl rfl ?_
                          first | ((with_reducible refine mk_mo ?_); refine p_icmp_ne (tgt := 107) dX5_takeDown_98 (by decide) (fun h98 => ?_) (fun h98 => ?_)) | ((with_reducible refine mk_ms ?_); refine s_icmp_ne (tgt := 107) dX5_takeDown_98 (by decide) (by omega) (fun h98 => ?_) (fun h98 => ?_)) | ((with_reducible refine mk_mn ?_); refine q_icmp_ne (tgt := 107) dX5_takeDown_98 (by decide) (by omega) (fun h98 => ?_) (fun h98 => ?_)) | ((with_reducible refine mk_nn ?_); refine n_icmp_ne (tgt := 107) dX5_takeDown_98 (by decide) (by omega) (by omega) (fun h98 => ?_) (fun h98 => ?_)) | refine e_icmp_ne (tgt := 107) dX5_takeDown_98 (by decide) (fun h98 => ?_) (fun h98 => ?_)
                          · try first | contradiction | omega
                            all_goals
                              refine e_aload dX5_takeDown_107 rfl ?_
                              refine e_getE dX5_takeDown_109 fl_X5_79 rfl (k_m8 hK (by first | omega | (simp (disch := omega) only [upN_n, upN_s]; omega))) ?_
                              try simp (disch := omega) only [upN_n, upN_s]
                              first | ((with_reducible refine mk_b ?_); refine b_if_ne (tgt := 137) dX5_takeDown_112 (by decide) (fun h112 => ?_) (fun h112 => ?_)) | ((with_reducible refine mk_ll ?_); refine m_if_ne (tgt := 137) dX5_takeDown_112 (by decide) (by omega) (by omega) (fun h112 => ?_) (fun h112 => ?_)) | ((with_reducible refine mk_lc ?_); refine l_if_ne (tgt := 137) dX5_takeDown_112 (by decide) (fun h112 => ?_) (fun h112 => ?_)) | ((with_reducible refine mk_n ?_); refine n_if_ne (tgt := 137) dX5_takeDown_112 (by decide) (by omega) (fun h112 => ?_) (fun h112 => ?_)) | refine e_if_ne (tgt := 137) dX5_takeDown_112 (by decide) (fun h112 => ?_) (fun h112 => ?_)
                              · try first | contradiction | omega | (simp only [decide_eq_true_eq, decide_eq_false_iff_not] at h112; omega)
                                all_goals
                                  first | refine n_inc dX5_takeDown_137 rfl (Nat.le_of_ble_eq_true rfl) rfl ?_ | refine e_iinc dX5_takeDown_137 rfl rfl (Nat.le_of_ble_eq_true rfl) rfl ?_
                                  refine e_goto (tgt := 41) dX5_takeDown_140 (by decide) ?_
                                  rw [hd1] at ih
                                  first | (rw [cnt_t (n := j) (p := dnB w s) (hdT (by omega))] at ih; refine ih _ _ _ hF (K_eq hK ?_)) | (rw [cnt_f (n := j) (p := dnB w s) (hdN (by omega))] at ih; refine ih _ _ _ hF (K_eq hK ?_))
                                  unfold dn1
                                  rw [gr]
                                  repeat' split
                                  all_goals first | rfl | (exfalso; simp_all; done) | (exfalso; simp_all; omega) | (exfalso; omega)
                              · try first | contradiction | omega | (simp only [decide_eq_true_eq, decide_eq_false_iff_not] at h112; omega)
                                all_goals
                                  refine e_aload dX5_takeDown_115 rfl ?_
                                  refine e_aload dX5_takeDown_117 rfl ?_
                                  refine e_getE dX5_takeDown_119 fl_X5_133 rfl (k_m5 hK (by first | omega | (simp (disch := omega) only [upN_n, upN_s]; omega))) ?_
                                  try simp (disch := omega) only [upN_n, upN_s]
                                  refine e_iload_n dX5_takeDown_122 rfl rfl ?_
                                  first | ((with_reducible refine mk_mo ?_); refine p_icmp_ne (tgt := 130) dX5_takeDown_123 (by decide) (fun h123 => ?_) (fun h123 => ?_)) | ((with_reducible refine mk_ms ?_); refine s_icmp_ne (tgt := 130) dX5_takeDown_123 (by decide) (by omega) (fun h123 => ?_) (fun h123 => ?_)) | ((with_reducible refine mk_mn ?_); refine q_icmp_ne (tgt := 130) dX5_takeDown_123 (by decide) (by omega) (fun h123 => ?_) (fun h123 => ?_)) | ((with_reducible refine mk_nn ?_); refine n_icmp_ne (tgt := 130) dX5_takeDown_123 (by decide) (by omega) (by omega) (fun h123 => ?_) (fun h123 => ?_)) | refine e_icmp_ne (tgt := 130) dX5_takeDown_123 (by decide) (fun h123 => ?_) (fun h123 => ?_)
                                  · try first | contradiction | omega
                                    all_goals
                                      refine e_iconst (v := nI 2) dX5_takeDown_130 rfl ?_
                                      refine ky_V1 (M' := mX4_breakBy) dX5_takeDown_131 ml_X5_110 ok_X4_breakBy (by decide) rfl im_X4_breakBy se_X4_breakBy (ct_X4_breakBy cm bd hK (by first | omega | (rw [upN_n (by omega)]; omega))) (Nat.le_of_ble_eq_true rfl) (by decide) (Nat.le_of_ble_eq_true rfl) (fun fi ai hG hK => ?_)
                                      have hF := FR1_tr hF hG
                                      first | refine n_inc dX5_takeDown_134 rfl (Nat.le_of_ble_eq_true rfl) rfl ?_ | refine e_iinc dX5_takeDown_134 rfl rfl (Nat.le_of_ble_eq_true rfl) rfl ?_
                                      first | refine n_inc dX5_takeDown_137 rfl (Nat.le_of_ble_eq_true rfl) rfl ?_ | refine e_iinc dX5_takeDown_137 rfl rfl (Nat.le_of_ble_eq_true rfl) rfl ?_
                                      refine e_goto (tgt := 41) dX5_takeDown_140 (by decide) ?_
                                      rw [hd1] at ih
                                      first | (rw [cnt_t (n := j) (p := dnB w s) (hdT (by omega))] at ih; refine ih _ _ _ hF (K_eq hK ?_)) | (rw [cnt_f (n := j) (p := dnB w s) (hdN (by omega))] at ih; refine ih _ _ _ hF (K_eq hK ?_))
                                      unfold dn1
                                      rw [gr]
                                      repeat' split
                                      all_goals first | rfl | (exfalso; simp_all; done) | (exfalso; simp_all; omega) | (exfalso; omega)
                                  · try first | contradiction | omega
                                    all_goals
                                      refine e_iconst (v := nI 1) dX5_takeDown_126 rfl ?_
                                      refine e_goto (tgt := 131) dX5_takeDown_127 (by decide) ?_
                                      refine ky_V1 (M' := mX4_breakBy) dX5_takeDown_131 ml_X5_110 ok_X4_breakBy (by decide) rfl im_X4_breakBy se_X4_breakBy (ct_X4_breakBy cm bd hK (by first | omega | (rw [upN_n (by omega)]; omega))) (Nat.le_of_ble_eq_true rfl) (by decide) (Nat.le_of_ble_eq_true rfl) (fun fi ai hG hK => ?_)
                                      have hF := FR1_tr hF hG
                                      first | refine n_inc dX5_takeDown_134 rfl (Nat.le_of_ble_eq_true rfl) rfl ?_ | refine e_iinc dX5_takeDown_134 rfl rfl (Nat.le_of_ble_eq_true rfl) rfl ?_
                                      first | refine n_inc dX5_takeDown_137 rfl (Nat.le_of_ble_eq_true rfl) rfl ?_ | refine e_iinc dX5_takeDown_137 rfl rfl (Nat.le_of_ble_eq_true rfl) rfl ?_
                                      refine e_goto (tgt := 41) dX5_takeDown_140 (by decide) ?_
                                      rw [hd1] at ih
                                      first | (rw [cnt_t (n := j) (p := dnB w s) (hdT (by omega))] at ih; refine ih _ _ _ hF (K_eq hK ?_)) | (rw [cnt_f (n := j) (p := dnB w s) (hdN (by omega))] at ih; refine ih _ _ _ hF (K_eq hK ?_))
                                      unfold dn1
                                      rw [gr]
                                      repeat' split
                                      all_goals first | rfl | (exfalso; simp_all; done) | (exfalso; simp_all; omega) | (exfalso; omega)
                          · try first | contradiction | omega
                            all_goals
                              refine e_aload dX5_takeDown_101 rfl ?_
                              refine e_iconst (v := nI 0) dX5_takeDown_103 rfl ?_
                              refine e_pt dX5_takeDown_104 fl_X5_121 bd hK (by omega) (by omega) hF (fun fi hF hK => ?_)
                              have bd := Bd_up (q := 7694 + 72 * j + 6) (v := 0) bd (by omega)
                              refine e_aload dX5_takeDown_107 rfl ?_
                              refine e_getE dX5_takeDown_109 fl_X5_79 rfl (k_m8 hK (by first | omega | (simp (disch := omega) only [upN_n, upN_s]; omega))) ?_
                              try simp (disch := omega) only [upN_n, upN_s]
                              first | ((with_reducible refine mk_b ?_); refine b_if_ne (tgt := 137) dX5_takeDown_112 (by decide) (fun h112 => ?_) (fun h112 => ?_)) | ((with_reducible refine mk_ll ?_); refine m_if_ne (tgt := 137) dX5_takeDown_112 (by decide) (by omega) (by omega) (fun h112 => ?_) (fun h112 => ?_)) | ((with_reducible refine mk_lc ?_); refine l_if_ne (tgt := 137) dX5_takeDown_112 (by decide) (fun h112 => ?_) (fun h112 => ?_)) | ((with_reducible refine mk_n ?_); refine n_if_ne (tgt := 137) dX5_takeDown_112 (by decide) (by omega) (fun h112 => ?_) (fun h112 => ?_)) | refine e_if_ne (tgt := 137) dX5_takeDown_112 (by decide) (fun h112 => ?_) (fun h112 => ?_)
                              · try first | contradiction | omega | (simp only [decide_eq_true_eq, decide_eq_false_iff_not] at h112; omega)
                                all_goals
                                  first | refine n_inc dX5_takeDown_137 rfl (Nat.le_of_ble_eq_true rfl) rfl ?_ | refine e_iinc dX5_takeDown_137 rfl rfl (Nat.le_of_ble_eq_true rfl) rfl ?_
                                  refine e_goto (tgt := 41) dX5_takeDown_140 (by decide) ?_
                                  rw [hd1] at ih
                                  first | (rw [cnt_t (n := j) (p := dnB w s) (hdT (by omega))] at ih; refine ih _ _ _ hF (K_eq hK ?_)) | (rw [cnt_f (n := j) (p := dnB w s) (hdN (by omega))] at ih; refine ih _ _ _ hF (K_eq hK ?_))
                                  unfold dn1
                                  rw [gr]
                                  repeat' split
                                  all_goals first | rfl | (exfalso; simp_all; done) | (exfalso; simp_all; omega) | (exfalso; omega)
                              · try first | contradiction | omega | (simp only [decide_eq_true_eq, decide_eq_false_iff_not] at h112; omega)
                                all_goals
                                  refine e_aload dX5_takeDown_115 rfl ?_
                                  refine e_aload dX5_takeDown_117 rfl ?_
                                  refine e_getE dX5_takeDown_119 fl_X5_133 rfl (k_m5 hK (by first | omega | (simp (disch := omega) only [upN_n, upN_s]; omega))) ?_
                                  try simp (disch := omega) only [upN_n, upN_s]
                                  refine e_iload_n dX5_takeDown_122 rfl rfl ?_
                                  first | ((with_reducible refine mk_mo ?_); refine p_icmp_ne (tgt := 130) dX5_takeDown_123 (by decide) (fun h123 => ?_) (fun h123 => ?_)) | ((with_reducible refine mk_ms ?_); refine s_icmp_ne (tgt := 130) dX5_takeDown_123 (by decide) (by omega) (fun h123 => ?_) (fun h123 => ?_)) | ((with_reducible refine mk_mn ?_); refine q_icmp_ne (tgt := 130) dX5_takeDown_123 (by decide) (by omega) (fun h123 => ?_) (fun h123 => ?_)) | ((with_reducible refine mk_nn ?_); refine n_icmp_ne (tgt := 130) dX5_takeDown_123 (by decide) (by omega) (by omega) (fun h123 => ?_) (fun h123 => ?_)) | refine e_icmp_ne (tgt := 130) dX5_takeDown_123 (by decide) (fun h123 => ?_) (fun h123 => ?_)
                                  · try first | contradiction | omega
                                    all_goals
                                      refine e_iconst (v := nI 2) dX5_takeDown_130 rfl ?_
                                      refine ky_V1 (M' := mX4_breakBy) dX5_takeDown_131 ml_X5_110 ok_X4_breakBy (by decide) rfl im_X4_breakBy se_X4_breakBy (ct_X4_breakBy cm bd hK (by first | omega | (rw [upN_n (by omega)]; omega))) (Nat.le_of_ble_eq_true rfl) (by decide) (Nat.le_of_ble_eq_true rfl) (fun fi ai hG hK => ?_)
                                      have hF := FR1_tr hF hG
                                      first | refine n_inc dX5_takeDown_134 rfl (Nat.le_of_ble_eq_true rfl) rfl ?_ | refine e_iinc dX5_takeDown_134 rfl rfl (Nat.le_of_ble_eq_true rfl) rfl ?_
                                      first | refine n_inc dX5_takeDown_137 rfl (Nat.le_of_ble_eq_true rfl) rfl ?_ | refine e_iinc dX5_takeDown_137 rfl rfl (Nat.le_of_ble_eq_true rfl) rfl ?_
                                      refine e_goto (tgt := 41) dX5_takeDown_140 (by decide) ?_
                                      rw [hd1] at ih
                                      first | (rw [cnt_t (n := j) (p := dnB w s) (hdT (by omega))] at ih; refine ih _ _ _ hF (K_eq hK ?_)) | (rw [cnt_f (n := j) (p := dnB w s) (hdN (by omega))] at ih; refine ih _ _ _ hF (K_eq hK ?_))
                                      unfold dn1
                                      rw [gr]
                                      repeat' split
                                      all_goals first | rfl | (exfalso; simp_all; done) | (exfalso; simp_all; omega) | (exfalso; omega)
                                  · try first | contradiction | omega
                                    all_goals
                                      refine e_iconst (v := nI 1) dX5_takeDown_126 rfl ?_
                                      refine e_goto (tgt := 131) dX5_takeDown_127 (by decide) ?_
                                      refine ky_V1 (M' := mX4_breakBy) dX5_takeDown_131 ml_X5_110 ok_X4_breakBy (by decide) rfl im_X4_breakBy se_X4_breakBy (ct_X4_breakBy cm bd hK (by first | omega | (rw [upN_n (by omega)]; omega))) (Nat.le_of_ble_eq_true rfl) (by decide) (Nat.le_of_ble_eq_true rfl) (fun fi ai hG hK => ?_)
                                      have hF := FR1_tr hF hG
                                      first | refine n_inc dX5_takeDown_134 rfl (Nat.le_of_ble_eq_true rfl) rfl ?_ | refine e_iinc dX5_takeDown_134 rfl rfl (Nat.le_of_ble_eq_true rfl) rfl ?_
                                      first | refine n_inc dX5_takeDown_137 rfl (Nat.le_of_ble_eq_true rfl) rfl ?_ | refine e_iinc dX5_takeDown_137 rfl rfl (Nat.le_of_ble_eq_true rfl) rfl ?_
                                      refine e_goto (tgt := 41) dX5_takeDown_140 (by decide) ?_
                                      rw [hd1] at ih
                                      first | (rw [cnt_t (n := j) (p := dnB w s) (hdT (by omega))] at ih; refine ih _ _ _ hF (K_eq hK ?_)) | (rw [cnt_f (n := j) (p := dnB w s) (hdN (by omega))] at ih; refine ih _ _ _ hF (K_eq hK ?_))
                                      unfold dn1
                                      rw [gr]
                                      repeat' split
                                      all_goals first | rfl | (exfalso; simp_all; done) | (exfalso; simp_all; omega) | (exfalso; omega)
                      · try first | contradiction | omega
                        all_goals
                          refine e_goto (tgt := 137) dX5_takeDown_89 (by decide) ?_
                          first | refine n_inc dX5_takeDown_137 rfl (Nat.le_of_ble_eq_true rfl) rfl ?_ | refine e_iinc dX5_takeDown_137 rfl rfl (Nat.le_of_ble_eq_true rfl) rfl ?_
                          refine e_goto (tgt := 41) dX5_takeDown_140 (by decide) ?_
                          rw [hd1] at ih
                          first | (rw [cnt_t (n := j) (p := dnB w s) (hdT (by omega))] at ih; refine ih _ _ _ hF (K_eq hK ?_)) | (rw [cnt_f (n := j) (p := dnB w s) (hdN (by omega))] at ih; refine ih _ _ _ hF (K_eq hK ?_))
                          unfold dn1
                          rw [gr]
                          repeat' split
                          all_goals first | rfl | (exfalso; simp_all; done) | (exfalso; simp_all; omega) | (exfalso; omega)
        ) (fun fi2 ai2 z hF hK => by
        have iv := dnF_Inv iv hs (w 3) (Nat.le_refl _)
        have r3 : dnF w s (w 3) 3 = w 3 := dnF_fr (by omega) (w 3) (fun m hm => by omega)
        refine e_iload_n dX5_takeDown_41 rfl rfl ?_
        refine e_aload_n dX5_takeDown_42 rfl rfl ?_
        refine e_getR dX5_takeDown_43 fl_X5_9 rfl (cv_w cm) ?_
        refine e_getE dX5_takeDown_46 fl_X5_45 rfl ((k_mm hK).trans (by rw [r3])) ?_
        try simp (disch := omega) only [upN_n, upN_s]
        first | ((with_reducible refine mk_nn ?_); refine n_icmp_ge (tgt := 143) dX5_takeDown_49 (by decide) (by omega) (by omega) (fun h49 => ?_) (fun h49 => ?_)) | refine e_icmp_ge (tgt := 143) dX5_takeDown_49 (by decide) (fun h49 => ?_) (fun h49 => ?_)
        · try first | contradiction | omega
          all_goals
            refine e_iload_n dX5_takeDown_143 rfl rfl ?_
            refine e_ret (some _) rfl (r_int dX5_takeDown_144 rfl) ?_
            exact kq rfl hF hK
        · try first | contradiction | omega
          all_goals
            omega
        )
      refine e_iload_n dX5_takeDown_0 rfl rfl ?_
      refine x_N1 (M' := mX10_isServer) dX5_takeDown_1 (List.mem_of_getElem? (i := 8) rfl) ok_X10_isServer sc_X10_isServer (ct_X10_isServer _) (Nat.le_of_ble_eq_true rfl) (by decide) (Nat.le_of_ble_eq_true rfl) ?_
      rw [hx]
      first | ((with_reducible refine mk_b ?_); refine b_if_eq (tgt := 18) dX5_takeDown_4 (by decide) (fun h4 => ?_) (fun h4 => ?_)) | ((with_reducible refine mk_ll ?_); refine m_if_eq (tgt := 18) dX5_takeDown_4 (by decide) (by omega) (by omega) (fun h4 => ?_) (fun h4 => ?_)) | ((with_reducible refine mk_lc ?_); refine l_if_eq (tgt := 18) dX5_takeDown_4 (by decide) (fun h4 => ?_) (fun h4 => ?_)) | ((with_reducible refine mk_n ?_); refine n_if_eq (tgt := 18) dX5_takeDown_4 (by decide) (by omega) (fun h4 => ?_) (fun h4 => ?_)) | refine e_if_eq (tgt := 18) dX5_takeDown_4 (by decide) (fun h4 => ?_) (fun h4 => ?_)
      · try first | contradiction | omega | (simp only [decide_eq_true_eq, decide_eq_false_iff_not] at h4; omega)
        all_goals
          contradiction
      · try first | contradiction | omega | (simp only [decide_eq_true_eq, decide_eq_false_iff_not] at h4; omega)
        all_goals
          refine e_aload_n dX5_takeDown_7 rfl rfl ?_
          refine e_getR dX5_takeDown_8 fl_X5_9 rfl (cv_w cm) ?_
          refine e_iload_n dX5_takeDown_11 rfl rfl ?_
          refine x_V1 (M' := mX9_isUp) dX5_takeDown_12 ml_X5_39 ok_X9_isUp (by decide) rfl im_X9_isUp se_X9_isUp (ct_X9_isUp cm iv hK (by omega)) (Nat.le_of_ble_eq_true rfl) (by decide) (Nat.le_of_ble_eq_true rfl) ?_
          rw [e9]
          first | ((with_reducible refine mk_b ?_); refine b_if_ne (tgt := 20) dX5_takeDown_15 (by decide) (fun h15 => ?_) (fun h15 => ?_)) | ((with_reducible refine mk_ll ?_); refine m_if_ne (tgt := 20) dX5_takeDown_15 (by decide) (by omega) (by omega) (fun h15 => ?_) (fun h15 => ?_)) | ((with_reducible refine mk_lc ?_); refine l_if_ne (tgt := 20) dX5_takeDown_15 (by decide) (fun h15 => ?_) (fun h15 => ?_)) | ((with_reducible refine mk_n ?_); refine n_if_ne (tgt := 20) dX5_takeDown_15 (by decide) (by omega) (fun h15 => ?_) (fun h15 => ?_)) | refine e_if_ne (tgt := 20) dX5_takeDown_15 (by decide) (fun h15 => ?_) (fun h15 => ?_)
          · try first | contradiction | omega | (simp only [decide_eq_true_eq, decide_eq_false_iff_not] at h15; omega)
            all_goals
              refine e_aload_n dX5_takeDown_20 rfl rfl ?_
              refine e_getR dX5_takeDown_21 fl_X5_9 rfl (cv_w cm) ?_
              refine e_dup dX5_takeDown_24 rfl ?_
              refine e_getE dX5_takeDown_25 fl_X5_180 rfl (k_up hK) ?_
              try simp (disch := omega) only [upN_n, upN_s]
              refine e_iconst (v := nI 1) dX5_takeDown_28 rfl ?_
              refine e_iload_n dX5_takeDown_29 rfl rfl ?_
              refine e_ishl dX5_takeDown_30 ?_
              refine e_iconst (v := -1) dX5_takeDown_31 rfl ?_
              refine e_ixor dX5_takeDown_32 ?_
              refine e_iand dX5_takeDown_33 ?_
              rw [up_and _ hb.1 _ hs (by omega), ← ub_clr iv hs hz]
              refine e_pup dX5_takeDown_34 fl_X5_180 bd hK hs rfl hF (fun fi hF hK => ?_)
              refine e_iconst (v := nI 0) dX5_takeDown_37 rfl ?_
              refine e_istore_n dX5_takeDown_38 rfl (Nat.le_of_ble_eq_true rfl) rfl ?_
              refine e_iconst (v := nI 0) dX5_takeDown_39 rfl ?_
              refine e_istore_n dX5_takeDown_40 rfl (Nat.le_of_ble_eq_true rfl) rfl ?_
              exact key 0 (by omega) _ _ _ hF hK
          · try first | contradiction | omega | (simp only [decide_eq_true_eq, decide_eq_false_iff_not] at h15; omega)
            all_goals
              contradiction
    · have e0 : dowB w (nI s) = false := by rw [e0]; exact decide_eq_false (by omega)
      have e1 : dowR w (nI s) = -1 := by unfold dowR; rw [e0]; rfl
      have e2 : dowW w (nI s) = w := by unfold dowW; rw [e0]; rfl
      have e9 : decide (w (4 + s) = 1) = false := decide_eq_false hz
      rw [e1, e2]
      refine e_iload_n dX5_takeDown_0 rfl rfl ?_
      refine x_N1 (M' := mX10_isServer) dX5_takeDown_1 (List.mem_of_getElem? (i := 8) rfl) ok_X10_isServer sc_X10_isServer (ct_X10_isServer _) (Nat.le_of_ble_eq_true rfl) (by decide) (Nat.le_of_ble_eq_true rfl) ?_
      rw [hx]
      first | ((with_reducible refine mk_b ?_); refine b_if_eq (tgt := 18) dX5_takeDown_4 (by decide) (fun h4 => ?_) (fun h4 => ?_)) | ((with_reducible refine mk_ll ?_); refine m_if_eq (tgt := 18) dX5_takeDown_4 (by decide) (by omega) (by omega) (fun h4 => ?_) (fun h4 => ?_)) | ((with_reducible refine mk_lc ?_); refine l_if_eq (tgt := 18) dX5_takeDown_4 (by decide) (fun h4 => ?_) (fun h4 => ?_)) | ((with_reducible refine mk_n ?_); refine n_if_eq (tgt := 18) dX5_takeDown_4 (by decide) (by omega) (fun h4 => ?_) (fun h4 => ?_)) | refine e_if_eq (tgt := 18) dX5_takeDown_4 (by decide) (fun h4 => ?_) (fun h4 => ?_)
      · try first | contradiction | omega | (simp only [decide_eq_true_eq, decide_eq_false_iff_not] at h4; omega)
        all_goals
          refine e_iconst (v := -1) dX5_takeDown_18 rfl ?_
          refine e_ret (some _) rfl (r_int dX5_takeDown_19 rfl) ?_
          exact kq rfl hF hK
      · try first | contradiction | omega | (simp only [decide_eq_true_eq, decide_eq_false_iff_not] at h4; omega)
        all_goals
          refine e_aload_n dX5_takeDown_7 rfl rfl ?_
          refine e_getR dX5_takeDown_8 fl_X5_9 rfl (cv_w cm) ?_
          refine e_iload_n dX5_takeDown_11 rfl rfl ?_
          refine x_V1 (M' := mX9_isUp) dX5_takeDown_12 ml_X5_39 ok_X9_isUp (by decide) rfl im_X9_isUp se_X9_isUp (ct_X9_isUp cm iv hK (by omega)) (Nat.le_of_ble_eq_true rfl) (by decide) (Nat.le_of_ble_eq_true rfl) ?_
          rw [e9]
          first | ((with_reducible refine mk_b ?_); refine b_if_ne (tgt := 20) dX5_takeDown_15 (by decide) (fun h15 => ?_) (fun h15 => ?_)) | ((with_reducible refine mk_ll ?_); refine m_if_ne (tgt := 20) dX5_takeDown_15 (by decide) (by omega) (by omega) (fun h15 => ?_) (fun h15 => ?_)) | ((with_reducible refine mk_lc ?_); refine l_if_ne (tgt := 20) dX5_takeDown_15 (by decide) (fun h15 => ?_) (fun h15 => ?_)) | ((with_reducible refine mk_n ?_); refine n_if_ne (tgt := 20) dX5_takeDown_15 (by decide) (by omega) (fun h15 => ?_) (fun h15 => ?_)) | refine e_if_ne (tgt := 20) dX5_takeDown_15 (by decide) (fun h15 => ?_) (fun h15 => ?_)
          · try first | contradiction | omega | (simp only [decide_eq_true_eq, decide_eq_false_iff_not] at h15; omega)
            all_goals
              contradiction
          · try first | contradiction | omega | (simp only [decide_eq_true_eq, decide_eq_false_iff_not] at h15; omega)
            all_goals
              refine e_iconst (v := -1) dX5_takeDown_18 rfl ?_
              refine e_ret (some _) rfl (r_int dX5_takeDown_19 rfl) ?_
              exact kq rfl hF hK
theorem ct_X5_endAs {fi : FI} {fr : FR} {ai : FI} {ar : FR} {N : Nat} {w lg : Nat → Nat} {E : Nat} (cm : CM fr ar) (bd : Bd w) (hK : K fi ai w lg E) {m st : Nat} (hm : m < w 3) (hst : st = 5 ∨ st = 6) : CP mX5_endAs 1 0 0 [.ref (rf 5 73), .ref (rf 4 (34 + 2 * m)), .int (nI st)] fi fr ai ar N (kQ (none) fi fr ai ar N (fun fi ai => K fi ai (upN (upN w (7694 + 72 * m + 0) st) (8558 + (if st = 5 then 9 else 10)) (w (8558 + (if st = 5 then 9 else 10)) + 1)) lg E)) := by
  have h1 := bd.1
  have h3 := bd.2.1
  have hF : FR1 fi ai fi ai := FR1_rf
  change EV mX5_endAs 1 0 0 0 [some (.ref (rf 5 73)), some (.ref (rf 4 (34 + 2 * m))), some (.int (nI st))] [] fi fr ai ar N (kQ (none) fi fr ai ar N (fun fi ai => K fi ai (upN (upN w (7694 + 72 * m + 0) st) (8558 + (if st = 5 then 9 else 10)) (w (8558 + (if st = 5 then 9 else 10)) + 1)) lg E))
  refine e_aload_n dX5_endAs_0 rfl rfl ?_
  refine e_iload_n dX5_endAs_1 rfl rfl ?_
  refine e_pm (f := 2) (dd := 0) dX5_endAs_2 fl_X5_87 (by decide) rfl rfl rfl rfl rfl bd hK (by first | omega | (simp (disch := omega) only [upN_n, upN_s]; omega)) hF (fun fi hF hK => ?_)
  have bd := Bd_K bd hK (by omega)
  refine e_aload_n dX5_endAs_5 rfl rfl ?_
  refine e_getR dX5_endAs_6 fl_X5_15 rfl (cv_l cm) ?_
  refine e_iload_n dX5_endAs_9 rfl rfl ?_
  refine e_iconst (v := nI 5) dX5_endAs_10 rfl ?_
  first | ((with_reducible refine mk_mo ?_); refine p_icmp_ne (tgt := 19) dX5_endAs_11 (by decide) (fun h11 => ?_) (fun h11 => ?_)) | ((with_reducible refine mk_ms ?_); refine s_icmp_ne (tgt := 19) dX5_endAs_11 (by decide) (by omega) (fun h11 => ?_) (fun h11 => ?_)) | ((with_reducible refine mk_mn ?_); refine q_icmp_ne (tgt := 19) dX5_endAs_11 (by decide) (by omega) (fun h11 => ?_) (fun h11 => ?_)) | ((with_reducible refine mk_nn ?_); refine n_icmp_ne (tgt := 19) dX5_endAs_11 (by decide) (by omega) (by omega) (fun h11 => ?_) (fun h11 => ?_)) | refine e_icmp_ne (tgt := 19) dX5_endAs_11 (by decide) (fun h11 => ?_) (fun h11 => ?_)
  · try first | contradiction | omega
    all_goals
      refine e_bipush (v := nI 10) dX5_endAs_19 rfl ?_
      refine e_iconst (v := nI 1) dX5_endAs_21 rfl ?_
      refine ky_V2 (M' := mX3_add) dX5_endAs_22 ml_X5_66 ok_X3_add (by decide) rfl im_X3_add se_X3_add (ct_X3_add cm bd hK (by omega)) (Nat.le_of_ble_eq_true rfl) (by decide) (Nat.le_of_ble_eq_true rfl) (fun fi ai hG hK => ?_)
      have hF := FR1_tr hF hG
      refine e_ret none rfl (r_void dX5_endAs_25 rfl) ?_
      refine kq rfl hF (K_eq hK ?_)
      first | (rw [if_pos (by omega), upN_n (by omega)]; done) | (rw [if_neg (by omega), upN_n (by omega)]; done)
  · try first | contradiction | omega
    all_goals
      refine e_bipush (v := nI 9) dX5_endAs_14 rfl ?_
      refine e_goto (tgt := 21) dX5_endAs_16 (by decide) ?_
      refine e_iconst (v := nI 1) dX5_endAs_21 rfl ?_
      refine ky_V2 (M' := mX3_add) dX5_endAs_22 ml_X5_66 ok_X3_add (by decide) rfl im_X3_add se_X3_add (ct_X3_add cm bd hK (by omega)) (Nat.le_of_ble_eq_true rfl) (by decide) (Nat.le_of_ble_eq_true rfl) (fun fi ai hG hK => ?_)
      have hF := FR1_tr hF hG
      refine e_ret none rfl (r_void dX5_endAs_25 rfl) ?_
      refine kq rfl hF (K_eq hK ?_)
      first | (rw [if_pos (by omega), upN_n (by omega)]; done) | (rw [if_neg (by omega), upN_n (by omega)]; done)
theorem ct_X5_turnBack {fi : FI} {fr : FR} {ai : FI} {ar : FR} {N : Nat} {w lg : Nat → Nat} {E : Nat} (cm : CM fr ar) (bd : Bd w) (hK : K fi ai w lg E) {m : Nat} (hm : m < w 3) (hlo : w (7694 + 72 * m + 1) ≤ w (7694 + 72 * m + 2)) (hen : w (7694 + 72 * m + 2) ≤ 1000) (hto : w (7694 + 72 * m + 4) < 6) : CP mX5_turnBack 2 0 0 [.ref (rf 5 73), .ref (rf 4 (34 + 2 * m))] fi fr ai ar N (kQ (none) fi fr ai ar N (fun fi ai => K fi ai (upN (upN (losW w m (w (7694 + 72 * m + 4))) (7694 + 72 * m + 0) 6) (8558 + 10) (w (8558 + 10) + 1)) lg E)) := by
  have h1 := bd.1
  have h3 := bd.2.1
  have hF : FR1 fi ai fi ai := FR1_rf
  change EV mX5_turnBack 2 0 0 0 [some (.ref (rf 5 73)), some (.ref (rf 4 (34 + 2 * m)))] [] fi fr ai ar N (kQ (none) fi fr ai ar N (fun fi ai => K fi ai (upN (upN (losW w m (w (7694 + 72 * m + 4))) (7694 + 72 * m + 0) 6) (8558 + 10) (w (8558 + 10) + 1)) lg E))
  have g : ∀ q, q < 1106 ∨ 7106 ≤ q → loF w (1106 + 1000 * w (7694 + 72 * m + 4) + w (7694 + 72 * m + 1)) (w (7694 + 72 * m + 2) - w (7694 + 72 * m + 1)) q = w q := fun q hq => loF_fr (by omega)
  refine e_aload_n dX5_turnBack_0 rfl rfl ?_
  refine e_getR dX5_turnBack_1 fl_X5_9 rfl (cv_w cm) ?_
  refine e_aload_n dX5_turnBack_4 rfl rfl ?_
  refine e_getE dX5_turnBack_5 fl_X5_140 rfl (k_m6 hK (by first | omega | (simp (disch := omega) only [upN_n, upN_s]; omega))) ?_
  refine e_aload_n dX5_turnBack_8 rfl rfl ?_
  refine e_getE dX5_turnBack_9 fl_X5_158 rfl (k_m3 hK (by first | omega | (simp (disch := omega) only [upN_n, upN_s]; omega))) ?_
  refine e_aload_n dX5_turnBack_12 rfl rfl ?_
  refine e_getE dX5_turnBack_13 fl_X5_124 rfl (k_m4 hK (by first | omega | (simp (disch := omega) only [upN_n, upN_s]; omega))) ?_
  refine ky_V3 (M' := mX9_loseValues) dX5_turnBack_16 ml_X5_187 ok_X9_loseValues (by decide) rfl im_X9_loseValues se_X9_loseValues (ct_X9_loseValues cm bd hK (by omega) (by omega) (by omega)) (Nat.le_of_ble_eq_true rfl) (by decide) (Nat.le_of_ble_eq_true rfl) (fun fi ai hG hK => ?_)
  have hF := FR1_tr hF hG
  have bd := Bd_fr (w := w) (fun q hq => g q (by omega)) bd
  have hm := (show m < loF w (1106 + 1000 * w (7694 + 72 * m + 4) + w (7694 + 72 * m + 1)) (w (7694 + 72 * m + 2) - w (7694 + 72 * m + 1)) 3 by rw [g 3 (by omega)]; exact hm)
  refine e_aload_n dX5_turnBack_19 rfl rfl ?_
  refine e_aload_n dX5_turnBack_20 rfl rfl ?_
  refine e_bipush (v := nI 6) dX5_turnBack_21 rfl ?_
  refine ky_V2 (M' := mX5_endAs) dX5_turnBack_23 ml_X5_130 ok_X5_endAs (by decide) rfl im_X5_endAs se_X5_endAs (ct_X5_endAs cm bd hK (by omega) (by omega)) (Nat.le_of_ble_eq_true rfl) (by decide) (Nat.le_of_ble_eq_true rfl) (fun fi ai hG hK => ?_)
  have hF := FR1_tr hF hG
  refine e_ret none rfl (r_void dX5_turnBack_26 rfl) ?_
  refine kq rfl hF (K_eq hK ?_)
  rw [if_neg (by omega), g _ (by omega)]; rfl
theorem ct_X5_mend {fi : FI} {fr : FR} {ai : FI} {ar : FR} {N : Nat} {w lg : Nat → Nat} {E : Nat} (cm : CM fr ar) (iv : Inv w) (hK : K fi ai w lg E) (i2 : Inv2 w) (x : Int32) : CP mX5_mend 3 0 0 [.ref (rf 5 73), .int x] fi fr ai ar N (kQ (some (.int (if recB w x then nI (endS w x.toNatClampNeg) else -1))) fi fr ai ar N (fun fi ai => K fi ai (if recB w x then endW w x.toNatClampNeg else w) lg E)) := by
  have h1 := iv_n iv
  have h3 := iv_mm iv
  have bd := Bd_iv iv
  have hF : FR1 fi ai fi ai := FR1_rf
  change EV mX5_mend 3 0 0 0 [some (.ref (rf 5 73)), some (.int x), none] [] fi fr ai ar N (kQ (some (.int (if recB w x then nI (endS w x.toNatClampNeg) else -1))) fi fr ai ar N (fun fi ai => K fi ai (if recB w x then endW w x.toNatClampNeg else w) lg E))
  cases hx : inR x (w 3) with
  | false =>
    have e : recB w x = false := by unfold recB; rw [hx]; rfl
    rw [e, if_neg (by decide), if_neg (by decide)]
    refine e_aload_n dX5_mend_0 rfl rfl ?_
    refine e_getR dX5_mend_1 fl_X5_9 rfl (cv_w cm) ?_
    refine e_iload_n dX5_mend_4 rfl rfl ?_
    refine x_V1 (M' := mX9_hasMove) dX5_mend_5 ml_X5_174 ok_X9_hasMove (by decide) rfl im_X9_hasMove se_X9_hasMove (ct_X9_hasMove cm iv hK _) (Nat.le_of_ble_eq_true rfl) (by decide) (Nat.le_of_ble_eq_true rfl) ?_
    rw [hx]
    first | ((with_reducible refine mk_b ?_); refine b_if_eq (tgt := 45) dX5_mend_8 (by decide) (fun h8 => ?_) (fun h8 => ?_)) | ((with_reducible refine mk_ll ?_); refine m_if_eq (tgt := 45) dX5_mend_8 (by decide) (by omega) (by omega) (fun h8 => ?_) (fun h8 => ?_)) | ((with_reducible refine mk_lc ?_); refine l_if_eq (tgt := 45) dX5_mend_8 (by decide) (fun h8 => ?_) (fun h8 => ?_)) | ((with_reducible refine mk_n ?_); refine n_if_eq (tgt := 45) dX5_mend_8 (by decide) (by omega) (fun h8 => ?_) (fun h8 => ?_)) | refine e_if_eq (tgt := 45) dX5_mend_8 (by decide) (fun h8 => ?_) (fun h8 => ?_)
    · try first | contradiction | omega | (simp only [decide_eq_true_eq, decide_eq_false_iff_not] at h8; omega)
      all_goals
        refine e_iconst (v := -1) dX5_mend_45 rfl ?_
        refine e_ret (some _) rfl (r_int dX5_mend_46 rfl) ?_
        exact kq rfl hF hK
    · try first | contradiction | omega | (simp only [decide_eq_true_eq, decide_eq_false_iff_not] at h8; omega)
      all_goals
        contradiction
  | true =>
    obtain ⟨m, hm, hm2, rfl⟩ := inR_ex hx
    have hq := iv_mv iv hm
    have h2 := (i2.2.1 m hm).2.2.2.1
    rw [nI_clamp hm2]
    have er : recB w (nI m) = (goB w m && decide (w (7694 + 72 * m + 7) ≠ 0) && auB w m) := by unfold recB; rw [hx, nI_clamp hm2]; rfl
    cases hr : recB w (nI m) with
    | false =>
      rw [if_neg (by decide), if_neg (by decide)]
      rw [hr] at er
      refine e_aload_n dX5_mend_0 rfl rfl ?_
      refine e_getR dX5_mend_1 fl_X5_9 rfl (cv_w cm) ?_
      refine e_iload_n dX5_mend_4 rfl rfl ?_
      refine x_V1 (M' := mX9_hasMove) dX5_mend_5 ml_X5_174 ok_X9_hasMove (by decide) rfl im_X9_hasMove se_X9_hasMove (ct_X9_hasMove cm iv hK _) (Nat.le_of_ble_eq_true rfl) (by decide) (Nat.le_of_ble_eq_true rfl) ?_
      rw [hx]
      first | ((with_reducible refine mk_b ?_); refine b_if_eq (tgt := 45) dX5_mend_8 (by decide) (fun h8 => ?_) (fun h8 => ?_)) | ((with_reducible refine mk_ll ?_); refine m_if_eq (tgt := 45) dX5_mend_8 (by decide) (by omega) (by omega) (fun h8 => ?_) (fun h8 => ?_)) | ((with_reducible refine mk_lc ?_); refine l_if_eq (tgt := 45) dX5_mend_8 (by decide) (fun h8 => ?_) (fun h8 => ?_)) | ((with_reducible refine mk_n ?_); refine n_if_eq (tgt := 45) dX5_mend_8 (by decide) (by omega) (fun h8 => ?_) (fun h8 => ?_)) | refine e_if_eq (tgt := 45) dX5_mend_8 (by decide) (fun h8 => ?_) (fun h8 => ?_)
      · try first | contradiction | omega | (simp only [decide_eq_true_eq, decide_eq_false_iff_not] at h8; omega)
        all_goals
          refine e_iconst (v := -1) dX5_mend_45 rfl ?_
          refine e_ret (some _) rfl (r_int dX5_mend_46 rfl) ?_
          exact kq rfl hF hK
      · try first | contradiction | omega | (simp only [decide_eq_true_eq, decide_eq_false_iff_not] at h8; omega)
        all_goals
          refine e_aload_n dX5_mend_11 rfl rfl ?_
          refine e_getR dX5_mend_12 fl_X5_9 rfl (cv_w cm) ?_
          refine e_getR dX5_mend_15 fl_X5_53 rfl (cm_mvs cm) ?_
          refine e_iload_n dX5_mend_18 rfl rfl ?_
          refine e_aald _ dX5_mend_19 ⟨by decide, by decide⟩ rfl rfl (by simp only [lenK]; omega) (cm_mo cm (by omega)) ?_
          refine e_getE dX5_mend_20 fl_X5_79 rfl (k_m8 hK (by first | omega | (simp (disch := omega) only [upN_n, upN_s]; omega))) ?_
          first | ((with_reducible refine mk_b ?_); refine b_if_eq (tgt := 45) dX5_mend_23 (by decide) (fun h23 => ?_) (fun h23 => ?_)) | ((with_reducible refine mk_ll ?_); refine m_if_eq (tgt := 45) dX5_mend_23 (by decide) (by omega) (by omega) (fun h23 => ?_) (fun h23 => ?_)) | ((with_reducible refine mk_lc ?_); refine l_if_eq (tgt := 45) dX5_mend_23 (by decide) (fun h23 => ?_) (fun h23 => ?_)) | ((with_reducible refine mk_n ?_); refine n_if_eq (tgt := 45) dX5_mend_23 (by decide) (by omega) (fun h23 => ?_) (fun h23 => ?_)) | refine e_if_eq (tgt := 45) dX5_mend_23 (by decide) (fun h23 => ?_) (fun h23 => ?_)
          · try first | contradiction | omega | (simp only [decide_eq_true_eq, decide_eq_false_iff_not] at h23; omega)
            all_goals
              refine e_iconst (v := -1) dX5_mend_45 rfl ?_
              refine e_ret (some _) rfl (r_int dX5_mend_46 rfl) ?_
              exact kq rfl hF hK
          · try first | contradiction | omega | (simp only [decide_eq_true_eq, decide_eq_false_iff_not] at h23; omega)
            all_goals
              refine e_aload_n dX5_mend_26 rfl rfl ?_
              refine e_getR dX5_mend_27 fl_X5_9 rfl (cv_w cm) ?_
              refine e_aload_n dX5_mend_30 rfl rfl ?_
              refine e_getR dX5_mend_31 fl_X5_9 rfl (cv_w cm) ?_
              refine e_getR dX5_mend_34 fl_X5_53 rfl (cm_mvs cm) ?_
              refine e_iload_n dX5_mend_37 rfl rfl ?_
              refine e_aald _ dX5_mend_38 ⟨by decide, by decide⟩ rfl rfl (by simp only [lenK]; omega) (cm_mo cm (by omega)) ?_
              refine x_V1 (M' := mX9_bothUp) dX5_mend_39 ml_X5_183 ok_X9_bothUp (by decide) rfl im_X9_bothUp se_X9_bothUp (ct_X9_bothUp cm iv hK (by omega)) (Nat.le_of_ble_eq_true rfl) (by decide) (Nat.le_of_ble_eq_true rfl) ?_
              first | ((with_reducible refine mk_b ?_); refine b_if_ne (tgt := 47) dX5_mend_42 (by decide) (fun h42 => ?_) (fun h42 => ?_)) | ((with_reducible refine mk_ll ?_); refine m_if_ne (tgt := 47) dX5_mend_42 (by decide) (by omega) (by omega) (fun h42 => ?_) (fun h42 => ?_)) | ((with_reducible refine mk_lc ?_); refine l_if_ne (tgt := 47) dX5_mend_42 (by decide) (fun h42 => ?_) (fun h42 => ?_)) | ((with_reducible refine mk_n ?_); refine n_if_ne (tgt := 47) dX5_mend_42 (by decide) (by omega) (fun h42 => ?_) (fun h42 => ?_)) | refine e_if_ne (tgt := 47) dX5_mend_42 (by decide) (fun h42 => ?_) (fun h42 => ?_)
              · try first | contradiction | omega | (simp only [decide_eq_true_eq, decide_eq_false_iff_not] at h42; omega)
                all_goals
                  exfalso; have hg := h2 (by omega); rw [hg, h42, decide_eq_true (show w (7694 + 72 * m + 7) ≠ 0 by omega)] at er; exact absurd er (by decide)
              · try first | contradiction | omega | (simp only [decide_eq_true_eq, decide_eq_false_iff_not] at h42; omega)
                all_goals
                  refine e_iconst (v := -1) dX5_mend_45 rfl ?_
                  refine e_ret (some _) rfl (r_int dX5_mend_46 rfl) ?_
                  exact kq rfl hF hK
    | true =>
      rw [if_pos rfl, if_pos rfl]
      rw [hr] at er
      have er := er.symm
      simp only [Bool.and_eq_true, decide_eq_true_eq] at er
      obtain ⟨⟨hg, hbr⟩, hau⟩ := er
      have hg1 := goB_e1 hg
      by_cases h4 : w (7694 + 72 * m + 0) = 4
      · have e1 : endS w m = 5 := by unfold endS; rw [if_neg (by omega)]
        have e2 : upN (upN (loF (upN w (7694 + 72 * m + 7) 0) (1106 + 1000 * w (7694 + 72 * m + 3) + w (7694 + 72 * m + 1)) (w (7694 + 72 * m + 2) - w (7694 + 72 * m + 1))) (7694 + 72 * m + 0) 5) (8558 + 9) (w (8558 + 9) + 1) = endW w m := by
          unfold endW losW
          rw [e1, if_neg (by omega), if_neg (by omega), lo_up (by omega), upN_cm (a := 7694 + 72 * m + 7) (b := 7694 + 72 * m + 0) (by omega)]
        rw [e1]
        refine e_aload_n dX5_mend_0 rfl rfl ?_
        refine e_getR dX5_mend_1 fl_X5_9 rfl (cv_w cm) ?_
        refine e_iload_n dX5_mend_4 rfl rfl ?_
        refine x_V1 (M' := mX9_hasMove) dX5_mend_5 ml_X5_174 ok_X9_hasMove (by decide) rfl im_X9_hasMove se_X9_hasMove (ct_X9_hasMove cm iv hK _) (Nat.le_of_ble_eq_true rfl) (by decide) (Nat.le_of_ble_eq_true rfl) ?_
        rw [hx]
        first | ((with_reducible refine mk_b ?_); refine b_if_eq (tgt := 45) dX5_mend_8 (by decide) (fun h8 => ?_) (fun h8 => ?_)) | ((with_reducible refine mk_ll ?_); refine m_if_eq (tgt := 45) dX5_mend_8 (by decide) (by omega) (by omega) (fun h8 => ?_) (fun h8 => ?_)) | ((with_reducible refine mk_lc ?_); refine l_if_eq (tgt := 45) dX5_mend_8 (by decide) (fun h8 => ?_) (fun h8 => ?_)) | ((with_reducible refine mk_n ?_); refine n_if_eq (tgt := 45) dX5_mend_8 (by decide) (by omega) (fun h8 => ?_) (fun h8 => ?_)) | refine e_if_eq (tgt := 45) dX5_mend_8 (by decide) (fun h8 => ?_) (fun h8 => ?_)
        · try first | contradiction | omega | (simp only [decide_eq_true_eq, decide_eq_false_iff_not] at h8; omega)
          all_goals
            first | omega | contradiction
        · try first | contradiction | omega | (simp only [decide_eq_true_eq, decide_eq_false_iff_not] at h8; omega)
          all_goals
            refine e_aload_n dX5_mend_11 rfl rfl ?_
            refine e_getR dX5_mend_12 fl_X5_9 rfl (cv_w cm) ?_
            refine e_getR dX5_mend_15 fl_X5_53 rfl (cm_mvs cm) ?_
            refine e_iload_n dX5_mend_18 rfl rfl ?_
            refine e_aald _ dX5_mend_19 ⟨by decide, by decide⟩ rfl rfl (by simp only [lenK]; omega) (cm_mo cm (by omega)) ?_
            refine e_getE dX5_mend_20 fl_X5_79 rfl (k_m8 hK (by first | omega | (simp (disch := omega) only [upN_n, upN_s]; omega))) ?_
            try simp (disch := omega) only [upN_n, upN_s]
            first | ((with_reducible refine mk_b ?_); refine b_if_eq (tgt := 45) dX5_mend_23 (by decide) (fun h23 => ?_) (fun h23 => ?_)) | ((with_reducible refine mk_ll ?_); refine m_if_eq (tgt := 45) dX5_mend_23 (by decide) (by omega) (by omega) (fun h23 => ?_) (fun h23 => ?_)) | ((with_reducible refine mk_lc ?_); refine l_if_eq (tgt := 45) dX5_mend_23 (by decide) (fun h23 => ?_) (fun h23 => ?_)) | ((with_reducible refine mk_n ?_); refine n_if_eq (tgt := 45) dX5_mend_23 (by decide) (by omega) (fun h23 => ?_) (fun h23 => ?_)) | refine e_if_eq (tgt := 45) dX5_mend_23 (by decide) (fun h23 => ?_) (fun h23 => ?_)
            · try first | contradiction | omega | (simp only [decide_eq_true_eq, decide_eq_false_iff_not] at h23; omega)
              all_goals
                first | omega | contradiction
            · try first | contradiction | omega | (simp only [decide_eq_true_eq, decide_eq_false_iff_not] at h23; omega)
              all_goals
                refine e_aload_n dX5_mend_26 rfl rfl ?_
                refine e_getR dX5_mend_27 fl_X5_9 rfl (cv_w cm) ?_
                refine e_aload_n dX5_mend_30 rfl rfl ?_
                refine e_getR dX5_mend_31 fl_X5_9 rfl (cv_w cm) ?_
                refine e_getR dX5_mend_34 fl_X5_53 rfl (cm_mvs cm) ?_
                refine e_iload_n dX5_mend_37 rfl rfl ?_
                refine e_aald _ dX5_mend_38 ⟨by decide, by decide⟩ rfl rfl (by simp only [lenK]; omega) (cm_mo cm (by omega)) ?_
                refine x_V1 (M' := mX9_bothUp) dX5_mend_39 ml_X5_183 ok_X9_bothUp (by decide) rfl im_X9_bothUp se_X9_bothUp (ct_X9_bothUp cm iv hK (by omega)) (Nat.le_of_ble_eq_true rfl) (by decide) (Nat.le_of_ble_eq_true rfl) ?_
                rw [hau]
                first | ((with_reducible refine mk_b ?_); refine b_if_ne (tgt := 47) dX5_mend_42 (by decide) (fun h42 => ?_) (fun h42 => ?_)) | ((with_reducible refine mk_ll ?_); refine m_if_ne (tgt := 47) dX5_mend_42 (by decide) (by omega) (by omega) (fun h42 => ?_) (fun h42 => ?_)) | ((with_reducible refine mk_lc ?_); refine l_if_ne (tgt := 47) dX5_mend_42 (by decide) (fun h42 => ?_) (fun h42 => ?_)) | ((with_reducible refine mk_n ?_); refine n_if_ne (tgt := 47) dX5_mend_42 (by decide) (by omega) (fun h42 => ?_) (fun h42 => ?_)) | refine e_if_ne (tgt := 47) dX5_mend_42 (by decide) (fun h42 => ?_) (fun h42 => ?_)
                · try first | contradiction | omega | (simp only [decide_eq_true_eq, decide_eq_false_iff_not] at h42; omega)
                  all_goals
                    refine e_aload_n dX5_mend_47 rfl rfl ?_
                    refine e_getR dX5_mend_48 fl_X5_9 rfl (cv_w cm) ?_
                    refine e_getR dX5_mend_51 fl_X5_53 rfl (cm_mvs cm) ?_
                    refine e_iload_n dX5_mend_54 rfl rfl ?_
                    refine e_aald _ dX5_mend_55 ⟨by decide, by decide⟩ rfl rfl (by simp only [lenK]; omega) (cm_mo cm (by omega)) ?_
                    refine e_astore_n dX5_mend_56 rfl (Nat.le_of_ble_eq_true rfl) rfl ?_
                    refine e_aload_n dX5_mend_57 rfl rfl ?_
                    refine e_iconst (v := nI 0) dX5_mend_58 rfl ?_
                    refine e_pm (f := 8) (dd := 7) dX5_mend_59 fl_X5_79 (by decide) rfl rfl rfl rfl rfl bd hK (by first | omega | (simp (disch := omega) only [upN_n, upN_s]; omega)) hF (fun fi hF hK => ?_)
                    have bd := Bd_K bd hK (by omega)
                    refine e_aload_n dX5_mend_62 rfl rfl ?_
                    refine e_getE dX5_mend_63 fl_X5_87 rfl (k_m2 hK (by first | omega | (simp (disch := omega) only [upN_n, upN_s]; omega))) ?_
                    try simp (disch := omega) only [upN_n, upN_s]
                    refine e_iconst (v := nI 4) dX5_mend_66 rfl ?_
                    first | ((with_reducible refine mk_mo ?_); refine p_icmp_ne (tgt := 98) dX5_mend_67 (by decide) (fun h67 => ?_) (fun h67 => ?_)) | ((with_reducible refine mk_ms ?_); refine s_icmp_ne (tgt := 98) dX5_mend_67 (by decide) (by omega) (fun h67 => ?_) (fun h67 => ?_)) | ((with_reducible refine mk_mn ?_); refine q_icmp_ne (tgt := 98) dX5_mend_67 (by decide) (by omega) (fun h67 => ?_) (fun h67 => ?_)) | ((with_reducible refine mk_nn ?_); refine n_icmp_ne (tgt := 98) dX5_mend_67 (by decide) (by omega) (by omega) (fun h67 => ?_) (fun h67 => ?_)) | refine e_icmp_ne (tgt := 98) dX5_mend_67 (by decide) (fun h67 => ?_) (fun h67 => ?_)
                    · try first | contradiction | omega
                      all_goals
                        omega
                    · try first | contradiction | omega
                      all_goals
                        refine e_aload_n dX5_mend_70 rfl rfl ?_
                        refine e_getR dX5_mend_71 fl_X5_9 rfl (cv_w cm) ?_
                        refine e_aload_n dX5_mend_74 rfl rfl ?_
                        refine e_getE dX5_mend_75 fl_X5_133 rfl (k_m5 hK (by first | omega | (simp (disch := omega) only [upN_n, upN_s]; omega))) ?_
                        try simp (disch := omega) only [upN_n, upN_s]
                        refine e_aload_n dX5_mend_78 rfl rfl ?_
                        refine e_getE dX5_mend_79 fl_X5_158 rfl (k_m3 hK (by first | omega | (simp (disch := omega) only [upN_n, upN_s]; omega))) ?_
                        try simp (disch := omega) only [upN_n, upN_s]
                        refine e_aload_n dX5_mend_82 rfl rfl ?_
                        refine e_getE dX5_mend_83 fl_X5_124 rfl (k_m4 hK (by first | omega | (simp (disch := omega) only [upN_n, upN_s]; omega))) ?_
                        try simp (disch := omega) only [upN_n, upN_s]
                        refine ky_V3 (M' := mX9_loseValues) dX5_mend_86 ml_X5_187 ok_X9_loseValues (by decide) rfl im_X9_loseValues se_X9_loseValues (ct_X9_loseValues cm bd hK (by omega) (by omega) (by omega)) (Nat.le_of_ble_eq_true rfl) (by decide) (Nat.le_of_ble_eq_true rfl) (fun fi ai hG hK => ?_)
                        have hF := FR1_tr hF hG
                        have bd := Bd_fr (w := upN w (7694 + 72 * m + 7) 0) (fun q hq => loF_fr (a := 1106 + 1000 * w (7694 + 72 * m + 3) + w (7694 + 72 * m + 1)) (j := w (7694 + 72 * m + 2) - w (7694 + 72 * m + 1)) (by omega)) bd
                        refine e_aload_n dX5_mend_89 rfl rfl ?_
                        refine e_aload_n dX5_mend_90 rfl rfl ?_
                        refine e_iconst (v := nI 5) dX5_mend_91 rfl ?_
                        refine ky_V2 (M' := mX5_endAs) dX5_mend_92 ml_X5_130 ok_X5_endAs (by decide) rfl im_X5_endAs se_X5_endAs (ct_X5_endAs cm bd hK (by rw [loF_fr (by omega), upN_n (by omega)]; exact hm) (by omega)) (Nat.le_of_ble_eq_true rfl) (by decide) (Nat.le_of_ble_eq_true rfl) (fun fi ai hG hK => ?_)
                        have hF := FR1_tr hF hG
                        refine e_goto (tgt := 103) dX5_mend_95 (by decide) ?_
                        rw [if_pos rfl, loF_fr (by omega), upN_n (by omega)] at hK
                        have hK := K_eq hK e2
                        refine e_aload_n dX5_mend_103 rfl rfl ?_
                        refine e_getE dX5_mend_104 fl_X5_87 rfl ((k_m2 hK (by rw [end_fr iv hm (by omega) (by omega) (by omega) (by omega)]; exact hm)).trans (show nI (endW w m (7694 + 72 * m + 0)) = nI 5 by rw [← e2, upN_n (by omega), upN_s])) ?_
                        try simp (disch := omega) only [upN_n, upN_s]
                        refine e_ret (some _) rfl (r_int dX5_mend_107 rfl) ?_
                        exact kq rfl hF hK
                · try first | contradiction | omega | (simp only [decide_eq_true_eq, decide_eq_false_iff_not] at h42; omega)
                  all_goals
                    first | omega | contradiction
      · have e1 : endS w m = 6 := by unfold endS; rw [if_pos (by omega)]
        have e2 : upN (upN (losW (upN w (7694 + 72 * m + 7) 0) m (upN w (7694 + 72 * m + 7) 0 (7694 + 72 * m + 4))) (7694 + 72 * m + 0) 6) (8558 + 10) (upN w (7694 + 72 * m + 7) 0 (8558 + 10) + 1) = endW w m := by
          unfold endW losW
          simp (disch := omega) only [upN_n]
          rw [e1, if_pos (by omega), if_pos (by omega), lo_up (by omega), upN_cm (a := 7694 + 72 * m + 7) (b := 7694 + 72 * m + 0) (by omega)]
        rw [e1]
        refine e_aload_n dX5_mend_0 rfl rfl ?_
        refine e_getR dX5_mend_1 fl_X5_9 rfl (cv_w cm) ?_
        refine e_iload_n dX5_mend_4 rfl rfl ?_
        refine x_V1 (M' := mX9_hasMove) dX5_mend_5 ml_X5_174 ok_X9_hasMove (by decide) rfl im_X9_hasMove se_X9_hasMove (ct_X9_hasMove cm iv hK _) (Nat.le_of_ble_eq_true rfl) (by decide) (Nat.le_of_ble_eq_true rfl) ?_
        rw [hx]
        first | ((with_reducible refine mk_b ?_); refine b_if_eq (tgt := 45) dX5_mend_8 (by decide) (fun h8 => ?_) (fun h8 => ?_)) | ((with_reducible refine mk_ll ?_); refine m_if_eq (tgt := 45) dX5_mend_8 (by decide) (by omega) (by omega) (fun h8 => ?_) (fun h8 => ?_)) | ((with_reducible refine mk_lc ?_); refine l_if_eq (tgt := 45) dX5_mend_8 (by decide) (fun h8 => ?_) (fun h8 => ?_)) | ((with_reducible refine mk_n ?_); refine n_if_eq (tgt := 45) dX5_mend_8 (by decide) (by omega) (fun h8 => ?_) (fun h8 => ?_)) | refine e_if_eq (tgt := 45) dX5_mend_8 (by decide) (fun h8 => ?_) (fun h8 => ?_)
        · try first | contradiction | omega | (simp only [decide_eq_true_eq, decide_eq_false_iff_not] at h8; omega)
          all_goals
            first | omega | contradiction
        · try first | contradiction | omega | (simp only [decide_eq_true_eq, decide_eq_false_iff_not] at h8; omega)
          all_goals
            refine e_aload_n dX5_mend_11 rfl rfl ?_
            refine e_getR dX5_mend_12 fl_X5_9 rfl (cv_w cm) ?_
            refine e_getR dX5_mend_15 fl_X5_53 rfl (cm_mvs cm) ?_
            refine e_iload_n dX5_mend_18 rfl rfl ?_
            refine e_aald _ dX5_mend_19 ⟨by decide, by decide⟩ rfl rfl (by simp only [lenK]; omega) (cm_mo cm (by omega)) ?_
            refine e_getE dX5_mend_20 fl_X5_79 rfl (k_m8 hK (by first | omega | (simp (disch := omega) only [upN_n, upN_s]; omega))) ?_
            try simp (disch := omega) only [upN_n, upN_s]
            first | ((with_reducible refine mk_b ?_); refine b_if_eq (tgt := 45) dX5_mend_23 (by decide) (fun h23 => ?_) (fun h23 => ?_)) | ((with_reducible refine mk_ll ?_); refine m_if_eq (tgt := 45) dX5_mend_23 (by decide) (by omega) (by omega) (fun h23 => ?_) (fun h23 => ?_)) | ((with_reducible refine mk_lc ?_); refine l_if_eq (tgt := 45) dX5_mend_23 (by decide) (fun h23 => ?_) (fun h23 => ?_)) | ((with_reducible refine mk_n ?_); refine n_if_eq (tgt := 45) dX5_mend_23 (by decide) (by omega) (fun h23 => ?_) (fun h23 => ?_)) | refine e_if_eq (tgt := 45) dX5_mend_23 (by decide) (fun h23 => ?_) (fun h23 => ?_)
            · try first | contradiction | omega | (simp only [decide_eq_true_eq, decide_eq_false_iff_not] at h23; omega)
              all_goals
                first | omega | contradiction
            · try first | contradiction | omega | (simp only [decide_eq_true_eq, decide_eq_false_iff_not] at h23; omega)
              all_goals
                refine e_aload_n dX5_mend_26 rfl rfl ?_
                refine e_getR dX5_mend_27 fl_X5_9 rfl (cv_w cm) ?_
                refine e_aload_n dX5_mend_30 rfl rfl ?_
                refine e_getR dX5_mend_31 fl_X5_9 rfl (cv_w cm) ?_
                refine e_getR dX5_mend_34 fl_X5_53 rfl (cm_mvs cm) ?_
                refine e_iload_n dX5_mend_37 rfl rfl ?_
                refine e_aald _ dX5_mend_38 ⟨by decide, by decide⟩ rfl rfl (by simp only [lenK]; omega) (cm_mo cm (by omega)) ?_
                refine x_V1 (M' := mX9_bothUp) dX5_mend_39 ml_X5_183 ok_X9_bothUp (by decide) rfl im_X9_bothUp se_X9_bothUp (ct_X9_bothUp cm iv hK (by omega)) (Nat.le_of_ble_eq_true rfl) (by decide) (Nat.le_of_ble_eq_true rfl) ?_
                rw [hau]
                first | ((with_reducible refine mk_b ?_); refine b_if_ne (tgt := 47) dX5_mend_42 (by decide) (fun h42 => ?_) (fun h42 => ?_)) | ((with_reducible refine mk_ll ?_); refine m_if_ne (tgt := 47) dX5_mend_42 (by decide) (by omega) (by omega) (fun h42 => ?_) (fun h42 => ?_)) | ((with_reducible refine mk_lc ?_); refine l_if_ne (tgt := 47) dX5_mend_42 (by decide) (fun h42 => ?_) (fun h42 => ?_)) | ((with_reducible refine mk_n ?_); refine n_if_ne (tgt := 47) dX5_mend_42 (by decide) (by omega) (fun h42 => ?_) (fun h42 => ?_)) | refine e_if_ne (tgt := 47) dX5_mend_42 (by decide) (fun h42 => ?_) (fun h42 => ?_)
                · try first | contradiction | omega | (simp only [decide_eq_true_eq, decide_eq_false_iff_not] at h42; omega)
                  all_goals
                    refine e_aload_n dX5_mend_47 rfl rfl ?_
                    refine e_getR dX5_mend_48 fl_X5_9 rfl (cv_w cm) ?_
                    refine e_getR dX5_mend_51 fl_X5_53 rfl (cm_mvs cm) ?_
                    refine e_iload_n dX5_mend_54 rfl rfl ?_
                    refine e_aald _ dX5_mend_55 ⟨by decide, by decide⟩ rfl rfl (by simp only [lenK]; omega) (cm_mo cm (by omega)) ?_
                    refine e_astore_n dX5_mend_56 rfl (Nat.le_of_ble_eq_true rfl) rfl ?_
                    refine e_aload_n dX5_mend_57 rfl rfl ?_
                    refine e_iconst (v := nI 0) dX5_mend_58 rfl ?_
                    refine e_pm (f := 8) (dd := 7) dX5_mend_59 fl_X5_79 (by decide) rfl rfl rfl rfl rfl bd hK (by first | omega | (simp (disch := omega) only [upN_n, upN_s]; omega)) hF (fun fi hF hK => ?_)
                    have bd := Bd_K bd hK (by omega)
                    refine e_aload_n dX5_mend_62 rfl rfl ?_
                    refine e_getE dX5_mend_63 fl_X5_87 rfl (k_m2 hK (by first | omega | (simp (disch := omega) only [upN_n, upN_s]; omega))) ?_
                    try simp (disch := omega) only [upN_n, upN_s]
                    refine e_iconst (v := nI 4) dX5_mend_66 rfl ?_
                    first | ((with_reducible refine mk_mo ?_); refine p_icmp_ne (tgt := 98) dX5_mend_67 (by decide) (fun h67 => ?_) (fun h67 => ?_)) | ((with_reducible refine mk_ms ?_); refine s_icmp_ne (tgt := 98) dX5_mend_67 (by decide) (by omega) (fun h67 => ?_) (fun h67 => ?_)) | ((with_reducible refine mk_mn ?_); refine q_icmp_ne (tgt := 98) dX5_mend_67 (by decide) (by omega) (fun h67 => ?_) (fun h67 => ?_)) | ((with_reducible refine mk_nn ?_); refine n_icmp_ne (tgt := 98) dX5_mend_67 (by decide) (by omega) (by omega) (fun h67 => ?_) (fun h67 => ?_)) | refine e_icmp_ne (tgt := 98) dX5_mend_67 (by decide) (fun h67 => ?_) (fun h67 => ?_)
                    · try first | contradiction | omega
                      all_goals
                        refine e_aload_n dX5_mend_98 rfl rfl ?_
                        refine e_aload_n dX5_mend_99 rfl rfl ?_
                        refine ky_V1 (M' := mX5_turnBack) dX5_mend_100 ml_X5_190 ok_X5_turnBack (by decide) rfl im_X5_turnBack se_X5_turnBack (ct_X5_turnBack cm bd hK (by rw [upN_n (by omega)]; exact hm) (by simp (disch := omega) only [upN_n]; omega) (by simp (disch := omega) only [upN_n]; omega) (by simp (disch := omega) only [upN_n]; omega)) (Nat.le_of_ble_eq_true rfl) (by decide) (Nat.le_of_ble_eq_true rfl) (fun fi ai hG hK => ?_)
                        have hF := FR1_tr hF hG
                        have hK := K_eq hK e2
                        refine e_aload_n dX5_mend_103 rfl rfl ?_
                        refine e_getE dX5_mend_104 fl_X5_87 rfl ((k_m2 hK (by rw [end_fr iv hm (by omega) (by omega) (by omega) (by omega)]; exact hm)).trans (show nI (endW w m (7694 + 72 * m + 0)) = nI 6 by rw [← e2, upN_n (by omega), upN_s])) ?_
                        try simp (disch := omega) only [upN_n, upN_s]
                        refine e_ret (some _) rfl (r_int dX5_mend_107 rfl) ?_
                        exact kq rfl hF hK
                    · try first | contradiction | omega
                      all_goals
                        omega
                · try first | contradiction | omega | (simp only [decide_eq_true_eq, decide_eq_false_iff_not] at h42; omega)
                  all_goals
                    first | omega | contradiction
theorem ct_X5_giveUp {fi : FI} {fr : FR} {ai : FI} {ar : FR} {N : Nat} {w lg : Nat → Nat} {E : Nat} (cm : CM fr ar) (iv : Inv w) (hK : K fi ai w lg E) (i2 : Inv2 w) (x : Int32) : CP mX5_giveUp 3 0 0 [.ref (rf 5 73), .int x] fi fr ai ar N (kQ (some (.int (bI (givB w x)))) fi fr ai ar N (fun fi ai => K fi ai (if givB w x then endW w x.toNatClampNeg else w) lg E)) := by
  have h1 := iv_n iv
  have h3 := iv_mm iv
  have bd := Bd_iv iv
  have hF : FR1 fi ai fi ai := FR1_rf
  change EV mX5_giveUp 3 0 0 0 [some (.ref (rf 5 73)), some (.int x)] [] fi fr ai ar N (kQ (some (.int (bI (givB w x)))) fi fr ai ar N (fun fi ai => K fi ai (if givB w x then endW w x.toNatClampNeg else w) lg E))
  cases hc : csT w x with
  | false =>
    have e : givB w x = false := by unfold givB; rw [hc]; rfl
    rw [e, if_neg (by decide)]
    refine e_aload_n dX5_giveUp_0 rfl rfl ?_
    refine e_getR dX5_giveUp_1 fl_X5_9 rfl (cv_w cm) ?_
    refine e_iload_n dX5_giveUp_4 rfl rfl ?_
    refine x_V1 (M' := mX9_canStep) dX5_giveUp_5 ml_X5_72 ok_X9_canStep (by decide) rfl im_X9_canStep se_X9_canStep (ct_X9_canStep cm iv hK ‹_› _) (Nat.le_of_ble_eq_true rfl) (by decide) (Nat.le_of_ble_eq_true rfl) ?_
    rw [hc]
    first | ((with_reducible refine mk_b ?_); refine b_if_eq (tgt := 27) dX5_giveUp_8 (by decide) (fun h8 => ?_) (fun h8 => ?_)) | ((with_reducible refine mk_ll ?_); refine m_if_eq (tgt := 27) dX5_giveUp_8 (by decide) (by omega) (by omega) (fun h8 => ?_) (fun h8 => ?_)) | ((with_reducible refine mk_lc ?_); refine l_if_eq (tgt := 27) dX5_giveUp_8 (by decide) (fun h8 => ?_) (fun h8 => ?_)) | ((with_reducible refine mk_n ?_); refine n_if_eq (tgt := 27) dX5_giveUp_8 (by decide) (by omega) (fun h8 => ?_) (fun h8 => ?_)) | refine e_if_eq (tgt := 27) dX5_giveUp_8 (by decide) (fun h8 => ?_) (fun h8 => ?_)
    · try first | contradiction | omega | (simp only [decide_eq_true_eq, decide_eq_false_iff_not] at h8; omega)
      all_goals
        refine e_iconst (v := nI 0) dX5_giveUp_27 rfl ?_
        first | ((with_reducible refine mk_b ?_); refine e_ret (some _) rfl (r_bool dX5_giveUp_28 rfl) ?_) | ((with_reducible refine mk_n1 ?_); refine e_ret (some _) rfl (r_b1 dX5_giveUp_28 rfl) ?_) | ((with_reducible refine mk_n0 ?_); refine e_ret (some _) rfl (r_b0 dX5_giveUp_28 rfl) ?_)
        exact kq rfl hF hK
    · try first | contradiction | omega | (simp only [decide_eq_true_eq, decide_eq_false_iff_not] at h8; omega)
      all_goals
        contradiction
  | true =>
    have hc2 := hc
    unfold csT at hc2
    simp only [Bool.and_eq_true, decide_eq_true_eq] at hc2
    obtain ⟨⟨hx, hg⟩, hb⟩ := hc2
    obtain ⟨m, hm, hm2, rfl⟩ := inR_ex hx
    rw [nI_clamp hm2] at hg hb
    have hq := iv_mv iv hm
    have hg1 := goB_e1 hg
    obtain ⟨u1, u2⟩ := (i2.2.1 m hm).2.1 hg hb
    have hau : auB w m = true := by unfold auB; rw [decide_eq_true u1, decide_eq_true u2]; rfl
    have eg : givB w (nI m) = decide (w (7694 + 72 * m + 0) ≠ 4) := by unfold givB; rw [hc, nI_clamp hm2, hau, Bool.and_true]; rfl
    rw [nI_clamp hm2]
    by_cases h4 : w (7694 + 72 * m + 0) = 4
    · rw [eg, decide_eq_false (fun q => q h4), if_neg (by decide)]
      refine e_aload_n dX5_giveUp_0 rfl rfl ?_
      refine e_getR dX5_giveUp_1 fl_X5_9 rfl (cv_w cm) ?_
      refine e_iload_n dX5_giveUp_4 rfl rfl ?_
      refine x_V1 (M' := mX9_canStep) dX5_giveUp_5 ml_X5_72 ok_X9_canStep (by decide) rfl im_X9_canStep se_X9_canStep (ct_X9_canStep cm iv hK ‹_› _) (Nat.le_of_ble_eq_true rfl) (by decide) (Nat.le_of_ble_eq_true rfl) ?_
      rw [hc]
      first | ((with_reducible refine mk_b ?_); refine b_if_eq (tgt := 27) dX5_giveUp_8 (by decide) (fun h8 => ?_) (fun h8 => ?_)) | ((with_reducible refine mk_ll ?_); refine m_if_eq (tgt := 27) dX5_giveUp_8 (by decide) (by omega) (by omega) (fun h8 => ?_) (fun h8 => ?_)) | ((with_reducible refine mk_lc ?_); refine l_if_eq (tgt := 27) dX5_giveUp_8 (by decide) (fun h8 => ?_) (fun h8 => ?_)) | ((with_reducible refine mk_n ?_); refine n_if_eq (tgt := 27) dX5_giveUp_8 (by decide) (by omega) (fun h8 => ?_) (fun h8 => ?_)) | refine e_if_eq (tgt := 27) dX5_giveUp_8 (by decide) (fun h8 => ?_) (fun h8 => ?_)
      · try first | contradiction | omega | (simp only [decide_eq_true_eq, decide_eq_false_iff_not] at h8; omega)
        all_goals
          refine e_iconst (v := nI 0) dX5_giveUp_27 rfl ?_
          first | ((with_reducible refine mk_b ?_); refine e_ret (some _) rfl (r_bool dX5_giveUp_28 rfl) ?_) | ((with_reducible refine mk_n1 ?_); refine e_ret (some _) rfl (r_b1 dX5_giveUp_28 rfl) ?_) | ((with_reducible refine mk_n0 ?_); refine e_ret (some _) rfl (r_b0 dX5_giveUp_28 rfl) ?_)
          exact kq rfl hF hK
      · try first | contradiction | omega | (simp only [decide_eq_true_eq, decide_eq_false_iff_not] at h8; omega)
        all_goals
          refine e_aload_n dX5_giveUp_11 rfl rfl ?_
          refine e_getR dX5_giveUp_12 fl_X5_9 rfl (cv_w cm) ?_
          refine e_getR dX5_giveUp_15 fl_X5_53 rfl (cm_mvs cm) ?_
          refine e_iload_n dX5_giveUp_18 rfl rfl ?_
          refine e_aald _ dX5_giveUp_19 ⟨by decide, by decide⟩ rfl rfl (by simp only [lenK]; omega) (cm_mo cm (by omega)) ?_
          refine e_getE dX5_giveUp_20 fl_X5_87 rfl (k_m2 hK (by first | omega | (simp (disch := omega) only [upN_n, upN_s]; omega))) ?_
          refine e_iconst (v := nI 4) dX5_giveUp_23 rfl ?_
          first | ((with_reducible refine mk_mo ?_); refine p_icmp_ne (tgt := 29) dX5_giveUp_24 (by decide) (fun h24 => ?_) (fun h24 => ?_)) | ((with_reducible refine mk_ms ?_); refine s_icmp_ne (tgt := 29) dX5_giveUp_24 (by decide) (by omega) (fun h24 => ?_) (fun h24 => ?_)) | ((with_reducible refine mk_mn ?_); refine q_icmp_ne (tgt := 29) dX5_giveUp_24 (by decide) (by omega) (fun h24 => ?_) (fun h24 => ?_)) | ((with_reducible refine mk_nn ?_); refine n_icmp_ne (tgt := 29) dX5_giveUp_24 (by decide) (by omega) (by omega) (fun h24 => ?_) (fun h24 => ?_)) | refine e_icmp_ne (tgt := 29) dX5_giveUp_24 (by decide) (fun h24 => ?_) (fun h24 => ?_)
          · try first | contradiction | omega
            all_goals
              omega
          · try first | contradiction | omega
            all_goals
              refine e_iconst (v := nI 0) dX5_giveUp_27 rfl ?_
              first | ((with_reducible refine mk_b ?_); refine e_ret (some _) rfl (r_bool dX5_giveUp_28 rfl) ?_) | ((with_reducible refine mk_n1 ?_); refine e_ret (some _) rfl (r_b1 dX5_giveUp_28 rfl) ?_) | ((with_reducible refine mk_n0 ?_); refine e_ret (some _) rfl (r_b0 dX5_giveUp_28 rfl) ?_)
              exact kq rfl hF hK
    · rw [eg, decide_eq_true h4, if_pos rfl]
      have e1 : endS w m = 6 := by unfold endS; rw [if_pos (by omega)]
      have e2 : upN (upN (losW w m (w (7694 + 72 * m + 4))) (7694 + 72 * m + 0) 6) (8558 + 10) (w (8558 + 10) + 1) = endW w m := by
        unfold endW
        rw [e1, if_pos (by omega), if_pos (by omega), upN_id (q := 7694 + 72 * m + 7) (v := 0)]
        rw [upN_n (by omega)]; unfold losW; rw [loF_fr (by omega)]; exact hb
      refine e_aload_n dX5_giveUp_0 rfl rfl ?_
      refine e_getR dX5_giveUp_1 fl_X5_9 rfl (cv_w cm) ?_
      refine e_iload_n dX5_giveUp_4 rfl rfl ?_
      refine x_V1 (M' := mX9_canStep) dX5_giveUp_5 ml_X5_72 ok_X9_canStep (by decide) rfl im_X9_canStep se_X9_canStep (ct_X9_canStep cm iv hK ‹_› _) (Nat.le_of_ble_eq_true rfl) (by decide) (Nat.le_of_ble_eq_true rfl) ?_
      rw [hc]
      first | ((with_reducible refine mk_b ?_); refine b_if_eq (tgt := 27) dX5_giveUp_8 (by decide) (fun h8 => ?_) (fun h8 => ?_)) | ((with_reducible refine mk_ll ?_); refine m_if_eq (tgt := 27) dX5_giveUp_8 (by decide) (by omega) (by omega) (fun h8 => ?_) (fun h8 => ?_)) | ((with_reducible refine mk_lc ?_); refine l_if_eq (tgt := 27) dX5_giveUp_8 (by decide) (fun h8 => ?_) (fun h8 => ?_)) | ((with_reducible refine mk_n ?_); refine n_if_eq (tgt := 27) dX5_giveUp_8 (by decide) (by omega) (fun h8 => ?_) (fun h8 => ?_)) | refine e_if_eq (tgt := 27) dX5_giveUp_8 (by decide) (fun h8 => ?_) (fun h8 => ?_)
      · try first | contradiction | omega | (simp only [decide_eq_true_eq, decide_eq_false_iff_not] at h8; omega)
        all_goals
          first | omega | contradiction
      · try first | contradiction | omega | (simp only [decide_eq_true_eq, decide_eq_false_iff_not] at h8; omega)
        all_goals
          refine e_aload_n dX5_giveUp_11 rfl rfl ?_
          refine e_getR dX5_giveUp_12 fl_X5_9 rfl (cv_w cm) ?_
          refine e_getR dX5_giveUp_15 fl_X5_53 rfl (cm_mvs cm) ?_
          refine e_iload_n dX5_giveUp_18 rfl rfl ?_
          refine e_aald _ dX5_giveUp_19 ⟨by decide, by decide⟩ rfl rfl (by simp only [lenK]; omega) (cm_mo cm (by omega)) ?_
          refine e_getE dX5_giveUp_20 fl_X5_87 rfl (k_m2 hK (by first | omega | (simp (disch := omega) only [upN_n, upN_s]; omega))) ?_
          refine e_iconst (v := nI 4) dX5_giveUp_23 rfl ?_
          first | ((with_reducible refine mk_mo ?_); refine p_icmp_ne (tgt := 29) dX5_giveUp_24 (by decide) (fun h24 => ?_) (fun h24 => ?_)) | ((with_reducible refine mk_ms ?_); refine s_icmp_ne (tgt := 29) dX5_giveUp_24 (by decide) (by omega) (fun h24 => ?_) (fun h24 => ?_)) | ((with_reducible refine mk_mn ?_); refine q_icmp_ne (tgt := 29) dX5_giveUp_24 (by decide) (by omega) (fun h24 => ?_) (fun h24 => ?_)) | ((with_reducible refine mk_nn ?_); refine n_icmp_ne (tgt := 29) dX5_giveUp_24 (by decide) (by omega) (by omega) (fun h24 => ?_) (fun h24 => ?_)) | refine e_icmp_ne (tgt := 29) dX5_giveUp_24 (by decide) (fun h24 => ?_) (fun h24 => ?_)
          · try first | contradiction | omega
            all_goals
              refine e_aload_n dX5_giveUp_29 rfl rfl ?_
              refine e_aload_n dX5_giveUp_30 rfl rfl ?_
              refine e_getR dX5_giveUp_31 fl_X5_9 rfl (cv_w cm) ?_
              refine e_getR dX5_giveUp_34 fl_X5_53 rfl (cm_mvs cm) ?_
              refine e_iload_n dX5_giveUp_37 rfl rfl ?_
              refine e_aald _ dX5_giveUp_38 ⟨by decide, by decide⟩ rfl rfl (by simp only [lenK]; omega) (cm_mo cm (by omega)) ?_
              refine ky_V1 (M' := mX5_turnBack) dX5_giveUp_39 ml_X5_190 ok_X5_turnBack (by decide) rfl im_X5_turnBack se_X5_turnBack (ct_X5_turnBack cm bd hK (by omega) (by omega) (by omega) (by omega)) (Nat.le_of_ble_eq_true rfl) (by decide) (Nat.le_of_ble_eq_true rfl) (fun fi ai hG hK => ?_)
              have hF := FR1_tr hF hG
              refine e_iconst (v := nI 1) dX5_giveUp_42 rfl ?_
              first | ((with_reducible refine mk_b ?_); refine e_ret (some _) rfl (r_bool dX5_giveUp_43 rfl) ?_) | ((with_reducible refine mk_n1 ?_); refine e_ret (some _) rfl (r_b1 dX5_giveUp_43 rfl) ?_) | ((with_reducible refine mk_n0 ?_); refine e_ret (some _) rfl (r_b0 dX5_giveUp_43 rfl) ?_)
              exact kq rfl hF (K_eq hK e2)
          · try first | contradiction | omega
            all_goals
              first | omega | contradiction
theorem ct_X5_stepsLeft {fi : FI} {fr : FR} {ai : FI} {ar : FR} {N : Nat} {w lg : Nat → Nat} {E : Nat} (cm : CM fr ar) (iv : Inv w) (hK : K fi ai w lg E) {m : Nat} (hm : m < w 3) (hg : 1 ≤ w (7694 + 72 * m + 0) ∧ w (7694 + 72 * m + 0) ≤ 4) : CP mX5_stepsLeft 1 0 0 [.ref (rf 5 73), .ref (rf 4 (34 + 2 * m))] fi fr ai ar N (xQ (some (.int (nI (lsN w m)))) fi fr ai ar N) := by
  have h1 := iv_n iv
  have h3 := iv_mm iv
  have bd := Bd_iv iv
  have hF : FR1 fi ai fi ai := FR1_rf
  have hq := iv_mv iv hm
  have h2 := iv_ch iv
  have mx : (if 1 < w 2 then w 2 else 1) = w 2 := by split <;> omega
  have c1 := cnt_le (fun j => decide (0 < w (1106 + 1000 * w (7694 + 72 * m + 3) + (w (7694 + 72 * m + 1) + j)))) (w (7694 + 72 * m + 2) - w (7694 + 72 * m + 1))
  have c5 := cnt_le (fun j => decide (0 < w (1106 + 1000 * w (7694 + 72 * m + 3) + (w (7694 + 72 * m + 5) + j)))) (w (7694 + 72 * m + 2) - w (7694 + 72 * m + 5))
  change EV mX5_stepsLeft 1 0 0 0 [some (.ref (rf 5 73)), some (.ref (rf 4 (34 + 2 * m))), none, none, none] [] fi fr ai ar N (xQ (some (.int (nI (lsN w m)))) fi fr ai ar N)
  have ht : (w (7694 + 72 * m + 6) + w 2 - 1) / w 2 ≤ w (7694 + 72 * m + 6) + w 2 - 1 := Nat.div_le_self _ _
  have tl : (if 1 < (w (7694 + 72 * m + 6) + w 2 - 1) / w 2 then (w (7694 + 72 * m + 6) + w 2 - 1) / w 2 else 1) = lsT w m := by unfold lsT; split <;> split <;> omega
  refine e_iconst (v := nI 1) dX5_stepsLeft_0 rfl ?_
  refine e_aload_n dX5_stepsLeft_1 rfl rfl ?_
  refine e_getR dX5_stepsLeft_2 fl_X5_9 rfl (cv_w cm) ?_
  refine e_getE dX5_stepsLeft_5 fl_X5_96 rfl (k_ch hK) ?_
  refine e_mmax dX5_stepsLeft_8 ml_X5_193 sc_Mmax nz_M cd_Mmax (by decide) (Nat.le_of_ble_eq_true rfl) ?_
  rw [nI_max (by omega) (by omega), mx]
  refine e_istore_n dX5_stepsLeft_11 rfl (Nat.le_of_ble_eq_true rfl) rfl ?_
  refine e_aload_n dX5_stepsLeft_12 rfl rfl ?_
  refine e_getR dX5_stepsLeft_13 fl_X5_9 rfl (cv_w cm) ?_
  refine e_aload_n dX5_stepsLeft_16 rfl rfl ?_
  refine e_getE dX5_stepsLeft_17 fl_X5_133 rfl (k_m5 hK (by first | omega | (simp (disch := omega) only [upN_n, upN_s]; omega))) ?_
  refine e_aload_n dX5_stepsLeft_20 rfl rfl ?_
  refine e_getE dX5_stepsLeft_21 fl_X5_87 rfl (k_m2 hK (by first | omega | (simp (disch := omega) only [upN_n, upN_s]; omega))) ?_
  refine e_iconst (v := nI 4) dX5_stepsLeft_24 rfl ?_
  first | ((with_reducible refine mk_mo ?_); refine p_icmp_ne (tgt := 35) dX5_stepsLeft_25 (by decide) (fun h25 => ?_) (fun h25 => ?_)) | ((with_reducible refine mk_ms ?_); refine s_icmp_ne (tgt := 35) dX5_stepsLeft_25 (by decide) (by omega) (fun h25 => ?_) (fun h25 => ?_)) | ((with_reducible refine mk_mn ?_); refine q_icmp_ne (tgt := 35) dX5_stepsLeft_25 (by decide) (by omega) (fun h25 => ?_) (fun h25 => ?_)) | ((with_reducible refine mk_nn ?_); refine n_icmp_ne (tgt := 35) dX5_stepsLeft_25 (by decide) (by omega) (by omega) (fun h25 => ?_) (fun h25 => ?_)) | refine e_icmp_ne (tgt := 35) dX5_stepsLeft_25 (by decide) (fun h25 => ?_) (fun h25 => ?_)
  · try first | contradiction | omega
    all_goals
      refine e_aload_n dX5_stepsLeft_35 rfl rfl ?_
      refine e_getE dX5_stepsLeft_36 fl_X5_158 rfl (k_m3 hK (by first | omega | (simp (disch := omega) only [upN_n, upN_s]; omega))) ?_
      refine e_aload_n dX5_stepsLeft_39 rfl rfl ?_
      refine e_getE dX5_stepsLeft_40 fl_X5_124 rfl (k_m4 hK (by first | omega | (simp (disch := omega) only [upN_n, upN_s]; omega))) ?_
      refine x_V3 (M' := mX9_valuesIn) dX5_stepsLeft_43 ml_X5_196 ok_X9_valuesIn (by decide) rfl im_X9_valuesIn se_X9_valuesIn (ct_X9_valuesIn cm iv hK (by omega) (by omega) (by omega)) (Nat.le_of_ble_eq_true rfl) (by decide) (Nat.le_of_ble_eq_true rfl) ?_
      refine e_iload_n dX5_stepsLeft_46 rfl rfl ?_
      first | ((with_reducible refine mk_nn ?_); refine n_idiv dX5_stepsLeft_47 (by omega) (by omega) (by omega) ?_) | refine e_idiv dX5_stepsLeft_47 (by decide) ?_
      refine e_iconst (v := nI 1) dX5_stepsLeft_48 rfl ?_
      first | ((with_reducible refine mk_nn ?_); refine n_iadd dX5_stepsLeft_49 ?_) | refine e_iadd dX5_stepsLeft_49 ?_
      refine e_istore_n dX5_stepsLeft_50 rfl (Nat.le_of_ble_eq_true rfl) rfl ?_
      refine e_aload_n dX5_stepsLeft_51 rfl rfl ?_
      refine e_getE dX5_stepsLeft_52 fl_X5_87 rfl (k_m2 hK (by first | omega | (simp (disch := omega) only [upN_n, upN_s]; omega))) ?_
      refine e_iconst (v := nI 4) dX5_stepsLeft_55 rfl ?_
      first | ((with_reducible refine mk_mo ?_); refine p_icmp_ne (tgt := 61) dX5_stepsLeft_56 (by decide) (fun h56 => ?_) (fun h56 => ?_)) | ((with_reducible refine mk_ms ?_); refine s_icmp_ne (tgt := 61) dX5_stepsLeft_56 (by decide) (by omega) (fun h56 => ?_) (fun h56 => ?_)) | ((with_reducible refine mk_mn ?_); refine q_icmp_ne (tgt := 61) dX5_stepsLeft_56 (by decide) (by omega) (fun h56 => ?_) (fun h56 => ?_)) | ((with_reducible refine mk_nn ?_); refine n_icmp_ne (tgt := 61) dX5_stepsLeft_56 (by decide) (by omega) (by omega) (fun h56 => ?_) (fun h56 => ?_)) | refine e_icmp_ne (tgt := 61) dX5_stepsLeft_56 (by decide) (fun h56 => ?_) (fun h56 => ?_)
      · try first | contradiction | omega
        all_goals
          refine e_aload_n dX5_stepsLeft_61 rfl rfl ?_
          refine e_getE dX5_stepsLeft_62 fl_X5_87 rfl (k_m2 hK (by first | omega | (simp (disch := omega) only [upN_n, upN_s]; omega))) ?_
          refine e_iconst (v := nI 3) dX5_stepsLeft_65 rfl ?_
          first | ((with_reducible refine mk_mo ?_); refine p_icmp_ne (tgt := 73) dX5_stepsLeft_66 (by decide) (fun h66 => ?_) (fun h66 => ?_)) | ((with_reducible refine mk_ms ?_); refine s_icmp_ne (tgt := 73) dX5_stepsLeft_66 (by decide) (by omega) (fun h66 => ?_) (fun h66 => ?_)) | ((with_reducible refine mk_mn ?_); refine q_icmp_ne (tgt := 73) dX5_stepsLeft_66 (by decide) (by omega) (fun h66 => ?_) (fun h66 => ?_)) | ((with_reducible refine mk_nn ?_); refine n_icmp_ne (tgt := 73) dX5_stepsLeft_66 (by decide) (by omega) (by omega) (fun h66 => ?_) (fun h66 => ?_)) | refine e_icmp_ne (tgt := 73) dX5_stepsLeft_66 (by decide) (fun h66 => ?_) (fun h66 => ?_)
          · try first | contradiction | omega
            all_goals
              refine e_iconst (v := nI 1) dX5_stepsLeft_73 rfl ?_
              refine e_aload_n dX5_stepsLeft_74 rfl rfl ?_
              refine e_getE dX5_stepsLeft_75 fl_X5_121 rfl (k_m1 hK (by first | omega | (simp (disch := omega) only [upN_n, upN_s]; omega))) ?_
              refine e_iload_n dX5_stepsLeft_78 rfl rfl ?_
              first | ((with_reducible refine mk_nn ?_); refine n_iadd dX5_stepsLeft_79 ?_) | refine e_iadd dX5_stepsLeft_79 ?_
              refine e_iconst (v := nI 1) dX5_stepsLeft_80 rfl ?_
              first | ((with_reducible refine mk_nn ?_); refine n_isub dX5_stepsLeft_81 (by omega) ?_) | refine e_isub dX5_stepsLeft_81 ?_
              refine e_iload_n dX5_stepsLeft_82 rfl rfl ?_
              first | ((with_reducible refine mk_nn ?_); refine n_idiv dX5_stepsLeft_83 (by omega) (by omega) (by omega) ?_) | refine e_idiv dX5_stepsLeft_83 (by decide) ?_
              refine e_mmax dX5_stepsLeft_84 ml_X5_193 sc_Mmax nz_M cd_Mmax (by decide) (Nat.le_of_ble_eq_true rfl) ?_
              rw [nI_max (by omega) (by omega), tl]
              refine e_istore dX5_stepsLeft_87 (Nat.le_of_ble_eq_true rfl) rfl ?_
              refine e_aload_n dX5_stepsLeft_89 rfl rfl ?_
              refine e_getE dX5_stepsLeft_90 fl_X5_87 rfl (k_m2 hK (by first | omega | (simp (disch := omega) only [upN_n, upN_s]; omega))) ?_
              refine e_iconst (v := nI 2) dX5_stepsLeft_93 rfl ?_
              first | ((with_reducible refine mk_mo ?_); refine p_icmp_ne (tgt := 104) dX5_stepsLeft_94 (by decide) (fun h94 => ?_) (fun h94 => ?_)) | ((with_reducible refine mk_ms ?_); refine s_icmp_ne (tgt := 104) dX5_stepsLeft_94 (by decide) (by omega) (fun h94 => ?_) (fun h94 => ?_)) | ((with_reducible refine mk_mn ?_); refine q_icmp_ne (tgt := 104) dX5_stepsLeft_94 (by decide) (by omega) (fun h94 => ?_) (fun h94 => ?_)) | ((with_reducible refine mk_nn ?_); refine n_icmp_ne (tgt := 104) dX5_stepsLeft_94 (by decide) (by omega) (by omega) (fun h94 => ?_) (fun h94 => ?_)) | refine e_icmp_ne (tgt := 104) dX5_stepsLeft_94 (by decide) (fun h94 => ?_) (fun h94 => ?_)
              · try first | contradiction | omega
                all_goals
                  refine e_aload_n dX5_stepsLeft_104 rfl rfl ?_
                  refine e_getR dX5_stepsLeft_105 fl_X5_9 rfl (cv_w cm) ?_
                  refine e_aload_n dX5_stepsLeft_108 rfl rfl ?_
                  refine e_getE dX5_stepsLeft_109 fl_X5_133 rfl (k_m5 hK (by first | omega | (simp (disch := omega) only [upN_n, upN_s]; omega))) ?_
                  refine e_aload_n dX5_stepsLeft_112 rfl rfl ?_
                  refine e_getE dX5_stepsLeft_113 fl_X5_127 rfl (k_m7 hK (by first | omega | (simp (disch := omega) only [upN_n, upN_s]; omega))) ?_
                  refine e_aload_n dX5_stepsLeft_116 rfl rfl ?_
                  refine e_getE dX5_stepsLeft_117 fl_X5_124 rfl (k_m4 hK (by first | omega | (simp (disch := omega) only [upN_n, upN_s]; omega))) ?_
                  refine x_V3 (M' := mX9_valuesIn) dX5_stepsLeft_120 ml_X5_196 ok_X9_valuesIn (by decide) rfl im_X9_valuesIn se_X9_valuesIn (ct_X9_valuesIn cm iv hK (by omega) (by omega) (by omega)) (Nat.le_of_ble_eq_true rfl) (by decide) (Nat.le_of_ble_eq_true rfl) ?_
                  refine e_iload_n dX5_stepsLeft_123 rfl rfl ?_
                  first | ((with_reducible refine mk_nn ?_); refine n_idiv dX5_stepsLeft_124 (by omega) (by omega) (by omega) ?_) | refine e_idiv dX5_stepsLeft_124 (by decide) ?_
                  refine e_iconst (v := nI 1) dX5_stepsLeft_125 rfl ?_
                  first | ((with_reducible refine mk_nn ?_); refine n_iadd dX5_stepsLeft_126 ?_) | refine e_iadd dX5_stepsLeft_126 ?_
                  refine e_iload dX5_stepsLeft_127 rfl ?_
                  first | ((with_reducible refine mk_nn ?_); refine n_iadd dX5_stepsLeft_129 ?_) | refine e_iadd dX5_stepsLeft_129 ?_
                  refine e_iconst (v := nI 1) dX5_stepsLeft_130 rfl ?_
                  first | ((with_reducible refine mk_nn ?_); refine n_iadd dX5_stepsLeft_131 ?_) | refine e_iadd dX5_stepsLeft_131 ?_
                  refine e_iload_n dX5_stepsLeft_132 rfl rfl ?_
                  first | ((with_reducible refine mk_nn ?_); refine n_iadd dX5_stepsLeft_133 ?_) | refine e_iadd dX5_stepsLeft_133 ?_
                  refine e_ret (some _) rfl (r_int dX5_stepsLeft_134 rfl) ?_
                  refine xq ?_ rfl rfl rfl rfl rfl
                  unfold lsN
                  first | (rw [if_pos (by omega)]; rfl) | (rw [if_neg (by omega), if_pos (by omega)]; rfl) | (rw [if_neg (by omega), if_neg (by omega), if_pos (by omega)]; rfl) | (rw [if_neg (by omega), if_neg (by omega), if_neg (by omega), if_pos (by omega)]; rfl)
              · try first | contradiction | omega
                all_goals
                  refine e_iload dX5_stepsLeft_97 rfl ?_
                  refine e_iconst (v := nI 1) dX5_stepsLeft_99 rfl ?_
                  first | ((with_reducible refine mk_nn ?_); refine n_iadd dX5_stepsLeft_100 ?_) | refine e_iadd dX5_stepsLeft_100 ?_
                  refine e_iload_n dX5_stepsLeft_101 rfl rfl ?_
                  first | ((with_reducible refine mk_nn ?_); refine n_iadd dX5_stepsLeft_102 ?_) | refine e_iadd dX5_stepsLeft_102 ?_
                  refine e_ret (some _) rfl (r_int dX5_stepsLeft_103 rfl) ?_
                  refine xq ?_ rfl rfl rfl rfl rfl
                  unfold lsN
                  first | (rw [if_pos (by omega)]; rfl) | (rw [if_neg (by omega), if_pos (by omega)]; rfl) | (rw [if_neg (by omega), if_neg (by omega), if_pos (by omega)]; rfl) | (rw [if_neg (by omega), if_neg (by omega), if_neg (by omega), if_pos (by omega)]; rfl)
          · try first | contradiction | omega
            all_goals
              refine e_iconst (v := nI 1) dX5_stepsLeft_69 rfl ?_
              refine e_iload_n dX5_stepsLeft_70 rfl rfl ?_
              first | ((with_reducible refine mk_nn ?_); refine n_iadd dX5_stepsLeft_71 ?_) | refine e_iadd dX5_stepsLeft_71 ?_
              refine e_ret (some _) rfl (r_int dX5_stepsLeft_72 rfl) ?_
              refine xq ?_ rfl rfl rfl rfl rfl
              unfold lsN
              first | (rw [if_pos (by omega)]; rfl) | (rw [if_neg (by omega), if_pos (by omega)]; rfl) | (rw [if_neg (by omega), if_neg (by omega), if_pos (by omega)]; rfl) | (rw [if_neg (by omega), if_neg (by omega), if_neg (by omega), if_pos (by omega)]; rfl)
      · try first | contradiction | omega
        all_goals
          refine e_iload_n dX5_stepsLeft_59 rfl rfl ?_
          refine e_ret (some _) rfl (r_int dX5_stepsLeft_60 rfl) ?_
          refine xq ?_ rfl rfl rfl rfl rfl
          unfold lsN
          first | (rw [if_pos (by omega)]; rfl) | (rw [if_neg (by omega), if_pos (by omega)]; rfl) | (rw [if_neg (by omega), if_neg (by omega), if_pos (by omega)]; rfl) | (rw [if_neg (by omega), if_neg (by omega), if_neg (by omega), if_pos (by omega)]; rfl)
  · try first | contradiction | omega
    all_goals
      refine e_aload_n dX5_stepsLeft_28 rfl rfl ?_
      refine e_getE dX5_stepsLeft_29 fl_X5_127 rfl (k_m7 hK (by first | omega | (simp (disch := omega) only [upN_n, upN_s]; omega))) ?_
      refine e_goto (tgt := 39) dX5_stepsLeft_32 (by decide) ?_
      refine e_aload_n dX5_stepsLeft_39 rfl rfl ?_
      refine e_getE dX5_stepsLeft_40 fl_X5_124 rfl (k_m4 hK (by first | omega | (simp (disch := omega) only [upN_n, upN_s]; omega))) ?_
      refine x_V3 (M' := mX9_valuesIn) dX5_stepsLeft_43 ml_X5_196 ok_X9_valuesIn (by decide) rfl im_X9_valuesIn se_X9_valuesIn (ct_X9_valuesIn cm iv hK (by omega) (by omega) (by omega)) (Nat.le_of_ble_eq_true rfl) (by decide) (Nat.le_of_ble_eq_true rfl) ?_
      refine e_iload_n dX5_stepsLeft_46 rfl rfl ?_
      first | ((with_reducible refine mk_nn ?_); refine n_idiv dX5_stepsLeft_47 (by omega) (by omega) (by omega) ?_) | refine e_idiv dX5_stepsLeft_47 (by decide) ?_
      refine e_iconst (v := nI 1) dX5_stepsLeft_48 rfl ?_
      first | ((with_reducible refine mk_nn ?_); refine n_iadd dX5_stepsLeft_49 ?_) | refine e_iadd dX5_stepsLeft_49 ?_
      refine e_istore_n dX5_stepsLeft_50 rfl (Nat.le_of_ble_eq_true rfl) rfl ?_
      refine e_aload_n dX5_stepsLeft_51 rfl rfl ?_
      refine e_getE dX5_stepsLeft_52 fl_X5_87 rfl (k_m2 hK (by first | omega | (simp (disch := omega) only [upN_n, upN_s]; omega))) ?_
      refine e_iconst (v := nI 4) dX5_stepsLeft_55 rfl ?_
      first | ((with_reducible refine mk_mo ?_); refine p_icmp_ne (tgt := 61) dX5_stepsLeft_56 (by decide) (fun h56 => ?_) (fun h56 => ?_)) | ((with_reducible refine mk_ms ?_); refine s_icmp_ne (tgt := 61) dX5_stepsLeft_56 (by decide) (by omega) (fun h56 => ?_) (fun h56 => ?_)) | ((with_reducible refine mk_mn ?_); refine q_icmp_ne (tgt := 61) dX5_stepsLeft_56 (by decide) (by omega) (fun h56 => ?_) (fun h56 => ?_)) | ((with_reducible refine mk_nn ?_); refine n_icmp_ne (tgt := 61) dX5_stepsLeft_56 (by decide) (by omega) (by omega) (fun h56 => ?_) (fun h56 => ?_)) | refine e_icmp_ne (tgt := 61) dX5_stepsLeft_56 (by decide) (fun h56 => ?_) (fun h56 => ?_)
      · try first | contradiction | omega
        all_goals
          refine e_aload_n dX5_stepsLeft_61 rfl rfl ?_
          refine e_getE dX5_stepsLeft_62 fl_X5_87 rfl (k_m2 hK (by first | omega | (simp (disch := omega) only [upN_n, upN_s]; omega))) ?_
          refine e_iconst (v := nI 3) dX5_stepsLeft_65 rfl ?_
          first | ((with_reducible refine mk_mo ?_); refine p_icmp_ne (tgt := 73) dX5_stepsLeft_66 (by decide) (fun h66 => ?_) (fun h66 => ?_)) | ((with_reducible refine mk_ms ?_); refine s_icmp_ne (tgt := 73) dX5_stepsLeft_66 (by decide) (by omega) (fun h66 => ?_) (fun h66 => ?_)) | ((with_reducible refine mk_mn ?_); refine q_icmp_ne (tgt := 73) dX5_stepsLeft_66 (by decide) (by omega) (fun h66 => ?_) (fun h66 => ?_)) | ((with_reducible refine mk_nn ?_); refine n_icmp_ne (tgt := 73) dX5_stepsLeft_66 (by decide) (by omega) (by omega) (fun h66 => ?_) (fun h66 => ?_)) | refine e_icmp_ne (tgt := 73) dX5_stepsLeft_66 (by decide) (fun h66 => ?_) (fun h66 => ?_)
          · try first | contradiction | omega
            all_goals
              refine e_iconst (v := nI 1) dX5_stepsLeft_73 rfl ?_
              refine e_aload_n dX5_stepsLeft_74 rfl rfl ?_
              refine e_getE dX5_stepsLeft_75 fl_X5_121 rfl (k_m1 hK (by first | omega | (simp (disch := omega) only [upN_n, upN_s]; omega))) ?_
              refine e_iload_n dX5_stepsLeft_78 rfl rfl ?_
              first | ((with_reducible refine mk_nn ?_); refine n_iadd dX5_stepsLeft_79 ?_) | refine e_iadd dX5_stepsLeft_79 ?_
              refine e_iconst (v := nI 1) dX5_stepsLeft_80 rfl ?_
              first | ((with_reducible refine mk_nn ?_); refine n_isub dX5_stepsLeft_81 (by omega) ?_) | refine e_isub dX5_stepsLeft_81 ?_
              refine e_iload_n dX5_stepsLeft_82 rfl rfl ?_
              first | ((with_reducible refine mk_nn ?_); refine n_idiv dX5_stepsLeft_83 (by omega) (by omega) (by omega) ?_) | refine e_idiv dX5_stepsLeft_83 (by decide) ?_
              refine e_mmax dX5_stepsLeft_84 ml_X5_193 sc_Mmax nz_M cd_Mmax (by decide) (Nat.le_of_ble_eq_true rfl) ?_
              rw [nI_max (by omega) (by omega), tl]
              refine e_istore dX5_stepsLeft_87 (Nat.le_of_ble_eq_true rfl) rfl ?_
              refine e_aload_n dX5_stepsLeft_89 rfl rfl ?_
              refine e_getE dX5_stepsLeft_90 fl_X5_87 rfl (k_m2 hK (by first | omega | (simp (disch := omega) only [upN_n, upN_s]; omega))) ?_
              refine e_iconst (v := nI 2) dX5_stepsLeft_93 rfl ?_
              first | ((with_reducible refine mk_mo ?_); refine p_icmp_ne (tgt := 104) dX5_stepsLeft_94 (by decide) (fun h94 => ?_) (fun h94 => ?_)) | ((with_reducible refine mk_ms ?_); refine s_icmp_ne (tgt := 104) dX5_stepsLeft_94 (by decide) (by omega) (fun h94 => ?_) (fun h94 => ?_)) | ((with_reducible refine mk_mn ?_); refine q_icmp_ne (tgt := 104) dX5_stepsLeft_94 (by decide) (by omega) (fun h94 => ?_) (fun h94 => ?_)) | ((with_reducible refine mk_nn ?_); refine n_icmp_ne (tgt := 104) dX5_stepsLeft_94 (by decide) (by omega) (by omega) (fun h94 => ?_) (fun h94 => ?_)) | refine e_icmp_ne (tgt := 104) dX5_stepsLeft_94 (by decide) (fun h94 => ?_) (fun h94 => ?_)
              · try first | contradiction | omega
                all_goals
                  refine e_aload_n dX5_stepsLeft_104 rfl rfl ?_
                  refine e_getR dX5_stepsLeft_105 fl_X5_9 rfl (cv_w cm) ?_
                  refine e_aload_n dX5_stepsLeft_108 rfl rfl ?_
                  refine e_getE dX5_stepsLeft_109 fl_X5_133 rfl (k_m5 hK (by first | omega | (simp (disch := omega) only [upN_n, upN_s]; omega))) ?_
                  refine e_aload_n dX5_stepsLeft_112 rfl rfl ?_
                  refine e_getE dX5_stepsLeft_113 fl_X5_127 rfl (k_m7 hK (by first | omega | (simp (disch := omega) only [upN_n, upN_s]; omega))) ?_
                  refine e_aload_n dX5_stepsLeft_116 rfl rfl ?_
                  refine e_getE dX5_stepsLeft_117 fl_X5_124 rfl (k_m4 hK (by first | omega | (simp (disch := omega) only [upN_n, upN_s]; omega))) ?_
                  refine x_V3 (M' := mX9_valuesIn) dX5_stepsLeft_120 ml_X5_196 ok_X9_valuesIn (by decide) rfl im_X9_valuesIn se_X9_valuesIn (ct_X9_valuesIn cm iv hK (by omega) (by omega) (by omega)) (Nat.le_of_ble_eq_true rfl) (by decide) (Nat.le_of_ble_eq_true rfl) ?_
                  refine e_iload_n dX5_stepsLeft_123 rfl rfl ?_
                  first | ((with_reducible refine mk_nn ?_); refine n_idiv dX5_stepsLeft_124 (by omega) (by omega) (by omega) ?_) | refine e_idiv dX5_stepsLeft_124 (by decide) ?_
                  refine e_iconst (v := nI 1) dX5_stepsLeft_125 rfl ?_
                  first | ((with_reducible refine mk_nn ?_); refine n_iadd dX5_stepsLeft_126 ?_) | refine e_iadd dX5_stepsLeft_126 ?_
                  refine e_iload dX5_stepsLeft_127 rfl ?_
                  first | ((with_reducible refine mk_nn ?_); refine n_iadd dX5_stepsLeft_129 ?_) | refine e_iadd dX5_stepsLeft_129 ?_
                  refine e_iconst (v := nI 1) dX5_stepsLeft_130 rfl ?_
                  first | ((with_reducible refine mk_nn ?_); refine n_iadd dX5_stepsLeft_131 ?_) | refine e_iadd dX5_stepsLeft_131 ?_
                  refine e_iload_n dX5_stepsLeft_132 rfl rfl ?_
                  first | ((with_reducible refine mk_nn ?_); refine n_iadd dX5_stepsLeft_133 ?_) | refine e_iadd dX5_stepsLeft_133 ?_
                  refine e_ret (some _) rfl (r_int dX5_stepsLeft_134 rfl) ?_
                  refine xq ?_ rfl rfl rfl rfl rfl
                  unfold lsN
                  first | (rw [if_pos (by omega)]; rfl) | (rw [if_neg (by omega), if_pos (by omega)]; rfl) | (rw [if_neg (by omega), if_neg (by omega), if_pos (by omega)]; rfl) | (rw [if_neg (by omega), if_neg (by omega), if_neg (by omega), if_pos (by omega)]; rfl)
              · try first | contradiction | omega
                all_goals
                  refine e_iload dX5_stepsLeft_97 rfl ?_
                  refine e_iconst (v := nI 1) dX5_stepsLeft_99 rfl ?_
                  first | ((with_reducible refine mk_nn ?_); refine n_iadd dX5_stepsLeft_100 ?_) | refine e_iadd dX5_stepsLeft_100 ?_
                  refine e_iload_n dX5_stepsLeft_101 rfl rfl ?_
                  first | ((with_reducible refine mk_nn ?_); refine n_iadd dX5_stepsLeft_102 ?_) | refine e_iadd dX5_stepsLeft_102 ?_
                  refine e_ret (some _) rfl (r_int dX5_stepsLeft_103 rfl) ?_
                  refine xq ?_ rfl rfl rfl rfl rfl
                  unfold lsN
                  first | (rw [if_pos (by omega)]; rfl) | (rw [if_neg (by omega), if_pos (by omega)]; rfl) | (rw [if_neg (by omega), if_neg (by omega), if_pos (by omega)]; rfl) | (rw [if_neg (by omega), if_neg (by omega), if_neg (by omega), if_pos (by omega)]; rfl)
          · try first | contradiction | omega
            all_goals
              refine e_iconst (v := nI 1) dX5_stepsLeft_69 rfl ?_
              refine e_iload_n dX5_stepsLeft_70 rfl rfl ?_
              first | ((with_reducible refine mk_nn ?_); refine n_iadd dX5_stepsLeft_71 ?_) | refine e_iadd dX5_stepsLeft_71 ?_
              refine e_ret (some _) rfl (r_int dX5_stepsLeft_72 rfl) ?_
              refine xq ?_ rfl rfl rfl rfl rfl
              unfold lsN
              first | (rw [if_pos (by omega)]; rfl) | (rw [if_neg (by omega), if_pos (by omega)]; rfl) | (rw [if_neg (by omega), if_neg (by omega), if_pos (by omega)]; rfl) | (rw [if_neg (by omega), if_neg (by omega), if_neg (by omega), if_pos (by omega)]; rfl)
      · try first | contradiction | omega
        all_goals
          refine e_iload_n dX5_stepsLeft_59 rfl rfl ?_
          refine e_ret (some _) rfl (r_int dX5_stepsLeft_60 rfl) ?_
          refine xq ?_ rfl rfl rfl rfl rfl
          unfold lsN
          first | (rw [if_pos (by omega)]; rfl) | (rw [if_neg (by omega), if_pos (by omega)]; rfl) | (rw [if_neg (by omega), if_neg (by omega), if_pos (by omega)]; rfl) | (rw [if_neg (by omega), if_neg (by omega), if_neg (by omega), if_pos (by omega)]; rfl)
