theorem ct_X10_count {fi : FI} {fr : FR} {ai : FI} {ar : FR} {N : Nat} {w lg : Nat → Nat} {E : Nat} (cm : CM fr ar) (iv : Inv w) (hK : K fi ai w lg E) (x : Int32) : CP mX10_count 0 0 0 [.ref (rf 10 0), .int x] fi fr ai ar N (xQ (some (.int (couR w x))) fi fr ai ar N) := by
  have h1 := iv_n iv
  have h3 := iv_mm iv
  have bd := Bd_iv iv
  have hF : FR1 fi ai fi ai := FR1_rf
  change EV mX10_count 0 0 0 0 [some (.ref (rf 10 0)), some (.int x)] [] fi fr ai ar N (xQ (some (.int (couR w x))) fi fr ai ar N)
  have t15 : (nI 15).toInt = 15 := by decide
  cases hx : inR x 15 with
  | false =>
    have e : couR w x = -1 := by unfold couR; rw [hx]; rfl
    have hf := inR_f hx
    rw [e]
    refine e_iload_n dX10_count_0 rfl rfl ?_
    first | ((with_reducible refine mk_ll ?_); refine m_if_lt (tgt := 10) dX10_count_1 (by decide) (by omega) (by omega) (fun h1 => ?_) (fun h1 => ?_)) | ((with_reducible refine mk_lc ?_); refine l_if_lt (tgt := 10) dX10_count_1 (by decide) (fun h1 => ?_) (fun h1 => ?_)) | ((with_reducible refine mk_n ?_); refine n_if_lt (tgt := 10) dX10_count_1 (by decide) (by omega) (fun h1 => ?_) (fun h1 => ?_)) | refine e_if_lt (tgt := 10) dX10_count_1 (by decide) (fun h1 => ?_) (fun h1 => ?_)
    · try first | contradiction | omega
      all_goals
        refine e_iconst (v := -1) dX10_count_10 rfl ?_
        refine e_ret (some _) rfl (r_int dX10_count_11 rfl) ?_
        exact xq rfl rfl rfl rfl rfl rfl
    · try first | contradiction | omega
      all_goals
        refine e_iload_n dX10_count_4 rfl rfl ?_
        refine e_bipush (v := nI 15) dX10_count_5 rfl ?_
        first | ((with_reducible refine mk_nn ?_); refine n_icmp_lt (tgt := 12) dX10_count_7 (by decide) (by omega) (by omega) (fun h7 => ?_) (fun h7 => ?_)) | refine e_icmp_lt (tgt := 12) dX10_count_7 (by decide) (fun h7 => ?_) (fun h7 => ?_)
        · try first | contradiction | omega
          all_goals
            exfalso; simp only [Int32.lt_iff_toInt_lt, Int32.le_iff_toInt_le, z_toInt, t15] at *; omega
        · try first | contradiction | omega
          all_goals
            refine e_iconst (v := -1) dX10_count_10 rfl ?_
            refine e_ret (some _) rfl (r_int dX10_count_11 rfl) ?_
            exact xq rfl rfl rfl rfl rfl rfl
  | true =>
    obtain ⟨j, hj, hj2, rfl⟩ := inR_ex hx
    have e : couR w (nI j) = nI (w (8558 + j)) := by unfold couR; rw [hx, if_pos rfl, nI_clamp hj2]
    rw [e]
    refine e_iload_n dX10_count_0 rfl rfl ?_
    first | ((with_reducible refine mk_ll ?_); refine m_if_lt (tgt := 10) dX10_count_1 (by decide) (by omega) (by omega) (fun h1 => ?_) (fun h1 => ?_)) | ((with_reducible refine mk_lc ?_); refine l_if_lt (tgt := 10) dX10_count_1 (by decide) (fun h1 => ?_) (fun h1 => ?_)) | ((with_reducible refine mk_n ?_); refine n_if_lt (tgt := 10) dX10_count_1 (by decide) (by omega) (fun h1 => ?_) (fun h1 => ?_)) | refine e_if_lt (tgt := 10) dX10_count_1 (by decide) (fun h1 => ?_) (fun h1 => ?_)
    · try first | contradiction | omega
      all_goals
        omega
    · try first | contradiction | omega
      all_goals
        refine e_iload_n dX10_count_4 rfl rfl ?_
        refine e_bipush (v := nI 15) dX10_count_5 rfl ?_
        first | ((with_reducible refine mk_nn ?_); refine n_icmp_lt (tgt := 12) dX10_count_7 (by decide) (by omega) (by omega) (fun h7 => ?_) (fun h7 => ?_)) | refine e_icmp_lt (tgt := 12) dX10_count_7 (by decide) (fun h7 => ?_) (fun h7 => ?_)
        · try first | contradiction | omega
          all_goals
            refine e_aload_n dX10_count_12 rfl rfl ?_
            refine e_getR dX10_count_13 fl_X10_22 rfl (cx_1 cm) ?_
            refine e_getR dX10_count_16 fl_X10_347 rfl (cl_cnt cm) ?_
            refine e_iload_n dX10_count_19 rfl rfl ?_
            refine e_iadE _ dX10_count_20 ⟨by decide, by decide⟩ rfl rfl (by simp only [lenK]; omega) (k_cnt hK (by first | omega | (simp (disch := omega) only [upN_n, upN_s]; omega))) ?_
            refine e_ret (some _) rfl (r_int dX10_count_21 rfl) ?_
            exact xq rfl rfl rfl rfl rfl rfl
        · try first | contradiction | omega
          all_goals
            omega
theorem ct_X10_stored {fi : FI} {fr : FR} {ai : FI} {ar : FR} {N : Nat} {w lg : Nat → Nat} {E : Nat} (cm : CM fr ar) (iv : Inv w) (hK : K fi ai w lg E) (x y : Int32) : CP mX10_stored 1 0 0 [.ref (rf 10 0), .int x, .int y] fi fr ai ar N (xQ (some (.int (stoR w x y))) fi fr ai ar N) := by
  have h1 := iv_n iv
  have h3 := iv_mm iv
  have bd := Bd_iv iv
  have hF : FR1 fi ai fi ai := FR1_rf
  change EV mX10_stored 1 0 0 0 [some (.ref (rf 10 0)), some (.int x), some (.int y)] [] fi fr ai ar N (xQ (some (.int (stoR w x y))) fi fr ai ar N)
  cases hx : inR x 6 with
  | false =>
    have e : stoR w x y = -1 := by unfold stoR; rw [if_neg (fun z => by rw [hx] at z; exact absurd z.1 (by decide))]
    rw [e]
    refine e_iload_n dX10_stored_0 rfl rfl ?_
    refine x_S1 (M' := mX10_isServer) dX10_stored_1 ml_X10_264 ok_X10_isServer rfl sc_X10_isServer (ct_X10_isServer _) (Nat.le_of_ble_eq_true rfl) (by decide) (Nat.le_of_ble_eq_true rfl) ?_
    rw [hx]
    first | ((with_reducible refine mk_b ?_); refine b_if_eq (tgt := 14) dX10_stored_4 (by decide) (fun h4 => ?_) (fun h4 => ?_)) | ((with_reducible refine mk_ll ?_); refine m_if_eq (tgt := 14) dX10_stored_4 (by decide) (by omega) (by omega) (fun h4 => ?_) (fun h4 => ?_)) | ((with_reducible refine mk_lc ?_); refine l_if_eq (tgt := 14) dX10_stored_4 (by decide) (fun h4 => ?_) (fun h4 => ?_)) | ((with_reducible refine mk_n ?_); refine n_if_eq (tgt := 14) dX10_stored_4 (by decide) (by omega) (fun h4 => ?_) (fun h4 => ?_)) | refine e_if_eq (tgt := 14) dX10_stored_4 (by decide) (fun h4 => ?_) (fun h4 => ?_)
    · try first | contradiction | omega | (simp only [decide_eq_true_eq, decide_eq_false_iff_not] at h4; omega)
      all_goals
        refine e_iconst (v := -1) dX10_stored_14 rfl ?_
        refine e_ret (some _) rfl (r_int dX10_stored_15 rfl) ?_
        exact xq rfl rfl rfl rfl rfl rfl
    · try first | contradiction | omega | (simp only [decide_eq_true_eq, decide_eq_false_iff_not] at h4; omega)
      all_goals
        contradiction
  | true =>
    cases hy : inR y 1000 with
    | false =>
      have e : stoR w x y = -1 := by unfold stoR; rw [if_neg (fun z => by rw [hy] at z; exact absurd z.2 (by decide))]
      rw [e]
      refine e_iload_n dX10_stored_0 rfl rfl ?_
      refine x_S1 (M' := mX10_isServer) dX10_stored_1 ml_X10_264 ok_X10_isServer rfl sc_X10_isServer (ct_X10_isServer _) (Nat.le_of_ble_eq_true rfl) (by decide) (Nat.le_of_ble_eq_true rfl) ?_
      rw [hx]
      first | ((with_reducible refine mk_b ?_); refine b_if_eq (tgt := 14) dX10_stored_4 (by decide) (fun h4 => ?_) (fun h4 => ?_)) | ((with_reducible refine mk_ll ?_); refine m_if_eq (tgt := 14) dX10_stored_4 (by decide) (by omega) (by omega) (fun h4 => ?_) (fun h4 => ?_)) | ((with_reducible refine mk_lc ?_); refine l_if_eq (tgt := 14) dX10_stored_4 (by decide) (fun h4 => ?_) (fun h4 => ?_)) | ((with_reducible refine mk_n ?_); refine n_if_eq (tgt := 14) dX10_stored_4 (by decide) (by omega) (fun h4 => ?_) (fun h4 => ?_)) | refine e_if_eq (tgt := 14) dX10_stored_4 (by decide) (fun h4 => ?_) (fun h4 => ?_)
      · try first | contradiction | omega | (simp only [decide_eq_true_eq, decide_eq_false_iff_not] at h4; omega)
        all_goals
          refine e_iconst (v := -1) dX10_stored_14 rfl ?_
          refine e_ret (some _) rfl (r_int dX10_stored_15 rfl) ?_
          exact xq rfl rfl rfl rfl rfl rfl
      · try first | contradiction | omega | (simp only [decide_eq_true_eq, decide_eq_false_iff_not] at h4; omega)
        all_goals
          refine e_iload_n dX10_stored_7 rfl rfl ?_
          refine x_S1 (M' := mX10_isKey) dX10_stored_8 ml_X10_94 ok_X10_isKey rfl sc_X10_isKey (ct_X10_isKey _) (Nat.le_of_ble_eq_true rfl) (by decide) (Nat.le_of_ble_eq_true rfl) ?_
          rw [hy]
          first | ((with_reducible refine mk_b ?_); refine b_if_ne (tgt := 16) dX10_stored_11 (by decide) (fun h11 => ?_) (fun h11 => ?_)) | ((with_reducible refine mk_ll ?_); refine m_if_ne (tgt := 16) dX10_stored_11 (by decide) (by omega) (by omega) (fun h11 => ?_) (fun h11 => ?_)) | ((with_reducible refine mk_lc ?_); refine l_if_ne (tgt := 16) dX10_stored_11 (by decide) (fun h11 => ?_) (fun h11 => ?_)) | ((with_reducible refine mk_n ?_); refine n_if_ne (tgt := 16) dX10_stored_11 (by decide) (by omega) (fun h11 => ?_) (fun h11 => ?_)) | refine e_if_ne (tgt := 16) dX10_stored_11 (by decide) (fun h11 => ?_) (fun h11 => ?_)
          · try first | contradiction | omega | (simp only [decide_eq_true_eq, decide_eq_false_iff_not] at h11; omega)
            all_goals
              contradiction
          · try first | contradiction | omega | (simp only [decide_eq_true_eq, decide_eq_false_iff_not] at h11; omega)
            all_goals
              refine e_iconst (v := -1) dX10_stored_14 rfl ?_
              refine e_ret (some _) rfl (r_int dX10_stored_15 rfl) ?_
              exact xq rfl rfl rfl rfl rfl rfl
    | true =>
      have hxy : inR x 6 = true ∧ inR y 1000 = true := ⟨hx, hy⟩
      obtain ⟨s, hs, hs2, rfl⟩ := inR_ex hx
      obtain ⟨k, hk, hk2, rfl⟩ := inR_ex hy
      have e : stoR w (nI s) (nI k) = nI (w (1106 + 1000 * s + k)) := by unfold stoR; rw [if_pos hxy, nI_clamp hs2, nI_clamp hk2]
      rw [e]
      refine e_iload_n dX10_stored_0 rfl rfl ?_
      refine x_S1 (M' := mX10_isServer) dX10_stored_1 ml_X10_264 ok_X10_isServer rfl sc_X10_isServer (ct_X10_isServer _) (Nat.le_of_ble_eq_true rfl) (by decide) (Nat.le_of_ble_eq_true rfl) ?_
      rw [hx]
      first | ((with_reducible refine mk_b ?_); refine b_if_eq (tgt := 14) dX10_stored_4 (by decide) (fun h4 => ?_) (fun h4 => ?_)) | ((with_reducible refine mk_ll ?_); refine m_if_eq (tgt := 14) dX10_stored_4 (by decide) (by omega) (by omega) (fun h4 => ?_) (fun h4 => ?_)) | ((with_reducible refine mk_lc ?_); refine l_if_eq (tgt := 14) dX10_stored_4 (by decide) (fun h4 => ?_) (fun h4 => ?_)) | ((with_reducible refine mk_n ?_); refine n_if_eq (tgt := 14) dX10_stored_4 (by decide) (by omega) (fun h4 => ?_) (fun h4 => ?_)) | refine e_if_eq (tgt := 14) dX10_stored_4 (by decide) (fun h4 => ?_) (fun h4 => ?_)
      · try first | contradiction | omega | (simp only [decide_eq_true_eq, decide_eq_false_iff_not] at h4; omega)
        all_goals
          contradiction
      · try first | contradiction | omega | (simp only [decide_eq_true_eq, decide_eq_false_iff_not] at h4; omega)
        all_goals
          refine e_iload_n dX10_stored_7 rfl rfl ?_
          refine x_S1 (M' := mX10_isKey) dX10_stored_8 ml_X10_94 ok_X10_isKey rfl sc_X10_isKey (ct_X10_isKey _) (Nat.le_of_ble_eq_true rfl) (by decide) (Nat.le_of_ble_eq_true rfl) ?_
          rw [hy]
          first | ((with_reducible refine mk_b ?_); refine b_if_ne (tgt := 16) dX10_stored_11 (by decide) (fun h11 => ?_) (fun h11 => ?_)) | ((with_reducible refine mk_ll ?_); refine m_if_ne (tgt := 16) dX10_stored_11 (by decide) (by omega) (by omega) (fun h11 => ?_) (fun h11 => ?_)) | ((with_reducible refine mk_lc ?_); refine l_if_ne (tgt := 16) dX10_stored_11 (by decide) (fun h11 => ?_) (fun h11 => ?_)) | ((with_reducible refine mk_n ?_); refine n_if_ne (tgt := 16) dX10_stored_11 (by decide) (by omega) (fun h11 => ?_) (fun h11 => ?_)) | refine e_if_ne (tgt := 16) dX10_stored_11 (by decide) (fun h11 => ?_) (fun h11 => ?_)
          · try first | contradiction | omega | (simp only [decide_eq_true_eq, decide_eq_false_iff_not] at h11; omega)
            all_goals
              refine e_aload_n dX10_stored_16 rfl rfl ?_
              refine e_getR dX10_stored_17 fl_X10_18 rfl (cx_0 cm) ?_
              refine e_iload_n dX10_stored_20 rfl rfl ?_
              refine e_iload_n dX10_stored_21 rfl rfl ?_
              refine x_V2 (M' := mX9_valueOf) dX10_stored_22 ml_X10_282 ok_X9_valueOf (by decide) rfl im_X9_valueOf se_X9_valueOf (ct_X9_valueOf cm iv hK (by omega) (by omega)) (Nat.le_of_ble_eq_true rfl) (by decide) (Nat.le_of_ble_eq_true rfl) ?_
              refine e_ret (some _) rfl (r_int dX10_stored_25 rfl) ?_
              exact xq rfl rfl rfl rfl rfl rfl
          · try first | contradiction | omega | (simp only [decide_eq_true_eq, decide_eq_false_iff_not] at h11; omega)
            all_goals
              contradiction
theorem ct_X10_lowOf {fi : FI} {fr : FR} {ai : FI} {ar : FR} {N : Nat} {w lg : Nat → Nat} {E : Nat} (cm : CM fr ar) (iv : Inv w) (hK : K fi ai w lg E) (x : Int32) : CP mX10_lowOf 1 0 0 [.ref (rf 10 0), .int x] fi fr ai ar N (xQ (some (.int (lowR w x))) fi fr ai ar N) := by
  have h1 := iv_n iv
  have h3 := iv_mm iv
  have bd := Bd_iv iv
  have hF : FR1 fi ai fi ai := FR1_rf
  change EV mX10_lowOf 1 0 0 0 [some (.ref (rf 10 0)), some (.int x)] [] fi fr ai ar N (xQ (some (.int (lowR w x))) fi fr ai ar N)
  cases hx : inR x 1000 with
  | false =>
    have e : lowR w x = -1 := by unfold lowR; rw [hx]; rfl
    rw [e]
    refine e_iload_n dX10_lowOf_0 rfl rfl ?_
    refine x_S1 (M' := mX10_isKey) dX10_lowOf_1 ml_X10_94 ok_X10_isKey rfl sc_X10_isKey (ct_X10_isKey _) (Nat.le_of_ble_eq_true rfl) (by decide) (Nat.le_of_ble_eq_true rfl) ?_
    rw [hx]
    first | ((with_reducible refine mk_b ?_); refine b_if_ne (tgt := 9) dX10_lowOf_4 (by decide) (fun h4 => ?_) (fun h4 => ?_)) | ((with_reducible refine mk_ll ?_); refine m_if_ne (tgt := 9) dX10_lowOf_4 (by decide) (by omega) (by omega) (fun h4 => ?_) (fun h4 => ?_)) | ((with_reducible refine mk_lc ?_); refine l_if_ne (tgt := 9) dX10_lowOf_4 (by decide) (fun h4 => ?_) (fun h4 => ?_)) | ((with_reducible refine mk_n ?_); refine n_if_ne (tgt := 9) dX10_lowOf_4 (by decide) (by omega) (fun h4 => ?_) (fun h4 => ?_)) | refine e_if_ne (tgt := 9) dX10_lowOf_4 (by decide) (fun h4 => ?_) (fun h4 => ?_)
    · try first | contradiction | omega | (simp only [decide_eq_true_eq, decide_eq_false_iff_not] at h4; omega)
      all_goals
        contradiction
    · try first | contradiction | omega | (simp only [decide_eq_true_eq, decide_eq_false_iff_not] at h4; omega)
      all_goals
        refine e_iconst (v := -1) dX10_lowOf_7 rfl ?_
        refine e_ret (some _) rfl (r_int dX10_lowOf_8 rfl) ?_
        exact xq rfl rfl rfl rfl rfl rfl
  | true =>
    obtain ⟨k, hk, hk2, rfl⟩ := inR_ex hx
    have hsp := spW_lt iv k
    have e : lowR w (nI k) = nI (w (10 + spW w k)) := by unfold lowR; rw [hx, if_pos rfl, nI_clamp hk2]
    rw [e]
    refine e_iload_n dX10_lowOf_0 rfl rfl ?_
    refine x_S1 (M' := mX10_isKey) dX10_lowOf_1 ml_X10_94 ok_X10_isKey rfl sc_X10_isKey (ct_X10_isKey _) (Nat.le_of_ble_eq_true rfl) (by decide) (Nat.le_of_ble_eq_true rfl) ?_
    rw [hx]
    first | ((with_reducible refine mk_b ?_); refine b_if_ne (tgt := 9) dX10_lowOf_4 (by decide) (fun h4 => ?_) (fun h4 => ?_)) | ((with_reducible refine mk_ll ?_); refine m_if_ne (tgt := 9) dX10_lowOf_4 (by decide) (by omega) (by omega) (fun h4 => ?_) (fun h4 => ?_)) | ((with_reducible refine mk_lc ?_); refine l_if_ne (tgt := 9) dX10_lowOf_4 (by decide) (fun h4 => ?_) (fun h4 => ?_)) | ((with_reducible refine mk_n ?_); refine n_if_ne (tgt := 9) dX10_lowOf_4 (by decide) (by omega) (fun h4 => ?_) (fun h4 => ?_)) | refine e_if_ne (tgt := 9) dX10_lowOf_4 (by decide) (fun h4 => ?_) (fun h4 => ?_)
    · try first | contradiction | omega | (simp only [decide_eq_true_eq, decide_eq_false_iff_not] at h4; omega)
      all_goals
        refine e_aload_n dX10_lowOf_9 rfl rfl ?_
        refine e_getR dX10_lowOf_10 fl_X10_18 rfl (cx_0 cm) ?_
        refine e_getR dX10_lowOf_13 fl_X10_216 rfl (cm_map cm) ?_
        refine e_getR dX10_lowOf_16 fl_X10_229 rfl (by first | exact cm_tlo cm | exact cm_ctlo cm (by omega) | assumption) ?_
        refine e_aload_n dX10_lowOf_19 rfl rfl ?_
        refine e_getR dX10_lowOf_20 fl_X10_18 rfl (cx_0 cm) ?_
        refine e_getR dX10_lowOf_23 fl_X10_216 rfl (cm_map cm) ?_
        refine e_iload_n dX10_lowOf_26 rfl rfl ?_
        refine x_V1 (M' := mX8_indexOf) dX10_lowOf_27 ml_X10_261 ok_X8_indexOf (by decide) rfl im_X8_indexOf se_X8_indexOf (by first | exact ct_X8_indexOf cm iv hK (by omega) | exact ct_cX8_indexOf cm iv hK (by omega) (by omega) (by omega)) (Nat.le_of_ble_eq_true rfl) (by decide) (Nat.le_of_ble_eq_true rfl) ?_
        refine e_iadE _ dX10_lowOf_30 ⟨by decide, by decide⟩ rfl rfl (by simp only [lenK]; omega) (by first | exact k_lo hK (by first | omega | (simp (disch := omega) only [upN_n, upN_s]; omega)) | exact k_clo hK (by omega) (by first | omega | (simp (disch := omega) only [upN_n, upN_s]; omega)) | assumption) ?_
        refine e_ret (some _) rfl (r_int dX10_lowOf_31 rfl) ?_
        exact xq rfl rfl rfl rfl rfl rfl
    · try first | contradiction | omega | (simp only [decide_eq_true_eq, decide_eq_false_iff_not] at h4; omega)
      all_goals
        contradiction
theorem ct_X10_server {fi : FI} {fr : FR} {ai : FI} {ar : FR} {N : Nat} {w lg : Nat → Nat} {E : Nat} (cm : CM fr ar) (iv : Inv w) (hK : K fi ai w lg E) (x y : Int32) : CP mX10_server 2 0 0 [.ref (rf 10 0), .int x, .int y] fi fr ai ar N (xQ (some (.int (serR w x y))) fi fr ai ar N) := by
  have h1 := iv_n iv
  have h3 := iv_mm iv
  have bd := Bd_iv iv
  have hF : FR1 fi ai fi ai := FR1_rf
  change EV mX10_server 2 0 0 0 [some (.ref (rf 10 0)), some (.int x), some (.int y)] [] fi fr ai ar N (xQ (some (.int (serR w x y))) fi fr ai ar N)
  cases hx : inR x 6 with
  | false =>
    have e : serR w x y = -1 := by unfold serR; rw [hx]; rfl
    rw [e]
    refine e_iload_n dX10_server_0 rfl rfl ?_
    refine x_S1 (M' := mX10_isServer) dX10_server_1 ml_X10_264 ok_X10_isServer rfl sc_X10_isServer (ct_X10_isServer _) (Nat.le_of_ble_eq_true rfl) (by decide) (Nat.le_of_ble_eq_true rfl) ?_
    rw [hx]
    first | ((with_reducible refine mk_b ?_); refine b_if_ne (tgt := 9) dX10_server_4 (by decide) (fun h4 => ?_) (fun h4 => ?_)) | ((with_reducible refine mk_ll ?_); refine m_if_ne (tgt := 9) dX10_server_4 (by decide) (by omega) (by omega) (fun h4 => ?_) (fun h4 => ?_)) | ((with_reducible refine mk_lc ?_); refine l_if_ne (tgt := 9) dX10_server_4 (by decide) (fun h4 => ?_) (fun h4 => ?_)) | ((with_reducible refine mk_n ?_); refine n_if_ne (tgt := 9) dX10_server_4 (by decide) (by omega) (fun h4 => ?_) (fun h4 => ?_)) | refine e_if_ne (tgt := 9) dX10_server_4 (by decide) (fun h4 => ?_) (fun h4 => ?_)
    · try first | contradiction | omega | (simp only [decide_eq_true_eq, decide_eq_false_iff_not] at h4; omega)
      all_goals
        contradiction
    · try first | contradiction | omega | (simp only [decide_eq_true_eq, decide_eq_false_iff_not] at h4; omega)
      all_goals
        refine e_iconst (v := -1) dX10_server_7 rfl ?_
        refine e_ret (some _) rfl (r_int dX10_server_8 rfl) ?_
        exact xq rfl rfl rfl rfl rfl rfl
  | true =>
    obtain ⟨s, hs, hs2, rfl⟩ := inR_ex hx
    have hu := iv_up iv hs
    have e : serR w (nI s) y = serS w s y := by unfold serR; rw [hx, if_pos rfl, nI_clamp hs2]
    have e5 : cnt (fun j => decide (0 < w (1106 + 1000 * s + (0 + j)))) (1000 - 0) = cnt (fun k => decide (0 < w (1106 + 1000 * s + k))) 1000 := by simp only [Nat.zero_add, Nat.sub_zero]
    rw [e]
    refine e_iload_n dX10_server_0 rfl rfl ?_
    refine x_S1 (M' := mX10_isServer) dX10_server_1 ml_X10_264 ok_X10_isServer rfl sc_X10_isServer (ct_X10_isServer _) (Nat.le_of_ble_eq_true rfl) (by decide) (Nat.le_of_ble_eq_true rfl) ?_
    rw [hx]
    first | ((with_reducible refine mk_b ?_); refine b_if_ne (tgt := 9) dX10_server_4 (by decide) (fun h4 => ?_) (fun h4 => ?_)) | ((with_reducible refine mk_ll ?_); refine m_if_ne (tgt := 9) dX10_server_4 (by decide) (by omega) (by omega) (fun h4 => ?_) (fun h4 => ?_)) | ((with_reducible refine mk_lc ?_); refine l_if_ne (tgt := 9) dX10_server_4 (by decide) (fun h4 => ?_) (fun h4 => ?_)) | ((with_reducible refine mk_n ?_); refine n_if_ne (tgt := 9) dX10_server_4 (by decide) (by omega) (fun h4 => ?_) (fun h4 => ?_)) | refine e_if_ne (tgt := 9) dX10_server_4 (by decide) (fun h4 => ?_) (fun h4 => ?_)
    · try first | contradiction | omega | (simp only [decide_eq_true_eq, decide_eq_false_iff_not] at h4; omega)
      all_goals
        refine e_iload_n dX10_server_9 rfl rfl ?_
        refine e_swc (tgt := 44) 0 dX10_server_10 (by decide) (by decide) rfl (by decide) (fun h10_0 => ?_) (fun h10_0 => ?_)
        · try first | contradiction | omega
          all_goals
            refine e_aload_n dX10_server_44 rfl rfl ?_
            refine e_getR dX10_server_45 fl_X10_18 rfl (cx_0 cm) ?_
            refine e_iload_n dX10_server_48 rfl rfl ?_
            refine x_V1 (M' := mX9_isUp) dX10_server_49 ml_X10_267 ok_X9_isUp (by decide) rfl im_X9_isUp se_X9_isUp (ct_X9_isUp cm iv hK (by omega)) (Nat.le_of_ble_eq_true rfl) (by decide) (Nat.le_of_ble_eq_true rfl) ?_
            first | ((with_reducible refine mk_b ?_); refine b_if_eq (tgt := 59) dX10_server_52 (by decide) (fun h52 => ?_) (fun h52 => ?_)) | ((with_reducible refine mk_ll ?_); refine m_if_eq (tgt := 59) dX10_server_52 (by decide) (by omega) (by omega) (fun h52 => ?_) (fun h52 => ?_)) | ((with_reducible refine mk_lc ?_); refine l_if_eq (tgt := 59) dX10_server_52 (by decide) (fun h52 => ?_) (fun h52 => ?_)) | ((with_reducible refine mk_n ?_); refine n_if_eq (tgt := 59) dX10_server_52 (by decide) (by omega) (fun h52 => ?_) (fun h52 => ?_)) | refine e_if_eq (tgt := 59) dX10_server_52 (by decide) (fun h52 => ?_) (fun h52 => ?_)
            · try first | contradiction | omega | (simp only [decide_eq_true_eq, decide_eq_false_iff_not] at h52; omega)
              all_goals
                refine e_iconst (v := nI 0) dX10_server_59 rfl ?_
                refine e_ret (some _) rfl (r_int dX10_server_60 rfl) ?_
                refine xq ?_ rfl rfl rfl rfl rfl
                unfold serS
                first | (rw [h10_0, if_pos rfl, show w (4 + s) = 1 by (simp only [decide_eq_true_eq] at h52; omega)]) | (rw [h10_0, if_pos rfl, show w (4 + s) = 0 by (simp only [decide_eq_false_iff_not] at h52; omega)]) | (rw [h10_1]; rfl) | (rw [h10_2, e5]; rfl) | (rw [h10_3]; rfl) | (rw [h10_4]; rfl) | (rw [if_neg h10_0, if_neg h10_1, if_neg h10_2, if_neg h10_3, if_neg h10_4])
            · try first | contradiction | omega | (simp only [decide_eq_true_eq, decide_eq_false_iff_not] at h52; omega)
              all_goals
                refine e_iconst (v := nI 1) dX10_server_55 rfl ?_
                refine e_goto (tgt := 60) dX10_server_56 (by decide) ?_
                refine e_ret (some _) rfl (r_int dX10_server_60 rfl) ?_
                refine xq ?_ rfl rfl rfl rfl rfl
                unfold serS
                first | (rw [h10_0, if_pos rfl, show w (4 + s) = 1 by (simp only [decide_eq_true_eq] at h52; omega)]) | (rw [h10_0, if_pos rfl, show w (4 + s) = 0 by (simp only [decide_eq_false_iff_not] at h52; omega)]) | (rw [h10_1]; rfl) | (rw [h10_2, e5]; rfl) | (rw [h10_3]; rfl) | (rw [h10_4]; rfl) | (rw [if_neg h10_0, if_neg h10_1, if_neg h10_2, if_neg h10_3, if_neg h10_4])
        refine e_swc (tgt := 61) 1 dX10_server_10 (by decide) (by decide) rfl (by decide) (fun h10_1 => ?_) (fun h10_1 => ?_)
        · try first | contradiction | omega
          all_goals
            refine e_aload_n dX10_server_61 rfl rfl ?_
            refine e_getR dX10_server_62 fl_X10_18 rfl (cx_0 cm) ?_
            refine e_getR dX10_server_65 fl_X10_216 rfl (cm_map cm) ?_
            refine e_iload_n dX10_server_68 rfl rfl ?_
            refine x_V1 (M' := mX8_ownedBy) dX10_server_69 ml_X10_270 ok_X8_ownedBy (by decide) rfl im_X8_ownedBy se_X8_ownedBy (ct_X8_ownedBy cm iv hK (by omega)) (Nat.le_of_ble_eq_true rfl) (by decide) (Nat.le_of_ble_eq_true rfl) ?_
            refine e_ret (some _) rfl (r_int dX10_server_72 rfl) ?_
            refine xq ?_ rfl rfl rfl rfl rfl
            unfold serS
            first | (rw [h10_0, if_pos rfl, show w (4 + s) = 1 by (simp only [decide_eq_true_eq] at h52; omega)]) | (rw [h10_0, if_pos rfl, show w (4 + s) = 0 by (simp only [decide_eq_false_iff_not] at h52; omega)]) | (rw [h10_1]; rfl) | (rw [h10_2, e5]; rfl) | (rw [h10_3]; rfl) | (rw [h10_4]; rfl) | (rw [if_neg h10_0, if_neg h10_1, if_neg h10_2, if_neg h10_3, if_neg h10_4])
        refine e_swc (tgt := 73) 2 dX10_server_10 (by decide) (by decide) rfl (by decide) (fun h10_2 => ?_) (fun h10_2 => ?_)
        · try first | contradiction | omega
          all_goals
            refine e_aload_n dX10_server_73 rfl rfl ?_
            refine e_getR dX10_server_74 fl_X10_18 rfl (cx_0 cm) ?_
            refine e_iload_n dX10_server_77 rfl rfl ?_
            refine e_iconst (v := nI 0) dX10_server_78 rfl ?_
            refine e_sipush (v := nI 1000) dX10_server_79 rfl ?_
            refine x_V3 (M' := mX9_valuesIn) dX10_server_82 ml_X10_247 ok_X9_valuesIn (by decide) rfl im_X9_valuesIn se_X9_valuesIn (ct_X9_valuesIn cm iv hK (by omega) (by omega) (by omega)) (Nat.le_of_ble_eq_true rfl) (by decide) (Nat.le_of_ble_eq_true rfl) ?_
            refine e_ret (some _) rfl (r_int dX10_server_85 rfl) ?_
            refine xq ?_ rfl rfl rfl rfl rfl
            unfold serS
            first | (rw [h10_0, if_pos rfl, show w (4 + s) = 1 by (simp only [decide_eq_true_eq] at h52; omega)]) | (rw [h10_0, if_pos rfl, show w (4 + s) = 0 by (simp only [decide_eq_false_iff_not] at h52; omega)]) | (rw [h10_1]; rfl) | (rw [h10_2, e5]; rfl) | (rw [h10_3]; rfl) | (rw [h10_4]; rfl) | (rw [if_neg h10_0, if_neg h10_1, if_neg h10_2, if_neg h10_3, if_neg h10_4])
        refine e_swc (tgt := 86) 3 dX10_server_10 (by decide) (by decide) rfl (by decide) (fun h10_3 => ?_) (fun h10_3 => ?_)
        · try first | contradiction | omega
          all_goals
            refine e_aload_n dX10_server_86 rfl rfl ?_
            refine e_getR dX10_server_87 fl_X10_18 rfl (cx_0 cm) ?_
            refine e_iload_n dX10_server_90 rfl rfl ?_
            refine x_V1 (M' := mX9_movesFrom) dX10_server_91 ml_X10_273 ok_X9_movesFrom (by decide) rfl im_X9_movesFrom se_X9_movesFrom (ct_X9_movesFrom cm iv hK (by omega)) (Nat.le_of_ble_eq_true rfl) (by decide) (Nat.le_of_ble_eq_true rfl) ?_
            refine e_ret (some _) rfl (r_int dX10_server_94 rfl) ?_
            refine xq ?_ rfl rfl rfl rfl rfl
            unfold serS
            first | (rw [h10_0, if_pos rfl, show w (4 + s) = 1 by (simp only [decide_eq_true_eq] at h52; omega)]) | (rw [h10_0, if_pos rfl, show w (4 + s) = 0 by (simp only [decide_eq_false_iff_not] at h52; omega)]) | (rw [h10_1]; rfl) | (rw [h10_2, e5]; rfl) | (rw [h10_3]; rfl) | (rw [h10_4]; rfl) | (rw [if_neg h10_0, if_neg h10_1, if_neg h10_2, if_neg h10_3, if_neg h10_4])
        refine e_swc (tgt := 95) 4 dX10_server_10 (by decide) (by decide) rfl (by decide) (fun h10_4 => ?_) (fun h10_4 => ?_)
        · try first | contradiction | omega
          all_goals
            refine e_aload_n dX10_server_95 rfl rfl ?_
            refine e_getR dX10_server_96 fl_X10_18 rfl (cx_0 cm) ?_
            refine e_iload_n dX10_server_99 rfl rfl ?_
            refine x_V1 (M' := mX9_movesTo) dX10_server_100 ml_X10_276 ok_X9_movesTo (by decide) rfl im_X9_movesTo se_X9_movesTo (ct_X9_movesTo cm iv hK (by omega)) (Nat.le_of_ble_eq_true rfl) (by decide) (Nat.le_of_ble_eq_true rfl) ?_
            refine e_ret (some _) rfl (r_int dX10_server_103 rfl) ?_
            refine xq ?_ rfl rfl rfl rfl rfl
            unfold serS
            first | (rw [h10_0, if_pos rfl, show w (4 + s) = 1 by (simp only [decide_eq_true_eq] at h52; omega)]) | (rw [h10_0, if_pos rfl, show w (4 + s) = 0 by (simp only [decide_eq_false_iff_not] at h52; omega)]) | (rw [h10_1]; rfl) | (rw [h10_2, e5]; rfl) | (rw [h10_3]; rfl) | (rw [h10_4]; rfl) | (rw [if_neg h10_0, if_neg h10_1, if_neg h10_2, if_neg h10_3, if_neg h10_4])
        refine e_tableOut (tgt := 104) dX10_server_10 (by omega) (by decide) ?_
        refine e_iconst (v := -1) dX10_server_104 rfl ?_
        refine e_ret (some _) rfl (r_int dX10_server_105 rfl) ?_
        refine xq ?_ rfl rfl rfl rfl rfl
        unfold serS
        first | (rw [h10_0, if_pos rfl, show w (4 + s) = 1 by (simp only [decide_eq_true_eq] at h52; omega)]) | (rw [h10_0, if_pos rfl, show w (4 + s) = 0 by (simp only [decide_eq_false_iff_not] at h52; omega)]) | (rw [h10_1]; rfl) | (rw [h10_2, e5]; rfl) | (rw [h10_3]; rfl) | (rw [h10_4]; rfl) | (rw [if_neg h10_0, if_neg h10_1, if_neg h10_2, if_neg h10_3, if_neg h10_4])
    · try first | contradiction | omega | (simp only [decide_eq_true_eq, decide_eq_false_iff_not] at h4; omega)
      all_goals
        contradiction
theorem ct_X10_span {fi : FI} {fr : FR} {ai : FI} {ar : FR} {N : Nat} {w lg : Nat → Nat} {E : Nat} (cm : CM fr ar) (iv : Inv w) (hK : K fi ai w lg E) (x y : Int32) : CP mX10_span 3 0 0 [.ref (rf 10 0), .int x, .int y] fi fr ai ar N (xQ (some (.int (spaR w x y))) fi fr ai ar N) := by
  have h1 := iv_n iv
  have h3 := iv_mm iv
  have bd := Bd_iv iv
  have hF : FR1 fi ai fi ai := FR1_rf
  change EV mX10_span 3 0 0 0 [some (.ref (rf 10 0)), some (.int x), some (.int y), none] [] fi fr ai ar N (xQ (some (.int (spaR w x y))) fi fr ai ar N)
  by_cases hx1 : x = -1
  · have e : spaR w x y = nI (w 1) := by unfold spaR; rw [if_pos hx1]
    rw [e]
    subst hx1
    refine e_aload_n dX10_span_0 rfl rfl ?_
    refine e_getR dX10_span_1 fl_X10_18 rfl (cx_0 cm) ?_
    refine e_getR dX10_span_4 fl_X10_216 rfl (cm_map cm) ?_
    refine e_astore_n dX10_span_7 rfl (Nat.le_of_ble_eq_true rfl) rfl ?_
    refine e_iload_n dX10_span_8 rfl rfl ?_
    refine e_iconst (v := -1) dX10_span_9 rfl ?_
    first | ((with_reducible refine mk_mo ?_); refine p_icmp_ne (tgt := 18) dX10_span_10 (by decide) (fun h10 => ?_) (fun h10 => ?_)) | ((with_reducible refine mk_ms ?_); refine s_icmp_ne (tgt := 18) dX10_span_10 (by decide) (by omega) (fun h10 => ?_) (fun h10 => ?_)) | ((with_reducible refine mk_mn ?_); refine q_icmp_ne (tgt := 18) dX10_span_10 (by decide) (by omega) (fun h10 => ?_) (fun h10 => ?_)) | ((with_reducible refine mk_nn ?_); refine n_icmp_ne (tgt := 18) dX10_span_10 (by decide) (by omega) (by omega) (fun h10 => ?_) (fun h10 => ?_)) | refine e_icmp_ne (tgt := 18) dX10_span_10 (by decide) (fun h10 => ?_) (fun h10 => ?_)
    · try first | contradiction | omega
      all_goals
        exact absurd rfl h10
    · try first | contradiction | omega
      all_goals
        refine e_aload_n dX10_span_13 rfl rfl ?_
        refine e_getE dX10_span_14 fl_X10_223 rfl (by first | exact k_n hK | exact k_cn hK (by first | omega | (simp (disch := omega) only [upN_n, upN_s]; omega)) | assumption) ?_
        refine e_ret (some _) rfl (r_int dX10_span_17 rfl) ?_
        exact xq rfl rfl rfl rfl rfl rfl
  · have e : spaR w x y = if inR x (w 1) then spaS w x.toNatClampNeg y else -1 := by unfold spaR; rw [if_neg hx1]
    rw [e]
    cases hx : inR x (w 1) with
    | false =>
      rw [if_neg (by decide)]
      refine e_aload_n dX10_span_0 rfl rfl ?_
      refine e_getR dX10_span_1 fl_X10_18 rfl (cx_0 cm) ?_
      refine e_getR dX10_span_4 fl_X10_216 rfl (cm_map cm) ?_
      refine e_astore_n dX10_span_7 rfl (Nat.le_of_ble_eq_true rfl) rfl ?_
      refine e_iload_n dX10_span_8 rfl rfl ?_
      refine e_iconst (v := -1) dX10_span_9 rfl ?_
      first | ((with_reducible refine mk_mo ?_); refine p_icmp_ne (tgt := 18) dX10_span_10 (by decide) (fun h10 => ?_) (fun h10 => ?_)) | ((with_reducible refine mk_ms ?_); refine s_icmp_ne (tgt := 18) dX10_span_10 (by decide) (by omega) (fun h10 => ?_) (fun h10 => ?_)) | ((with_reducible refine mk_mn ?_); refine q_icmp_ne (tgt := 18) dX10_span_10 (by decide) (by omega) (fun h10 => ?_) (fun h10 => ?_)) | ((with_reducible refine mk_nn ?_); refine n_icmp_ne (tgt := 18) dX10_span_10 (by decide) (by omega) (by omega) (fun h10 => ?_) (fun h10 => ?_)) | refine e_icmp_ne (tgt := 18) dX10_span_10 (by decide) (fun h10 => ?_) (fun h10 => ?_)
      · try first | contradiction | omega
        all_goals
          refine e_aload_n dX10_span_18 rfl rfl ?_
          refine e_iload_n dX10_span_19 rfl rfl ?_
          refine x_V1 (M' := mX8_has) dX10_span_20 ml_X10_226 ok_X8_has (by decide) rfl im_X8_has se_X8_has (ct_X8_has cm iv hK _) (Nat.le_of_ble_eq_true rfl) (by decide) (Nat.le_of_ble_eq_true rfl) ?_
          rw [hx]
          first | ((with_reducible refine mk_b ?_); refine b_if_ne (tgt := 28) dX10_span_23 (by decide) (fun h23 => ?_) (fun h23 => ?_)) | ((with_reducible refine mk_ll ?_); refine m_if_ne (tgt := 28) dX10_span_23 (by decide) (by omega) (by omega) (fun h23 => ?_) (fun h23 => ?_)) | ((with_reducible refine mk_lc ?_); refine l_if_ne (tgt := 28) dX10_span_23 (by decide) (fun h23 => ?_) (fun h23 => ?_)) | ((with_reducible refine mk_n ?_); refine n_if_ne (tgt := 28) dX10_span_23 (by decide) (by omega) (fun h23 => ?_) (fun h23 => ?_)) | refine e_if_ne (tgt := 28) dX10_span_23 (by decide) (fun h23 => ?_) (fun h23 => ?_)
          · try first | contradiction | omega | (simp only [decide_eq_true_eq, decide_eq_false_iff_not] at h23; omega)
            all_goals
              contradiction
          · try first | contradiction | omega | (simp only [decide_eq_true_eq, decide_eq_false_iff_not] at h23; omega)
            all_goals
              refine e_iconst (v := -1) dX10_span_26 rfl ?_
              refine e_ret (some _) rfl (r_int dX10_span_27 rfl) ?_
              exact xq rfl rfl rfl rfl rfl rfl
      · try first | contradiction | omega
        all_goals
          first | contradiction | exact absurd (Decidable.not_not.mp h10) hx1 | exact absurd h10 hx1
    | true =>
      obtain ⟨i, hi, hi2, rfl⟩ := inR_ex hx
      have hl := iv_low iv hi
      have ho := iv_own iv hi
      have he := enF_le iv hi
      rw [if_pos rfl, nI_clamp hi2]
      refine e_aload_n dX10_span_0 rfl rfl ?_
      refine e_getR dX10_span_1 fl_X10_18 rfl (cx_0 cm) ?_
      refine e_getR dX10_span_4 fl_X10_216 rfl (cm_map cm) ?_
      refine e_astore_n dX10_span_7 rfl (Nat.le_of_ble_eq_true rfl) rfl ?_
      refine e_iload_n dX10_span_8 rfl rfl ?_
      refine e_iconst (v := -1) dX10_span_9 rfl ?_
      first | ((with_reducible refine mk_mo ?_); refine p_icmp_ne (tgt := 18) dX10_span_10 (by decide) (fun h10 => ?_) (fun h10 => ?_)) | ((with_reducible refine mk_ms ?_); refine s_icmp_ne (tgt := 18) dX10_span_10 (by decide) (by omega) (fun h10 => ?_) (fun h10 => ?_)) | ((with_reducible refine mk_mn ?_); refine q_icmp_ne (tgt := 18) dX10_span_10 (by decide) (by omega) (fun h10 => ?_) (fun h10 => ?_)) | ((with_reducible refine mk_nn ?_); refine n_icmp_ne (tgt := 18) dX10_span_10 (by decide) (by omega) (by omega) (fun h10 => ?_) (fun h10 => ?_)) | refine e_icmp_ne (tgt := 18) dX10_span_10 (by decide) (fun h10 => ?_) (fun h10 => ?_)
      · try first | contradiction | omega
        all_goals
          refine e_aload_n dX10_span_18 rfl rfl ?_
          refine e_iload_n dX10_span_19 rfl rfl ?_
          refine x_V1 (M' := mX8_has) dX10_span_20 ml_X10_226 ok_X8_has (by decide) rfl im_X8_has se_X8_has (ct_X8_has cm iv hK _) (Nat.le_of_ble_eq_true rfl) (by decide) (Nat.le_of_ble_eq_true rfl) ?_
          rw [hx]
          first | ((with_reducible refine mk_b ?_); refine b_if_ne (tgt := 28) dX10_span_23 (by decide) (fun h23 => ?_) (fun h23 => ?_)) | ((with_reducible refine mk_ll ?_); refine m_if_ne (tgt := 28) dX10_span_23 (by decide) (by omega) (by omega) (fun h23 => ?_) (fun h23 => ?_)) | ((with_reducible refine mk_lc ?_); refine l_if_ne (tgt := 28) dX10_span_23 (by decide) (fun h23 => ?_) (fun h23 => ?_)) | ((with_reducible refine mk_n ?_); refine n_if_ne (tgt := 28) dX10_span_23 (by decide) (by omega) (fun h23 => ?_) (fun h23 => ?_)) | refine e_if_ne (tgt := 28) dX10_span_23 (by decide) (fun h23 => ?_) (fun h23 => ?_)
          · try first | contradiction | omega | (simp only [decide_eq_true_eq, decide_eq_false_iff_not] at h23; omega)
            all_goals
              refine e_iload_n dX10_span_28 rfl rfl ?_
              refine e_swc (tgt := 72) 0 dX10_span_29 (by decide) (by decide) rfl (by decide) (fun h29_0 => ?_) (fun h29_0 => ?_)
              · try first | contradiction | omega
                all_goals
                  refine e_aload_n dX10_span_72 rfl rfl ?_
                  refine e_getR dX10_span_73 fl_X10_229 rfl (by first | exact cm_tlo cm | exact cm_ctlo cm (by omega) | assumption) ?_
                  refine e_iload_n dX10_span_76 rfl rfl ?_
                  refine e_iadE _ dX10_span_77 ⟨by decide, by decide⟩ rfl rfl (by simp only [lenK]; omega) (by first | exact k_lo hK (by first | omega | (simp (disch := omega) only [upN_n, upN_s]; omega)) | exact k_clo hK (by omega) (by first | omega | (simp (disch := omega) only [upN_n, upN_s]; omega)) | assumption) ?_
                  refine e_ret (some _) rfl (r_int dX10_span_78 rfl) ?_
                  refine xq ?_ rfl rfl rfl rfl rfl
                  unfold spaS
                  first | (rw [h29_0]; rfl) | (rw [h29_1]; rfl) | (rw [h29_2]; rfl) | (rw [h29_3]; rfl) | (rw [h29_4]; rfl) | (rw [h29_5, show fzS w i = true from h126]; rfl) | (rw [h29_5, show fzS w i = false from h126]; rfl) | (rw [h29_6]; rfl) | (rw [if_neg h29_0, if_neg h29_1, if_neg h29_2, if_neg h29_3, if_neg h29_4, if_neg h29_5, if_neg h29_6])
              refine e_swc (tgt := 79) 1 dX10_span_29 (by decide) (by decide) rfl (by decide) (fun h29_1 => ?_) (fun h29_1 => ?_)
              · try first | contradiction | omega
                all_goals
                  refine e_aload_n dX10_span_79 rfl rfl ?_
                  refine e_iload_n dX10_span_80 rfl rfl ?_
                  refine x_V1 (M' := mX8_endOf) dX10_span_81 ml_X10_232 ok_X8_endOf (by decide) rfl im_X8_endOf se_X8_endOf (ct_X8_endOf cm iv hK (by omega)) (Nat.le_of_ble_eq_true rfl) (by decide) (Nat.le_of_ble_eq_true rfl) ?_
                  refine e_ret (some _) rfl (r_int dX10_span_84 rfl) ?_
                  refine xq ?_ rfl rfl rfl rfl rfl
                  unfold spaS
                  first | (rw [h29_0]; rfl) | (rw [h29_1]; rfl) | (rw [h29_2]; rfl) | (rw [h29_3]; rfl) | (rw [h29_4]; rfl) | (rw [h29_5, show fzS w i = true from h126]; rfl) | (rw [h29_5, show fzS w i = false from h126]; rfl) | (rw [h29_6]; rfl) | (rw [if_neg h29_0, if_neg h29_1, if_neg h29_2, if_neg h29_3, if_neg h29_4, if_neg h29_5, if_neg h29_6])
              refine e_swc (tgt := 85) 2 dX10_span_29 (by decide) (by decide) rfl (by decide) (fun h29_2 => ?_) (fun h29_2 => ?_)
              · try first | contradiction | omega
                all_goals
                  refine e_aload_n dX10_span_85 rfl rfl ?_
                  refine e_getR dX10_span_86 fl_X10_235 rfl (by first | exact cm_tow cm | exact cm_ctow cm (by omega) | assumption) ?_
                  refine e_iload_n dX10_span_89 rfl rfl ?_
                  refine e_iadE _ dX10_span_90 ⟨by decide, by decide⟩ rfl rfl (by simp only [lenK]; omega) (by first | exact k_ow hK (by first | omega | (simp (disch := omega) only [upN_n, upN_s]; omega)) | exact k_cow hK (by omega) (by first | omega | (simp (disch := omega) only [upN_n, upN_s]; omega)) | assumption) ?_
                  refine e_ret (some _) rfl (r_int dX10_span_91 rfl) ?_
                  refine xq ?_ rfl rfl rfl rfl rfl
                  unfold spaS
                  first | (rw [h29_0]; rfl) | (rw [h29_1]; rfl) | (rw [h29_2]; rfl) | (rw [h29_3]; rfl) | (rw [h29_4]; rfl) | (rw [h29_5, show fzS w i = true from h126]; rfl) | (rw [h29_5, show fzS w i = false from h126]; rfl) | (rw [h29_6]; rfl) | (rw [if_neg h29_0, if_neg h29_1, if_neg h29_2, if_neg h29_3, if_neg h29_4, if_neg h29_5, if_neg h29_6])
              refine e_swc (tgt := 92) 3 dX10_span_29 (by decide) (by decide) rfl (by decide) (fun h29_3 => ?_) (fun h29_3 => ?_)
              · try first | contradiction | omega
                all_goals
                  refine e_aload_n dX10_span_92 rfl rfl ?_
                  refine e_getR dX10_span_93 fl_X10_238 rfl (by first | exact cm_tep cm | exact cm_ctep cm (by omega) | assumption) ?_
                  refine e_iload_n dX10_span_96 rfl rfl ?_
                  refine e_iadE _ dX10_span_97 ⟨by decide, by decide⟩ rfl rfl (by simp only [lenK]; omega) (by first | exact k_ep hK (by first | omega | (simp (disch := omega) only [upN_n, upN_s]; omega)) | exact k_cep hK (by omega) (by first | omega | (simp (disch := omega) only [upN_n, upN_s]; omega)) | assumption) ?_
                  refine e_ret (some _) rfl (r_int dX10_span_98 rfl) ?_
                  refine xq ?_ rfl rfl rfl rfl rfl
                  unfold spaS
                  first | (rw [h29_0]; rfl) | (rw [h29_1]; rfl) | (rw [h29_2]; rfl) | (rw [h29_3]; rfl) | (rw [h29_4]; rfl) | (rw [h29_5, show fzS w i = true from h126]; rfl) | (rw [h29_5, show fzS w i = false from h126]; rfl) | (rw [h29_6]; rfl) | (rw [if_neg h29_0, if_neg h29_1, if_neg h29_2, if_neg h29_3, if_neg h29_4, if_neg h29_5, if_neg h29_6])
              refine e_swc (tgt := 99) 4 dX10_span_29 (by decide) (by decide) rfl (by decide) (fun h29_4 => ?_) (fun h29_4 => ?_)
              · try first | contradiction | omega
                all_goals
                  refine e_aload_n dX10_span_99 rfl rfl ?_
                  refine e_getR dX10_span_100 fl_X10_18 rfl (cx_0 cm) ?_
                  refine e_aload_n dX10_span_103 rfl rfl ?_
                  refine e_getR dX10_span_104 fl_X10_229 rfl (by first | exact cm_tlo cm | exact cm_ctlo cm (by omega) | assumption) ?_
                  refine e_iload_n dX10_span_107 rfl rfl ?_
                  refine e_iadE _ dX10_span_108 ⟨by decide, by decide⟩ rfl rfl (by simp only [lenK]; omega) (by first | exact k_lo hK (by first | omega | (simp (disch := omega) only [upN_n, upN_s]; omega)) | exact k_clo hK (by omega) (by first | omega | (simp (disch := omega) only [upN_n, upN_s]; omega)) | assumption) ?_
                  refine x_V1 (M' := mX9_moveAt) dX10_span_109 ml_X10_241 ok_X9_moveAt (by decide) rfl im_X9_moveAt se_X9_moveAt (ct_X9_moveAt cm iv hK (by omega)) (Nat.le_of_ble_eq_true rfl) (by decide) (Nat.le_of_ble_eq_true rfl) ?_
                  refine e_ret (some _) rfl (r_int dX10_span_112 rfl) ?_
                  refine xq ?_ rfl rfl rfl rfl rfl
                  unfold spaS
                  first | (rw [h29_0]; rfl) | (rw [h29_1]; rfl) | (rw [h29_2]; rfl) | (rw [h29_3]; rfl) | (rw [h29_4]; rfl) | (rw [h29_5, show fzS w i = true from h126]; rfl) | (rw [h29_5, show fzS w i = false from h126]; rfl) | (rw [h29_6]; rfl) | (rw [if_neg h29_0, if_neg h29_1, if_neg h29_2, if_neg h29_3, if_neg h29_4, if_neg h29_5, if_neg h29_6])
              refine e_swc (tgt := 113) 5 dX10_span_29 (by decide) (by decide) rfl (by decide) (fun h29_5 => ?_) (fun h29_5 => ?_)
              · try first | contradiction | omega
                all_goals
                  refine e_aload_n dX10_span_113 rfl rfl ?_
                  refine e_getR dX10_span_114 fl_X10_18 rfl (cx_0 cm) ?_
                  refine e_aload_n dX10_span_117 rfl rfl ?_
                  refine e_getR dX10_span_118 fl_X10_229 rfl (by first | exact cm_tlo cm | exact cm_ctlo cm (by omega) | assumption) ?_
                  refine e_iload_n dX10_span_121 rfl rfl ?_
                  refine e_iadE _ dX10_span_122 ⟨by decide, by decide⟩ rfl rfl (by simp only [lenK]; omega) (by first | exact k_lo hK (by first | omega | (simp (disch := omega) only [upN_n, upN_s]; omega)) | exact k_clo hK (by omega) (by first | omega | (simp (disch := omega) only [upN_n, upN_s]; omega)) | assumption) ?_
                  refine x_V1 (M' := mX9_isFrozen) dX10_span_123 ml_X10_244 ok_X9_isFrozen (by decide) rfl im_X9_isFrozen se_X9_isFrozen (ct_X9_isFrozen cm iv hK (by omega)) (Nat.le_of_ble_eq_true rfl) (by decide) (Nat.le_of_ble_eq_true rfl) ?_
                  first | ((with_reducible refine mk_b ?_); refine b_if_eq (tgt := 133) dX10_span_126 (by decide) (fun h126 => ?_) (fun h126 => ?_)) | ((with_reducible refine mk_ll ?_); refine m_if_eq (tgt := 133) dX10_span_126 (by decide) (by omega) (by omega) (fun h126 => ?_) (fun h126 => ?_)) | ((with_reducible refine mk_lc ?_); refine l_if_eq (tgt := 133) dX10_span_126 (by decide) (fun h126 => ?_) (fun h126 => ?_)) | ((with_reducible refine mk_n ?_); refine n_if_eq (tgt := 133) dX10_span_126 (by decide) (by omega) (fun h126 => ?_) (fun h126 => ?_)) | refine e_if_eq (tgt := 133) dX10_span_126 (by decide) (fun h126 => ?_) (fun h126 => ?_)
                  · try first | contradiction | omega | (simp only [decide_eq_true_eq, decide_eq_false_iff_not] at h126; omega)
                    all_goals
                      refine e_iconst (v := nI 0) dX10_span_133 rfl ?_
                      refine e_ret (some _) rfl (r_int dX10_span_134 rfl) ?_
                      refine xq ?_ rfl rfl rfl rfl rfl
                      unfold spaS
                      first | (rw [h29_0]; rfl) | (rw [h29_1]; rfl) | (rw [h29_2]; rfl) | (rw [h29_3]; rfl) | (rw [h29_4]; rfl) | (rw [h29_5, show fzS w i = true from h126]; rfl) | (rw [h29_5, show fzS w i = false from h126]; rfl) | (rw [h29_6]; rfl) | (rw [if_neg h29_0, if_neg h29_1, if_neg h29_2, if_neg h29_3, if_neg h29_4, if_neg h29_5, if_neg h29_6])
                  · try first | contradiction | omega | (simp only [decide_eq_true_eq, decide_eq_false_iff_not] at h126; omega)
                    all_goals
                      refine e_iconst (v := nI 1) dX10_span_129 rfl ?_
                      refine e_goto (tgt := 134) dX10_span_130 (by decide) ?_
                      refine e_ret (some _) rfl (r_int dX10_span_134 rfl) ?_
                      refine xq ?_ rfl rfl rfl rfl rfl
                      unfold spaS
                      first | (rw [h29_0]; rfl) | (rw [h29_1]; rfl) | (rw [h29_2]; rfl) | (rw [h29_3]; rfl) | (rw [h29_4]; rfl) | (rw [h29_5, show fzS w i = true from h126]; rfl) | (rw [h29_5, show fzS w i = false from h126]; rfl) | (rw [h29_6]; rfl) | (rw [if_neg h29_0, if_neg h29_1, if_neg h29_2, if_neg h29_3, if_neg h29_4, if_neg h29_5, if_neg h29_6])
              refine e_swc (tgt := 135) 6 dX10_span_29 (by decide) (by decide) rfl (by decide) (fun h29_6 => ?_) (fun h29_6 => ?_)
              · try first | contradiction | omega
                all_goals
                  refine e_aload_n dX10_span_135 rfl rfl ?_
                  refine e_getR dX10_span_136 fl_X10_18 rfl (cx_0 cm) ?_
                  refine e_aload_n dX10_span_139 rfl rfl ?_
                  refine e_getR dX10_span_140 fl_X10_235 rfl (by first | exact cm_tow cm | exact cm_ctow cm (by omega) | assumption) ?_
                  refine e_iload_n dX10_span_143 rfl rfl ?_
                  refine e_iadE _ dX10_span_144 ⟨by decide, by decide⟩ rfl rfl (by simp only [lenK]; omega) (by first | exact k_ow hK (by first | omega | (simp (disch := omega) only [upN_n, upN_s]; omega)) | exact k_cow hK (by omega) (by first | omega | (simp (disch := omega) only [upN_n, upN_s]; omega)) | assumption) ?_
                  refine e_aload_n dX10_span_145 rfl rfl ?_
                  refine e_getR dX10_span_146 fl_X10_229 rfl (by first | exact cm_tlo cm | exact cm_ctlo cm (by omega) | assumption) ?_
                  refine e_iload_n dX10_span_149 rfl rfl ?_
                  refine e_iadE _ dX10_span_150 ⟨by decide, by decide⟩ rfl rfl (by simp only [lenK]; omega) (by first | exact k_lo hK (by first | omega | (simp (disch := omega) only [upN_n, upN_s]; omega)) | exact k_clo hK (by omega) (by first | omega | (simp (disch := omega) only [upN_n, upN_s]; omega)) | assumption) ?_
                  refine e_aload_n dX10_span_151 rfl rfl ?_
                  refine e_iload_n dX10_span_152 rfl rfl ?_
                  refine x_V1 (M' := mX8_endOf) dX10_span_153 ml_X10_232 ok_X8_endOf (by decide) rfl im_X8_endOf se_X8_endOf (ct_X8_endOf cm iv hK (by omega)) (Nat.le_of_ble_eq_true rfl) (by decide) (Nat.le_of_ble_eq_true rfl) ?_
                  refine x_V3 (M' := mX9_valuesIn) dX10_span_156 ml_X10_247 ok_X9_valuesIn (by decide) rfl im_X9_valuesIn se_X9_valuesIn (ct_X9_valuesIn cm iv hK (by omega) (by omega) (by omega)) (Nat.le_of_ble_eq_true rfl) (by decide) (Nat.le_of_ble_eq_true rfl) ?_
                  refine e_ret (some _) rfl (r_int dX10_span_159 rfl) ?_
                  refine xq ?_ rfl rfl rfl rfl rfl
                  unfold spaS
                  first | (rw [h29_0]; rfl) | (rw [h29_1]; rfl) | (rw [h29_2]; rfl) | (rw [h29_3]; rfl) | (rw [h29_4]; rfl) | (rw [h29_5, show fzS w i = true from h126]; rfl) | (rw [h29_5, show fzS w i = false from h126]; rfl) | (rw [h29_6]; rfl) | (rw [if_neg h29_0, if_neg h29_1, if_neg h29_2, if_neg h29_3, if_neg h29_4, if_neg h29_5, if_neg h29_6])
              refine e_tableOut (tgt := 160) dX10_span_29 (by omega) (by decide) ?_
              refine e_iconst (v := -1) dX10_span_160 rfl ?_
              refine e_ret (some _) rfl (r_int dX10_span_161 rfl) ?_
              refine xq ?_ rfl rfl rfl rfl rfl
              unfold spaS
              first | (rw [h29_0]; rfl) | (rw [h29_1]; rfl) | (rw [h29_2]; rfl) | (rw [h29_3]; rfl) | (rw [h29_4]; rfl) | (rw [h29_5, show fzS w i = true from h126]; rfl) | (rw [h29_5, show fzS w i = false from h126]; rfl) | (rw [h29_6]; rfl) | (rw [if_neg h29_0, if_neg h29_1, if_neg h29_2, if_neg h29_3, if_neg h29_4, if_neg h29_5, if_neg h29_6])
          · try first | contradiction | omega | (simp only [decide_eq_true_eq, decide_eq_false_iff_not] at h23; omega)
            all_goals
              contradiction
      · try first | contradiction | omega
        all_goals
          contradiction
theorem ct_X10_moveOf {fi : FI} {fr : FR} {ai : FI} {ar : FR} {N : Nat} {w lg : Nat → Nat} {E : Nat} (cm : CM fr ar) (iv : Inv w) (hK : K fi ai w lg E) (x y : Int32) : CP mX10_moveOf 1 0 0 [.ref (rf 10 0), .int x, .int y] fi fr ai ar N (xQ (some (.int (mofR w x y))) fi fr ai ar N) := by
  have h1 := iv_n iv
  have h3 := iv_mm iv
  have bd := Bd_iv iv
  have hF : FR1 fi ai fi ai := FR1_rf
  change EV mX10_moveOf 1 0 0 0 [some (.ref (rf 10 0)), some (.int x), some (.int y), none] [] fi fr ai ar N (xQ (some (.int (mofR w x y))) fi fr ai ar N)
  cases hx : inR x (w 3) with
  | false =>
    have e : mofR w x y = -1 := by unfold mofR; rw [if_neg (fun z => by rw [hx] at z; exact absurd z.1 (by decide))]
    rw [e]
    refine e_aload_n dX10_moveOf_0 rfl rfl ?_
    refine e_getR dX10_moveOf_1 fl_X10_18 rfl (cx_0 cm) ?_
    refine e_iload_n dX10_moveOf_4 rfl rfl ?_
    refine x_V1 (M' := mX9_hasMove) dX10_moveOf_5 ml_X10_285 ok_X9_hasMove (by decide) rfl im_X9_hasMove se_X9_hasMove (ct_X9_hasMove cm iv hK _) (Nat.le_of_ble_eq_true rfl) (by decide) (Nat.le_of_ble_eq_true rfl) ?_
    rw [hx]
    first | ((with_reducible refine mk_b ?_); refine b_if_ne (tgt := 13) dX10_moveOf_8 (by decide) (fun h8 => ?_) (fun h8 => ?_)) | ((with_reducible refine mk_ll ?_); refine m_if_ne (tgt := 13) dX10_moveOf_8 (by decide) (by omega) (by omega) (fun h8 => ?_) (fun h8 => ?_)) | ((with_reducible refine mk_lc ?_); refine l_if_ne (tgt := 13) dX10_moveOf_8 (by decide) (fun h8 => ?_) (fun h8 => ?_)) | ((with_reducible refine mk_n ?_); refine n_if_ne (tgt := 13) dX10_moveOf_8 (by decide) (by omega) (fun h8 => ?_) (fun h8 => ?_)) | refine e_if_ne (tgt := 13) dX10_moveOf_8 (by decide) (fun h8 => ?_) (fun h8 => ?_)
    · try first | contradiction | omega | (simp only [decide_eq_true_eq, decide_eq_false_iff_not] at h8; omega)
      all_goals
        contradiction
    · try first | contradiction | omega | (simp only [decide_eq_true_eq, decide_eq_false_iff_not] at h8; omega)
      all_goals
        refine e_iconst (v := -1) dX10_moveOf_11 rfl ?_
        refine e_ret (some _) rfl (r_int dX10_moveOf_12 rfl) ?_
        exact xq rfl rfl rfl rfl rfl rfl
  | true =>
    have hx0 := hx
    obtain ⟨m, hm, hm2, rfl⟩ := inR_ex hx
    have hq := iv_mv iv hm
    cases hy : inR y 12 with
    | false =>
      have e : mofR w (nI m) y = -1 := by unfold mofR; rw [if_neg (fun z => by rw [hy] at z; exact absurd z.2 (by decide))]
      have hf := inR_f hy
      rw [e]
      refine e_aload_n dX10_moveOf_0 rfl rfl ?_
      refine e_getR dX10_moveOf_1 fl_X10_18 rfl (cx_0 cm) ?_
      refine e_iload_n dX10_moveOf_4 rfl rfl ?_
      refine x_V1 (M' := mX9_hasMove) dX10_moveOf_5 ml_X10_285 ok_X9_hasMove (by decide) rfl im_X9_hasMove se_X9_hasMove (ct_X9_hasMove cm iv hK _) (Nat.le_of_ble_eq_true rfl) (by decide) (Nat.le_of_ble_eq_true rfl) ?_
      rw [hx]
      first | ((with_reducible refine mk_b ?_); refine b_if_ne (tgt := 13) dX10_moveOf_8 (by decide) (fun h8 => ?_) (fun h8 => ?_)) | ((with_reducible refine mk_ll ?_); refine m_if_ne (tgt := 13) dX10_moveOf_8 (by decide) (by omega) (by omega) (fun h8 => ?_) (fun h8 => ?_)) | ((with_reducible refine mk_lc ?_); refine l_if_ne (tgt := 13) dX10_moveOf_8 (by decide) (fun h8 => ?_) (fun h8 => ?_)) | ((with_reducible refine mk_n ?_); refine n_if_ne (tgt := 13) dX10_moveOf_8 (by decide) (by omega) (fun h8 => ?_) (fun h8 => ?_)) | refine e_if_ne (tgt := 13) dX10_moveOf_8 (by decide) (fun h8 => ?_) (fun h8 => ?_)
      · try first | contradiction | omega | (simp only [decide_eq_true_eq, decide_eq_false_iff_not] at h8; omega)
        all_goals
          refine e_aload_n dX10_moveOf_13 rfl rfl ?_
          refine e_getR dX10_moveOf_14 fl_X10_18 rfl (cx_0 cm) ?_
          refine e_getR dX10_moveOf_17 fl_X10_288 rfl (cm_mvs cm) ?_
          refine e_iload_n dX10_moveOf_20 rfl rfl ?_
          refine e_aald _ dX10_moveOf_21 ⟨by decide, by decide⟩ rfl rfl (by simp only [lenK]; omega) (cm_mo cm (by omega)) ?_
          refine e_astore_n dX10_moveOf_22 rfl (Nat.le_of_ble_eq_true rfl) rfl ?_
          refine e_iload_n dX10_moveOf_23 rfl rfl ?_
          refine e_swc (tgt := 88) 0 dX10_moveOf_24 (by decide) (by decide) rfl (by decide) (fun h24_0 => ?_) (fun h24_0 => ?_)
          · try first | contradiction | omega
            all_goals
              omega
          refine e_swc (tgt := 93) 1 dX10_moveOf_24 (by decide) (by decide) rfl (by decide) (fun h24_1 => ?_) (fun h24_1 => ?_)
          · try first | contradiction | omega
            all_goals
              omega
          refine e_swc (tgt := 98) 2 dX10_moveOf_24 (by decide) (by decide) rfl (by decide) (fun h24_2 => ?_) (fun h24_2 => ?_)
          · try first | contradiction | omega
            all_goals
              omega
          refine e_swc (tgt := 103) 3 dX10_moveOf_24 (by decide) (by decide) rfl (by decide) (fun h24_3 => ?_) (fun h24_3 => ?_)
          · try first | contradiction | omega
            all_goals
              omega
          refine e_swc (tgt := 108) 4 dX10_moveOf_24 (by decide) (by decide) rfl (by decide) (fun h24_4 => ?_) (fun h24_4 => ?_)
          · try first | contradiction | omega
            all_goals
              omega
          refine e_swc (tgt := 113) 5 dX10_moveOf_24 (by decide) (by decide) rfl (by decide) (fun h24_5 => ?_) (fun h24_5 => ?_)
          · try first | contradiction | omega
            all_goals
              omega
          refine e_swc (tgt := 118) 6 dX10_moveOf_24 (by decide) (by decide) rfl (by decide) (fun h24_6 => ?_) (fun h24_6 => ?_)
          · try first | contradiction | omega
            all_goals
              omega
          refine e_swc (tgt := 123) 7 dX10_moveOf_24 (by decide) (by decide) rfl (by decide) (fun h24_7 => ?_) (fun h24_7 => ?_)
          · try first | contradiction | omega
            all_goals
              omega
          refine e_swc (tgt := 136) 8 dX10_moveOf_24 (by decide) (by decide) rfl (by decide) (fun h24_8 => ?_) (fun h24_8 => ?_)
          · try first | contradiction | omega
            all_goals
              omega
          refine e_swc (tgt := 141) 9 dX10_moveOf_24 (by decide) (by decide) rfl (by decide) (fun h24_9 => ?_) (fun h24_9 => ?_)
          · try first | contradiction | omega
            all_goals
              omega
          refine e_swc (tgt := 146) 10 dX10_moveOf_24 (by decide) (by decide) rfl (by decide) (fun h24_10 => ?_) (fun h24_10 => ?_)
          · try first | contradiction | omega
            all_goals
              omega
          refine e_swc (tgt := 151) 11 dX10_moveOf_24 (by decide) (by decide) rfl (by decide) (fun h24_11 => ?_) (fun h24_11 => ?_)
          · try first | contradiction | omega
            all_goals
              omega
          refine e_tableOut (tgt := 156) dX10_moveOf_24 (by omega) (by decide) ?_
          refine e_iconst (v := -1) dX10_moveOf_156 rfl ?_
          refine e_ret (some _) rfl (r_int dX10_moveOf_157 rfl) ?_
          exact xq rfl rfl rfl rfl rfl rfl
      · try first | contradiction | omega | (simp only [decide_eq_true_eq, decide_eq_false_iff_not] at h8; omega)
        all_goals
          contradiction
    | true =>
      obtain ⟨v, hv, hv2, rfl⟩ := inR_ex hy
      have hti : (nI v).toInt = v := nI_toInt (b31 hv2)
      have e : mofR w (nI m) (nI v) = nI (w (7694 + 72 * m + v)) := by unfold mofR; rw [if_pos ⟨hx0, hy⟩, nI_clamp hm2, nI_clamp hv2]
      rw [e]
      refine e_aload_n dX10_moveOf_0 rfl rfl ?_
      refine e_getR dX10_moveOf_1 fl_X10_18 rfl (cx_0 cm) ?_
      refine e_iload_n dX10_moveOf_4 rfl rfl ?_
      refine x_V1 (M' := mX9_hasMove) dX10_moveOf_5 ml_X10_285 ok_X9_hasMove (by decide) rfl im_X9_hasMove se_X9_hasMove (ct_X9_hasMove cm iv hK _) (Nat.le_of_ble_eq_true rfl) (by decide) (Nat.le_of_ble_eq_true rfl) ?_
      rw [hx]
      first | ((with_reducible refine mk_b ?_); refine b_if_ne (tgt := 13) dX10_moveOf_8 (by decide) (fun h8 => ?_) (fun h8 => ?_)) | ((with_reducible refine mk_ll ?_); refine m_if_ne (tgt := 13) dX10_moveOf_8 (by decide) (by omega) (by omega) (fun h8 => ?_) (fun h8 => ?_)) | ((with_reducible refine mk_lc ?_); refine l_if_ne (tgt := 13) dX10_moveOf_8 (by decide) (fun h8 => ?_) (fun h8 => ?_)) | ((with_reducible refine mk_n ?_); refine n_if_ne (tgt := 13) dX10_moveOf_8 (by decide) (by omega) (fun h8 => ?_) (fun h8 => ?_)) | refine e_if_ne (tgt := 13) dX10_moveOf_8 (by decide) (fun h8 => ?_) (fun h8 => ?_)
      · try first | contradiction | omega | (simp only [decide_eq_true_eq, decide_eq_false_iff_not] at h8; omega)
        all_goals
          refine e_aload_n dX10_moveOf_13 rfl rfl ?_
          refine e_getR dX10_moveOf_14 fl_X10_18 rfl (cx_0 cm) ?_
          refine e_getR dX10_moveOf_17 fl_X10_288 rfl (cm_mvs cm) ?_
          refine e_iload_n dX10_moveOf_20 rfl rfl ?_
          refine e_aald _ dX10_moveOf_21 ⟨by decide, by decide⟩ rfl rfl (by simp only [lenK]; omega) (cm_mo cm (by omega)) ?_
          refine e_astore_n dX10_moveOf_22 rfl (Nat.le_of_ble_eq_true rfl) rfl ?_
          refine e_iload_n dX10_moveOf_23 rfl rfl ?_
          refine e_swc (tgt := 88) 0 dX10_moveOf_24 (by decide) (by decide) rfl (by decide) (fun h24_0 => ?_) (fun h24_0 => ?_)
          · try first | contradiction | omega
            all_goals
              refine e_aload_n dX10_moveOf_88 rfl rfl ?_
              refine e_getE dX10_moveOf_89 fl_X10_292 rfl (k_m2 hK (by first | omega | (simp (disch := omega) only [upN_n, upN_s]; omega))) ?_
              refine e_ret (some _) rfl (r_int dX10_moveOf_92 rfl) ?_
              refine xq ?_ rfl rfl rfl rfl rfl
              first | (exfalso; omega) | ((have e : v = 0 := by omega); subst e; rfl) | ((have e : v = 1 := by omega); subst e; rfl) | ((have e : v = 2 := by omega); subst e; rfl) | ((have e : v = 3 := by omega); subst e; rfl) | ((have e : v = 4 := by omega); subst e; rfl) | ((have e : v = 5 := by omega); subst e; rfl) | ((have e : v = 6 := by omega); subst e; rfl) | ((have e : v = 8 := by omega); subst e; rfl) | ((have e : v = 9 := by omega); subst e; rfl) | ((have e : v = 10 := by omega); subst e; rfl) | ((have e : v = 11 := by omega); subst e; rfl) | ((have e : v = 7 := by omega); subst e; rw [show w (7694 + 72 * m + 7) = 1 by omega]) | ((have e : v = 7 := by omega); subst e; rw [show w (7694 + 72 * m + 7) = 0 by omega])
          refine e_swc (tgt := 93) 1 dX10_moveOf_24 (by decide) (by decide) rfl (by decide) (fun h24_1 => ?_) (fun h24_1 => ?_)
          · try first | contradiction | omega
            all_goals
              refine e_aload_n dX10_moveOf_93 rfl rfl ?_
              refine e_getE dX10_moveOf_94 fl_X10_297 rfl (k_m3 hK (by first | omega | (simp (disch := omega) only [upN_n, upN_s]; omega))) ?_
              refine e_ret (some _) rfl (r_int dX10_moveOf_97 rfl) ?_
              refine xq ?_ rfl rfl rfl rfl rfl
              first | (exfalso; omega) | ((have e : v = 0 := by omega); subst e; rfl) | ((have e : v = 1 := by omega); subst e; rfl) | ((have e : v = 2 := by omega); subst e; rfl) | ((have e : v = 3 := by omega); subst e; rfl) | ((have e : v = 4 := by omega); subst e; rfl) | ((have e : v = 5 := by omega); subst e; rfl) | ((have e : v = 6 := by omega); subst e; rfl) | ((have e : v = 8 := by omega); subst e; rfl) | ((have e : v = 9 := by omega); subst e; rfl) | ((have e : v = 10 := by omega); subst e; rfl) | ((have e : v = 11 := by omega); subst e; rfl) | ((have e : v = 7 := by omega); subst e; rw [show w (7694 + 72 * m + 7) = 1 by omega]) | ((have e : v = 7 := by omega); subst e; rw [show w (7694 + 72 * m + 7) = 0 by omega])
          refine e_swc (tgt := 98) 2 dX10_moveOf_24 (by decide) (by decide) rfl (by decide) (fun h24_2 => ?_) (fun h24_2 => ?_)
          · try first | contradiction | omega
            all_goals
              refine e_aload_n dX10_moveOf_98 rfl rfl ?_
              refine e_getE dX10_moveOf_99 fl_X10_300 rfl (k_m4 hK (by first | omega | (simp (disch := omega) only [upN_n, upN_s]; omega))) ?_
              refine e_ret (some _) rfl (r_int dX10_moveOf_102 rfl) ?_
              refine xq ?_ rfl rfl rfl rfl rfl
              first | (exfalso; omega) | ((have e : v = 0 := by omega); subst e; rfl) | ((have e : v = 1 := by omega); subst e; rfl) | ((have e : v = 2 := by omega); subst e; rfl) | ((have e : v = 3 := by omega); subst e; rfl) | ((have e : v = 4 := by omega); subst e; rfl) | ((have e : v = 5 := by omega); subst e; rfl) | ((have e : v = 6 := by omega); subst e; rfl) | ((have e : v = 8 := by omega); subst e; rfl) | ((have e : v = 9 := by omega); subst e; rfl) | ((have e : v = 10 := by omega); subst e; rfl) | ((have e : v = 11 := by omega); subst e; rfl) | ((have e : v = 7 := by omega); subst e; rw [show w (7694 + 72 * m + 7) = 1 by omega]) | ((have e : v = 7 := by omega); subst e; rw [show w (7694 + 72 * m + 7) = 0 by omega])
          refine e_swc (tgt := 103) 3 dX10_moveOf_24 (by decide) (by decide) rfl (by decide) (fun h24_3 => ?_) (fun h24_3 => ?_)
          · try first | contradiction | omega
            all_goals
              refine e_aload_n dX10_moveOf_103 rfl rfl ?_
              refine e_getE dX10_moveOf_104 fl_X10_303 rfl (k_m5 hK (by first | omega | (simp (disch := omega) only [upN_n, upN_s]; omega))) ?_
              refine e_ret (some _) rfl (r_int dX10_moveOf_107 rfl) ?_
              refine xq ?_ rfl rfl rfl rfl rfl
              first | (exfalso; omega) | ((have e : v = 0 := by omega); subst e; rfl) | ((have e : v = 1 := by omega); subst e; rfl) | ((have e : v = 2 := by omega); subst e; rfl) | ((have e : v = 3 := by omega); subst e; rfl) | ((have e : v = 4 := by omega); subst e; rfl) | ((have e : v = 5 := by omega); subst e; rfl) | ((have e : v = 6 := by omega); subst e; rfl) | ((have e : v = 8 := by omega); subst e; rfl) | ((have e : v = 9 := by omega); subst e; rfl) | ((have e : v = 10 := by omega); subst e; rfl) | ((have e : v = 11 := by omega); subst e; rfl) | ((have e : v = 7 := by omega); subst e; rw [show w (7694 + 72 * m + 7) = 1 by omega]) | ((have e : v = 7 := by omega); subst e; rw [show w (7694 + 72 * m + 7) = 0 by omega])
          refine e_swc (tgt := 108) 4 dX10_moveOf_24 (by decide) (by decide) rfl (by decide) (fun h24_4 => ?_) (fun h24_4 => ?_)
          · try first | contradiction | omega
            all_goals
              refine e_aload_n dX10_moveOf_108 rfl rfl ?_
              refine e_getE dX10_moveOf_109 fl_X10_306 rfl (k_m6 hK (by first | omega | (simp (disch := omega) only [upN_n, upN_s]; omega))) ?_
              refine e_ret (some _) rfl (r_int dX10_moveOf_112 rfl) ?_
              refine xq ?_ rfl rfl rfl rfl rfl
              first | (exfalso; omega) | ((have e : v = 0 := by omega); subst e; rfl) | ((have e : v = 1 := by omega); subst e; rfl) | ((have e : v = 2 := by omega); subst e; rfl) | ((have e : v = 3 := by omega); subst e; rfl) | ((have e : v = 4 := by omega); subst e; rfl) | ((have e : v = 5 := by omega); subst e; rfl) | ((have e : v = 6 := by omega); subst e; rfl) | ((have e : v = 8 := by omega); subst e; rfl) | ((have e : v = 9 := by omega); subst e; rfl) | ((have e : v = 10 := by omega); subst e; rfl) | ((have e : v = 11 := by omega); subst e; rfl) | ((have e : v = 7 := by omega); subst e; rw [show w (7694 + 72 * m + 7) = 1 by omega]) | ((have e : v = 7 := by omega); subst e; rw [show w (7694 + 72 * m + 7) = 0 by omega])
          refine e_swc (tgt := 113) 5 dX10_moveOf_24 (by decide) (by decide) rfl (by decide) (fun h24_5 => ?_) (fun h24_5 => ?_)
          · try first | contradiction | omega
            all_goals
              refine e_aload_n dX10_moveOf_113 rfl rfl ?_
              refine e_getE dX10_moveOf_114 fl_X10_309 rfl (k_m7 hK (by first | omega | (simp (disch := omega) only [upN_n, upN_s]; omega))) ?_
              refine e_ret (some _) rfl (r_int dX10_moveOf_117 rfl) ?_
              refine xq ?_ rfl rfl rfl rfl rfl
              first | (exfalso; omega) | ((have e : v = 0 := by omega); subst e; rfl) | ((have e : v = 1 := by omega); subst e; rfl) | ((have e : v = 2 := by omega); subst e; rfl) | ((have e : v = 3 := by omega); subst e; rfl) | ((have e : v = 4 := by omega); subst e; rfl) | ((have e : v = 5 := by omega); subst e; rfl) | ((have e : v = 6 := by omega); subst e; rfl) | ((have e : v = 8 := by omega); subst e; rfl) | ((have e : v = 9 := by omega); subst e; rfl) | ((have e : v = 10 := by omega); subst e; rfl) | ((have e : v = 11 := by omega); subst e; rfl) | ((have e : v = 7 := by omega); subst e; rw [show w (7694 + 72 * m + 7) = 1 by omega]) | ((have e : v = 7 := by omega); subst e; rw [show w (7694 + 72 * m + 7) = 0 by omega])
          refine e_swc (tgt := 118) 6 dX10_moveOf_24 (by decide) (by decide) rfl (by decide) (fun h24_6 => ?_) (fun h24_6 => ?_)
          · try first | contradiction | omega
            all_goals
              refine e_aload_n dX10_moveOf_118 rfl rfl ?_
              refine e_getE dX10_moveOf_119 fl_X10_312 rfl (k_m1 hK (by first | omega | (simp (disch := omega) only [upN_n, upN_s]; omega))) ?_
              refine e_ret (some _) rfl (r_int dX10_moveOf_122 rfl) ?_
              refine xq ?_ rfl rfl rfl rfl rfl
              first | (exfalso; omega) | ((have e : v = 0 := by omega); subst e; rfl) | ((have e : v = 1 := by omega); subst e; rfl) | ((have e : v = 2 := by omega); subst e; rfl) | ((have e : v = 3 := by omega); subst e; rfl) | ((have e : v = 4 := by omega); subst e; rfl) | ((have e : v = 5 := by omega); subst e; rfl) | ((have e : v = 6 := by omega); subst e; rfl) | ((have e : v = 8 := by omega); subst e; rfl) | ((have e : v = 9 := by omega); subst e; rfl) | ((have e : v = 10 := by omega); subst e; rfl) | ((have e : v = 11 := by omega); subst e; rfl) | ((have e : v = 7 := by omega); subst e; rw [show w (7694 + 72 * m + 7) = 1 by omega]) | ((have e : v = 7 := by omega); subst e; rw [show w (7694 + 72 * m + 7) = 0 by omega])
          refine e_swc (tgt := 123) 7 dX10_moveOf_24 (by decide) (by decide) rfl (by decide) (fun h24_7 => ?_) (fun h24_7 => ?_)
          · try first | contradiction | omega
            all_goals
              refine e_aload_n dX10_moveOf_123 rfl rfl ?_
              refine e_getE dX10_moveOf_124 fl_X10_315 rfl (k_m8 hK (by first | omega | (simp (disch := omega) only [upN_n, upN_s]; omega))) ?_
              first | ((with_reducible refine mk_b ?_); refine b_if_eq (tgt := 134) dX10_moveOf_127 (by decide) (fun h127 => ?_) (fun h127 => ?_)) | ((with_reducible refine mk_ll ?_); refine m_if_eq (tgt := 134) dX10_moveOf_127 (by decide) (by omega) (by omega) (fun h127 => ?_) (fun h127 => ?_)) | ((with_reducible refine mk_lc ?_); refine l_if_eq (tgt := 134) dX10_moveOf_127 (by decide) (fun h127 => ?_) (fun h127 => ?_)) | ((with_reducible refine mk_n ?_); refine n_if_eq (tgt := 134) dX10_moveOf_127 (by decide) (by omega) (fun h127 => ?_) (fun h127 => ?_)) | refine e_if_eq (tgt := 134) dX10_moveOf_127 (by decide) (fun h127 => ?_) (fun h127 => ?_)
              · try first | contradiction | omega | (simp only [decide_eq_true_eq, decide_eq_false_iff_not] at h127; omega)
                all_goals
                  refine e_iconst (v := nI 0) dX10_moveOf_134 rfl ?_
                  refine e_ret (some _) rfl (r_int dX10_moveOf_135 rfl) ?_
                  refine xq ?_ rfl rfl rfl rfl rfl
                  first | (exfalso; omega) | ((have e : v = 0 := by omega); subst e; rfl) | ((have e : v = 1 := by omega); subst e; rfl) | ((have e : v = 2 := by omega); subst e; rfl) | ((have e : v = 3 := by omega); subst e; rfl) | ((have e : v = 4 := by omega); subst e; rfl) | ((have e : v = 5 := by omega); subst e; rfl) | ((have e : v = 6 := by omega); subst e; rfl) | ((have e : v = 8 := by omega); subst e; rfl) | ((have e : v = 9 := by omega); subst e; rfl) | ((have e : v = 10 := by omega); subst e; rfl) | ((have e : v = 11 := by omega); subst e; rfl) | ((have e : v = 7 := by omega); subst e; rw [show w (7694 + 72 * m + 7) = 1 by omega]) | ((have e : v = 7 := by omega); subst e; rw [show w (7694 + 72 * m + 7) = 0 by omega])
              · try first | contradiction | omega | (simp only [decide_eq_true_eq, decide_eq_false_iff_not] at h127; omega)
                all_goals
                  refine e_iconst (v := nI 1) dX10_moveOf_130 rfl ?_
                  refine e_goto (tgt := 135) dX10_moveOf_131 (by decide) ?_
                  refine e_ret (some _) rfl (r_int dX10_moveOf_135 rfl) ?_
                  refine xq ?_ rfl rfl rfl rfl rfl
                  first | (exfalso; omega) | ((have e : v = 0 := by omega); subst e; rfl) | ((have e : v = 1 := by omega); subst e; rfl) | ((have e : v = 2 := by omega); subst e; rfl) | ((have e : v = 3 := by omega); subst e; rfl) | ((have e : v = 4 := by omega); subst e; rfl) | ((have e : v = 5 := by omega); subst e; rfl) | ((have e : v = 6 := by omega); subst e; rfl) | ((have e : v = 8 := by omega); subst e; rfl) | ((have e : v = 9 := by omega); subst e; rfl) | ((have e : v = 10 := by omega); subst e; rfl) | ((have e : v = 11 := by omega); subst e; rfl) | ((have e : v = 7 := by omega); subst e; rw [show w (7694 + 72 * m + 7) = 1 by omega]) | ((have e : v = 7 := by omega); subst e; rw [show w (7694 + 72 * m + 7) = 0 by omega])
          refine e_swc (tgt := 136) 8 dX10_moveOf_24 (by decide) (by decide) rfl (by decide) (fun h24_8 => ?_) (fun h24_8 => ?_)
          · try first | contradiction | omega
            all_goals
              refine e_aload_n dX10_moveOf_136 rfl rfl ?_
              refine e_getE dX10_moveOf_137 fl_X10_319 rfl (k_m9 hK (by first | omega | (simp (disch := omega) only [upN_n, upN_s]; omega))) ?_
              refine e_ret (some _) rfl (r_int dX10_moveOf_140 rfl) ?_
              refine xq ?_ rfl rfl rfl rfl rfl
              first | (exfalso; omega) | ((have e : v = 0 := by omega); subst e; rfl) | ((have e : v = 1 := by omega); subst e; rfl) | ((have e : v = 2 := by omega); subst e; rfl) | ((have e : v = 3 := by omega); subst e; rfl) | ((have e : v = 4 := by omega); subst e; rfl) | ((have e : v = 5 := by omega); subst e; rfl) | ((have e : v = 6 := by omega); subst e; rfl) | ((have e : v = 8 := by omega); subst e; rfl) | ((have e : v = 9 := by omega); subst e; rfl) | ((have e : v = 10 := by omega); subst e; rfl) | ((have e : v = 11 := by omega); subst e; rfl) | ((have e : v = 7 := by omega); subst e; rw [show w (7694 + 72 * m + 7) = 1 by omega]) | ((have e : v = 7 := by omega); subst e; rw [show w (7694 + 72 * m + 7) = 0 by omega])
          refine e_swc (tgt := 141) 9 dX10_moveOf_24 (by decide) (by decide) rfl (by decide) (fun h24_9 => ?_) (fun h24_9 => ?_)
          · try first | contradiction | omega
            all_goals
              refine e_aload_n dX10_moveOf_141 rfl rfl ?_
              refine e_getE dX10_moveOf_142 fl_X10_322 rfl (k_m10 hK (by first | omega | (simp (disch := omega) only [upN_n, upN_s]; omega))) ?_
              refine e_ret (some _) rfl (r_int dX10_moveOf_145 rfl) ?_
              refine xq ?_ rfl rfl rfl rfl rfl
              first | (exfalso; omega) | ((have e : v = 0 := by omega); subst e; rfl) | ((have e : v = 1 := by omega); subst e; rfl) | ((have e : v = 2 := by omega); subst e; rfl) | ((have e : v = 3 := by omega); subst e; rfl) | ((have e : v = 4 := by omega); subst e; rfl) | ((have e : v = 5 := by omega); subst e; rfl) | ((have e : v = 6 := by omega); subst e; rfl) | ((have e : v = 8 := by omega); subst e; rfl) | ((have e : v = 9 := by omega); subst e; rfl) | ((have e : v = 10 := by omega); subst e; rfl) | ((have e : v = 11 := by omega); subst e; rfl) | ((have e : v = 7 := by omega); subst e; rw [show w (7694 + 72 * m + 7) = 1 by omega]) | ((have e : v = 7 := by omega); subst e; rw [show w (7694 + 72 * m + 7) = 0 by omega])
          refine e_swc (tgt := 146) 10 dX10_moveOf_24 (by decide) (by decide) rfl (by decide) (fun h24_10 => ?_) (fun h24_10 => ?_)
          · try first | contradiction | omega
            all_goals
              refine e_aload_n dX10_moveOf_146 rfl rfl ?_
              refine e_getE dX10_moveOf_147 fl_X10_325 rfl (k_m11 hK (by first | omega | (simp (disch := omega) only [upN_n, upN_s]; omega))) ?_
              refine e_ret (some _) rfl (r_int dX10_moveOf_150 rfl) ?_
              refine xq ?_ rfl rfl rfl rfl rfl
              first | (exfalso; omega) | ((have e : v = 0 := by omega); subst e; rfl) | ((have e : v = 1 := by omega); subst e; rfl) | ((have e : v = 2 := by omega); subst e; rfl) | ((have e : v = 3 := by omega); subst e; rfl) | ((have e : v = 4 := by omega); subst e; rfl) | ((have e : v = 5 := by omega); subst e; rfl) | ((have e : v = 6 := by omega); subst e; rfl) | ((have e : v = 8 := by omega); subst e; rfl) | ((have e : v = 9 := by omega); subst e; rfl) | ((have e : v = 10 := by omega); subst e; rfl) | ((have e : v = 11 := by omega); subst e; rfl) | ((have e : v = 7 := by omega); subst e; rw [show w (7694 + 72 * m + 7) = 1 by omega]) | ((have e : v = 7 := by omega); subst e; rw [show w (7694 + 72 * m + 7) = 0 by omega])
          refine e_swc (tgt := 151) 11 dX10_moveOf_24 (by decide) (by decide) rfl (by decide) (fun h24_11 => ?_) (fun h24_11 => ?_)
          · try first | contradiction | omega
            all_goals
              refine e_aload_n dX10_moveOf_151 rfl rfl ?_
              refine e_getE dX10_moveOf_152 fl_X10_328 rfl (k_m12 hK (by first | omega | (simp (disch := omega) only [upN_n, upN_s]; omega))) ?_
              refine e_ret (some _) rfl (r_int dX10_moveOf_155 rfl) ?_
              refine xq ?_ rfl rfl rfl rfl rfl
              first | (exfalso; omega) | ((have e : v = 0 := by omega); subst e; rfl) | ((have e : v = 1 := by omega); subst e; rfl) | ((have e : v = 2 := by omega); subst e; rfl) | ((have e : v = 3 := by omega); subst e; rfl) | ((have e : v = 4 := by omega); subst e; rfl) | ((have e : v = 5 := by omega); subst e; rfl) | ((have e : v = 6 := by omega); subst e; rfl) | ((have e : v = 8 := by omega); subst e; rfl) | ((have e : v = 9 := by omega); subst e; rfl) | ((have e : v = 10 := by omega); subst e; rfl) | ((have e : v = 11 := by omega); subst e; rfl) | ((have e : v = 7 := by omega); subst e; rw [show w (7694 + 72 * m + 7) = 1 by omega]) | ((have e : v = 7 := by omega); subst e; rw [show w (7694 + 72 * m + 7) = 0 by omega])
          refine e_tableOut (tgt := 156) dX10_moveOf_24 (by omega) (by decide) ?_
          refine e_iconst (v := -1) dX10_moveOf_156 rfl ?_
          refine e_ret (some _) rfl (r_int dX10_moveOf_157 rfl) ?_
          refine xq ?_ rfl rfl rfl rfl rfl
          first | (exfalso; omega) | ((have e : v = 0 := by omega); subst e; rfl) | ((have e : v = 1 := by omega); subst e; rfl) | ((have e : v = 2 := by omega); subst e; rfl) | ((have e : v = 3 := by omega); subst e; rfl) | ((have e : v = 4 := by omega); subst e; rfl) | ((have e : v = 5 := by omega); subst e; rfl) | ((have e : v = 6 := by omega); subst e; rfl) | ((have e : v = 8 := by omega); subst e; rfl) | ((have e : v = 9 := by omega); subst e; rfl) | ((have e : v = 10 := by omega); subst e; rfl) | ((have e : v = 11 := by omega); subst e; rfl) | ((have e : v = 7 := by omega); subst e; rw [show w (7694 + 72 * m + 7) = 1 by omega]) | ((have e : v = 7 := by omega); subst e; rw [show w (7694 + 72 * m + 7) = 0 by omega])
      · try first | contradiction | omega | (simp only [decide_eq_true_eq, decide_eq_false_iff_not] at h8; omega)
        all_goals
          contradiction
theorem ct_X10_trail {fi : FI} {fr : FR} {ai : FI} {ar : FR} {N : Nat} {w lg : Nat → Nat} {E : Nat} (cm : CM fr ar) (iv : Inv w) (hK : K fi ai w lg E) (x y : Int32) : CP mX10_trail 1 0 0 [.ref (rf 10 0), .int x, .int y] fi fr ai ar N (xQ (some (.int (traR w x y))) fi fr ai ar N) := by
  have h1 := iv_n iv
  have h3 := iv_mm iv
  have bd := Bd_iv iv
  have hF : FR1 fi ai fi ai := FR1_rf
  change EV mX10_trail 1 0 0 0 [some (.ref (rf 10 0)), some (.int x), some (.int y), none] [] fi fr ai ar N (xQ (some (.int (traR w x y))) fi fr ai ar N)
  cases hx : inR x (w 3) with
  | false =>
    have e : traR w x y = -1 := by unfold traR; rw [if_neg (fun z => by rw [hx] at z; exact absurd z.1 (by decide))]
    rw [e]
    refine e_aload_n dX10_trail_0 rfl rfl ?_
    refine e_getR dX10_trail_1 fl_X10_18 rfl (cx_0 cm) ?_
    refine e_iload_n dX10_trail_4 rfl rfl ?_
    refine x_V1 (M' := mX9_hasMove) dX10_trail_5 ml_X10_285 ok_X9_hasMove (by decide) rfl im_X9_hasMove se_X9_hasMove (ct_X9_hasMove cm iv hK _) (Nat.le_of_ble_eq_true rfl) (by decide) (Nat.le_of_ble_eq_true rfl) ?_
    rw [hx]
    first | ((with_reducible refine mk_b ?_); refine b_if_ne (tgt := 13) dX10_trail_8 (by decide) (fun h8 => ?_) (fun h8 => ?_)) | ((with_reducible refine mk_ll ?_); refine m_if_ne (tgt := 13) dX10_trail_8 (by decide) (by omega) (by omega) (fun h8 => ?_) (fun h8 => ?_)) | ((with_reducible refine mk_lc ?_); refine l_if_ne (tgt := 13) dX10_trail_8 (by decide) (fun h8 => ?_) (fun h8 => ?_)) | ((with_reducible refine mk_n ?_); refine n_if_ne (tgt := 13) dX10_trail_8 (by decide) (by omega) (fun h8 => ?_) (fun h8 => ?_)) | refine e_if_ne (tgt := 13) dX10_trail_8 (by decide) (fun h8 => ?_) (fun h8 => ?_)
    · try first | contradiction | omega | (simp only [decide_eq_true_eq, decide_eq_false_iff_not] at h8; omega)
      all_goals
        contradiction
    · try first | contradiction | omega | (simp only [decide_eq_true_eq, decide_eq_false_iff_not] at h8; omega)
      all_goals
        refine e_iconst (v := -1) dX10_trail_11 rfl ?_
        refine e_ret (some _) rfl (r_int dX10_trail_12 rfl) ?_
        exact xq rfl rfl rfl rfl rfl rfl
  | true =>
    have hx0 := hx
    obtain ⟨m, hm, hm2, rfl⟩ := inR_ex hx
    have hq := iv_mv iv hm
    have h60 := hq.2.2.2.2.2.2.2.1
    have tq : (nI (w (7694 + 72 * m + 6))).toInt = w (7694 + 72 * m + 6) := nI_toInt (b31 (by omega))
    cases hy : inR y (w (7694 + 72 * m + 6)) with
    | false =>
      have e : traR w (nI m) y = -1 := by unfold traR; rw [if_neg (fun z => by rw [nI_clamp hm2, hy] at z; exact absurd z.2 (by decide))]
      have hf := inR_f hy
      rw [e]
      refine e_aload_n dX10_trail_0 rfl rfl ?_
      refine e_getR dX10_trail_1 fl_X10_18 rfl (cx_0 cm) ?_
      refine e_iload_n dX10_trail_4 rfl rfl ?_
      refine x_V1 (M' := mX9_hasMove) dX10_trail_5 ml_X10_285 ok_X9_hasMove (by decide) rfl im_X9_hasMove se_X9_hasMove (ct_X9_hasMove cm iv hK _) (Nat.le_of_ble_eq_true rfl) (by decide) (Nat.le_of_ble_eq_true rfl) ?_
      rw [hx]
      first | ((with_reducible refine mk_b ?_); refine b_if_ne (tgt := 13) dX10_trail_8 (by decide) (fun h8 => ?_) (fun h8 => ?_)) | ((with_reducible refine mk_ll ?_); refine m_if_ne (tgt := 13) dX10_trail_8 (by decide) (by omega) (by omega) (fun h8 => ?_) (fun h8 => ?_)) | ((with_reducible refine mk_lc ?_); refine l_if_ne (tgt := 13) dX10_trail_8 (by decide) (fun h8 => ?_) (fun h8 => ?_)) | ((with_reducible refine mk_n ?_); refine n_if_ne (tgt := 13) dX10_trail_8 (by decide) (by omega) (fun h8 => ?_) (fun h8 => ?_)) | refine e_if_ne (tgt := 13) dX10_trail_8 (by decide) (fun h8 => ?_) (fun h8 => ?_)
      · try first | contradiction | omega | (simp only [decide_eq_true_eq, decide_eq_false_iff_not] at h8; omega)
        all_goals
          refine e_aload_n dX10_trail_13 rfl rfl ?_
          refine e_getR dX10_trail_14 fl_X10_18 rfl (cx_0 cm) ?_
          refine e_getR dX10_trail_17 fl_X10_288 rfl (cm_mvs cm) ?_
          refine e_iload_n dX10_trail_20 rfl rfl ?_
          refine e_aald _ dX10_trail_21 ⟨by decide, by decide⟩ rfl rfl (by simp only [lenK]; omega) (cm_mo cm (by omega)) ?_
          refine e_astore_n dX10_trail_22 rfl (Nat.le_of_ble_eq_true rfl) rfl ?_
          refine e_iload_n dX10_trail_23 rfl rfl ?_
          first | ((with_reducible refine mk_ll ?_); refine m_if_lt (tgt := 35) dX10_trail_24 (by decide) (by omega) (by omega) (fun h24 => ?_) (fun h24 => ?_)) | ((with_reducible refine mk_lc ?_); refine l_if_lt (tgt := 35) dX10_trail_24 (by decide) (fun h24 => ?_) (fun h24 => ?_)) | ((with_reducible refine mk_n ?_); refine n_if_lt (tgt := 35) dX10_trail_24 (by decide) (by omega) (fun h24 => ?_) (fun h24 => ?_)) | refine e_if_lt (tgt := 35) dX10_trail_24 (by decide) (fun h24 => ?_) (fun h24 => ?_)
          · try first | contradiction | omega
            all_goals
              refine e_iconst (v := -1) dX10_trail_35 rfl ?_
              refine e_ret (some _) rfl (r_int dX10_trail_36 rfl) ?_
              exact xq rfl rfl rfl rfl rfl rfl
          · try first | contradiction | omega
            all_goals
              refine e_iload_n dX10_trail_27 rfl rfl ?_
              refine e_aload_n dX10_trail_28 rfl rfl ?_
              refine e_getE dX10_trail_29 fl_X10_312 rfl (k_m1 hK (by first | omega | (simp (disch := omega) only [upN_n, upN_s]; omega))) ?_
              first | ((with_reducible refine mk_nn ?_); refine n_icmp_lt (tgt := 37) dX10_trail_32 (by decide) (by omega) (by omega) (fun h32 => ?_) (fun h32 => ?_)) | refine e_icmp_lt (tgt := 37) dX10_trail_32 (by decide) (fun h32 => ?_) (fun h32 => ?_)
              · try first | contradiction | omega
                all_goals
                  exfalso; simp only [Int32.lt_iff_toInt_lt, Int32.le_iff_toInt_le, z_toInt, tq] at *; omega
              · try first | contradiction | omega
                all_goals
                  refine e_iconst (v := -1) dX10_trail_35 rfl ?_
                  refine e_ret (some _) rfl (r_int dX10_trail_36 rfl) ?_
                  exact xq rfl rfl rfl rfl rfl rfl
      · try first | contradiction | omega | (simp only [decide_eq_true_eq, decide_eq_false_iff_not] at h8; omega)
        all_goals
          contradiction
    | true =>
      obtain ⟨v, hv, hv2, rfl⟩ := inR_ex hy
      have e : traR w (nI m) (nI v) = nI (w (7694 + 72 * m + 12 + v)) := by unfold traR; rw [if_pos ⟨hx0, by rw [nI_clamp hm2]; exact hy⟩, nI_clamp hm2, nI_clamp hv2]
      rw [e]
      refine e_aload_n dX10_trail_0 rfl rfl ?_
      refine e_getR dX10_trail_1 fl_X10_18 rfl (cx_0 cm) ?_
      refine e_iload_n dX10_trail_4 rfl rfl ?_
      refine x_V1 (M' := mX9_hasMove) dX10_trail_5 ml_X10_285 ok_X9_hasMove (by decide) rfl im_X9_hasMove se_X9_hasMove (ct_X9_hasMove cm iv hK _) (Nat.le_of_ble_eq_true rfl) (by decide) (Nat.le_of_ble_eq_true rfl) ?_
      rw [hx]
      first | ((with_reducible refine mk_b ?_); refine b_if_ne (tgt := 13) dX10_trail_8 (by decide) (fun h8 => ?_) (fun h8 => ?_)) | ((with_reducible refine mk_ll ?_); refine m_if_ne (tgt := 13) dX10_trail_8 (by decide) (by omega) (by omega) (fun h8 => ?_) (fun h8 => ?_)) | ((with_reducible refine mk_lc ?_); refine l_if_ne (tgt := 13) dX10_trail_8 (by decide) (fun h8 => ?_) (fun h8 => ?_)) | ((with_reducible refine mk_n ?_); refine n_if_ne (tgt := 13) dX10_trail_8 (by decide) (by omega) (fun h8 => ?_) (fun h8 => ?_)) | refine e_if_ne (tgt := 13) dX10_trail_8 (by decide) (fun h8 => ?_) (fun h8 => ?_)
      · try first | contradiction | omega | (simp only [decide_eq_true_eq, decide_eq_false_iff_not] at h8; omega)
        all_goals
          refine e_aload_n dX10_trail_13 rfl rfl ?_
          refine e_getR dX10_trail_14 fl_X10_18 rfl (cx_0 cm) ?_
          refine e_getR dX10_trail_17 fl_X10_288 rfl (cm_mvs cm) ?_
          refine e_iload_n dX10_trail_20 rfl rfl ?_
          refine e_aald _ dX10_trail_21 ⟨by decide, by decide⟩ rfl rfl (by simp only [lenK]; omega) (cm_mo cm (by omega)) ?_
          refine e_astore_n dX10_trail_22 rfl (Nat.le_of_ble_eq_true rfl) rfl ?_
          refine e_iload_n dX10_trail_23 rfl rfl ?_
          first | ((with_reducible refine mk_ll ?_); refine m_if_lt (tgt := 35) dX10_trail_24 (by decide) (by omega) (by omega) (fun h24 => ?_) (fun h24 => ?_)) | ((with_reducible refine mk_lc ?_); refine l_if_lt (tgt := 35) dX10_trail_24 (by decide) (fun h24 => ?_) (fun h24 => ?_)) | ((with_reducible refine mk_n ?_); refine n_if_lt (tgt := 35) dX10_trail_24 (by decide) (by omega) (fun h24 => ?_) (fun h24 => ?_)) | refine e_if_lt (tgt := 35) dX10_trail_24 (by decide) (fun h24 => ?_) (fun h24 => ?_)
          · try first | contradiction | omega
            all_goals
              omega
          · try first | contradiction | omega
            all_goals
              refine e_iload_n dX10_trail_27 rfl rfl ?_
              refine e_aload_n dX10_trail_28 rfl rfl ?_
              refine e_getE dX10_trail_29 fl_X10_312 rfl (k_m1 hK (by first | omega | (simp (disch := omega) only [upN_n, upN_s]; omega))) ?_
              first | ((with_reducible refine mk_nn ?_); refine n_icmp_lt (tgt := 37) dX10_trail_32 (by decide) (by omega) (by omega) (fun h32 => ?_) (fun h32 => ?_)) | refine e_icmp_lt (tgt := 37) dX10_trail_32 (by decide) (fun h32 => ?_) (fun h32 => ?_)
              · try first | contradiction | omega
                all_goals
                  refine e_aload_n dX10_trail_37 rfl rfl ?_
                  refine e_getR dX10_trail_38 fl_X10_329 rfl (cm_tra cm (by omega)) ?_
                  refine e_iload_n dX10_trail_41 rfl rfl ?_
                  refine e_iadE _ dX10_trail_42 ⟨by decide, by decide⟩ rfl rfl (by simp only [lenK]; omega) (k_tr hK (by first | omega | (simp (disch := omega) only [upN_n, upN_s]; omega)) (by first | omega | (simp (disch := omega) only [upN_n, upN_s]; omega))) ?_
                  refine e_ret (some _) rfl (r_int dX10_trail_43 rfl) ?_
                  exact xq rfl rfl rfl rfl rfl rfl
              · try first | contradiction | omega
                all_goals
                  omega
      · try first | contradiction | omega | (simp only [decide_eq_true_eq, decide_eq_false_iff_not] at h8; omega)
        all_goals
          contradiction
theorem ct_X10_clientOf {fi : FI} {fr : FR} {ai : FI} {ar : FR} {N : Nat} {w lg : Nat → Nat} {E : Nat} (cm : CM fr ar) (iv : Inv w) (hK : K fi ai w lg E) (x y : Int32) : CP mX10_clientOf 4 0 0 [.ref (rf 10 0), .int x, .int y] fi fr ai ar N (xQ (some (.int (cliR w x y))) fi fr ai ar N) := by
  have h1 := iv_n iv
  have h3 := iv_mm iv
  have bd := Bd_iv iv
  have hF : FR1 fi ai fi ai := FR1_rf
  change EV mX10_clientOf 4 0 0 0 [some (.ref (rf 10 0)), some (.int x), some (.int y)] [] fi fr ai ar N (xQ (some (.int (cliR w x y))) fi fr ai ar N)
  cases hx : inR x 6 with
  | false =>
    have e : cliR w x y = -1 := by unfold cliR; rw [if_neg (fun z => by rw [hx] at z; exact absurd z.1 (by decide))]
    rw [e]
    refine e_iload_n dX10_clientOf_0 rfl rfl ?_
    refine x_S1 (M' := mX10_isClient) dX10_clientOf_1 ml_X10_98 ok_X10_isClient rfl sc_X10_isClient (ct_X10_isClient _) (Nat.le_of_ble_eq_true rfl) (by decide) (Nat.le_of_ble_eq_true rfl) ?_
    rw [hx]
    first | ((with_reducible refine mk_b ?_); refine b_if_ne (tgt := 9) dX10_clientOf_4 (by decide) (fun h4 => ?_) (fun h4 => ?_)) | ((with_reducible refine mk_ll ?_); refine m_if_ne (tgt := 9) dX10_clientOf_4 (by decide) (by omega) (by omega) (fun h4 => ?_) (fun h4 => ?_)) | ((with_reducible refine mk_lc ?_); refine l_if_ne (tgt := 9) dX10_clientOf_4 (by decide) (fun h4 => ?_) (fun h4 => ?_)) | ((with_reducible refine mk_n ?_); refine n_if_ne (tgt := 9) dX10_clientOf_4 (by decide) (by omega) (fun h4 => ?_) (fun h4 => ?_)) | refine e_if_ne (tgt := 9) dX10_clientOf_4 (by decide) (fun h4 => ?_) (fun h4 => ?_)
    · try first | contradiction | omega | (simp only [decide_eq_true_eq, decide_eq_false_iff_not] at h4; omega)
      all_goals
        contradiction
    · try first | contradiction | omega | (simp only [decide_eq_true_eq, decide_eq_false_iff_not] at h4; omega)
      all_goals
        refine e_iconst (v := -1) dX10_clientOf_7 rfl ?_
        refine e_ret (some _) rfl (r_int dX10_clientOf_8 rfl) ?_
        exact xq rfl rfl rfl rfl rfl rfl
  | true =>
    have hx0 := hx
    obtain ⟨c, hc, hc2, rfl⟩ := inR_ex hx
    cases hy : inR y 6 with
    | false =>
      have e : cliR w (nI c) y = -1 := by unfold cliR; rw [if_neg (fun z => by rw [hy] at z; exact absurd z.2 (by decide))]
      have hf := inR_f hy
      rw [e]
      refine e_iload_n dX10_clientOf_0 rfl rfl ?_
      refine x_S1 (M' := mX10_isClient) dX10_clientOf_1 ml_X10_98 ok_X10_isClient rfl sc_X10_isClient (ct_X10_isClient _) (Nat.le_of_ble_eq_true rfl) (by decide) (Nat.le_of_ble_eq_true rfl) ?_
      rw [hx]
      first | ((with_reducible refine mk_b ?_); refine b_if_ne (tgt := 9) dX10_clientOf_4 (by decide) (fun h4 => ?_) (fun h4 => ?_)) | ((with_reducible refine mk_ll ?_); refine m_if_ne (tgt := 9) dX10_clientOf_4 (by decide) (by omega) (by omega) (fun h4 => ?_) (fun h4 => ?_)) | ((with_reducible refine mk_lc ?_); refine l_if_ne (tgt := 9) dX10_clientOf_4 (by decide) (fun h4 => ?_) (fun h4 => ?_)) | ((with_reducible refine mk_n ?_); refine n_if_ne (tgt := 9) dX10_clientOf_4 (by decide) (by omega) (fun h4 => ?_) (fun h4 => ?_)) | refine e_if_ne (tgt := 9) dX10_clientOf_4 (by decide) (fun h4 => ?_) (fun h4 => ?_)
      · try first | contradiction | omega | (simp only [decide_eq_true_eq, decide_eq_false_iff_not] at h4; omega)
        all_goals
          refine e_iload_n dX10_clientOf_9 rfl rfl ?_
          refine e_swc (tgt := 48) 0 dX10_clientOf_10 (by decide) (by decide) rfl (by decide) (fun h10_0 => ?_) (fun h10_0 => ?_)
          · try first | contradiction | omega
            all_goals
              omega
          refine e_swc (tgt := 61) 1 dX10_clientOf_10 (by decide) (by decide) rfl (by decide) (fun h10_1 => ?_) (fun h10_1 => ?_)
          · try first | contradiction | omega
            all_goals
              omega
          refine e_swc (tgt := 70) 2 dX10_clientOf_10 (by decide) (by decide) rfl (by decide) (fun h10_2 => ?_) (fun h10_2 => ?_)
          · try first | contradiction | omega
            all_goals
              omega
          refine e_swc (tgt := 80) 3 dX10_clientOf_10 (by decide) (by decide) rfl (by decide) (fun h10_3 => ?_) (fun h10_3 => ?_)
          · try first | contradiction | omega
            all_goals
              omega
          refine e_swc (tgt := 90) 4 dX10_clientOf_10 (by decide) (by decide) rfl (by decide) (fun h10_4 => ?_) (fun h10_4 => ?_)
          · try first | contradiction | omega
            all_goals
              omega
          refine e_swc (tgt := 100) 5 dX10_clientOf_10 (by decide) (by decide) rfl (by decide) (fun h10_5 => ?_) (fun h10_5 => ?_)
          · try first | contradiction | omega
            all_goals
              omega
          refine e_tableOut (tgt := 110) dX10_clientOf_10 (by omega) (by decide) ?_
          refine e_iconst (v := -1) dX10_clientOf_110 rfl ?_
          refine e_ret (some _) rfl (r_int dX10_clientOf_111 rfl) ?_
          exact xq rfl rfl rfl rfl rfl rfl
      · try first | contradiction | omega | (simp only [decide_eq_true_eq, decide_eq_false_iff_not] at h4; omega)
        all_goals
          contradiction
    | true =>
      obtain ⟨v, hv, hv2, rfl⟩ := inR_ex hy
      have hti : (nI v).toInt = v := nI_toInt (b31 hv2)
      have e : cliR w (nI c) (nI v) = if v = 0 then nI (w (7106 + 98 * c + 0)) else if v = 1 then nI (cnt (fun j => decide (anF w c (w (7106 + 98 * c + 2 + j)) = 3)) (w (7106 + 98 * c + 1))) else nI (w (8573 + 4 * c + v - 2)) := by unfold cliR; rw [if_pos ⟨hx0, hy⟩, nI_clamp hc2, nI_clamp hv2]
      rw [e]
      refine e_iload_n dX10_clientOf_0 rfl rfl ?_
      refine x_S1 (M' := mX10_isClient) dX10_clientOf_1 ml_X10_98 ok_X10_isClient rfl sc_X10_isClient (ct_X10_isClient _) (Nat.le_of_ble_eq_true rfl) (by decide) (Nat.le_of_ble_eq_true rfl) ?_
      rw [hx]
      first | ((with_reducible refine mk_b ?_); refine b_if_ne (tgt := 9) dX10_clientOf_4 (by decide) (fun h4 => ?_) (fun h4 => ?_)) | ((with_reducible refine mk_ll ?_); refine m_if_ne (tgt := 9) dX10_clientOf_4 (by decide) (by omega) (by omega) (fun h4 => ?_) (fun h4 => ?_)) | ((with_reducible refine mk_lc ?_); refine l_if_ne (tgt := 9) dX10_clientOf_4 (by decide) (fun h4 => ?_) (fun h4 => ?_)) | ((with_reducible refine mk_n ?_); refine n_if_ne (tgt := 9) dX10_clientOf_4 (by decide) (by omega) (fun h4 => ?_) (fun h4 => ?_)) | refine e_if_ne (tgt := 9) dX10_clientOf_4 (by decide) (fun h4 => ?_) (fun h4 => ?_)
      · try first | contradiction | omega | (simp only [decide_eq_true_eq, decide_eq_false_iff_not] at h4; omega)
        all_goals
          refine e_iload_n dX10_clientOf_9 rfl rfl ?_
          refine e_swc (tgt := 48) 0 dX10_clientOf_10 (by decide) (by decide) rfl (by decide) (fun h10_0 => ?_) (fun h10_0 => ?_)
          · try first | contradiction | omega
            all_goals
              refine e_aload_n dX10_clientOf_48 rfl rfl ?_
              refine e_getR dX10_clientOf_49 fl_X10_18 rfl (cx_0 cm) ?_
              refine e_getR dX10_clientOf_52 fl_X10_101 rfl (cm_cas cm) ?_
              refine e_iload_n dX10_clientOf_55 rfl rfl ?_
              refine e_aald _ dX10_clientOf_56 ⟨by decide, by decide⟩ rfl rfl (by simp only [lenK]; omega) (cm_ca cm (by omega)) ?_
              refine e_getE dX10_clientOf_57 fl_X10_105 rfl (by first | exact k_e hK | exact k_ce hK (by first | omega | (simp (disch := omega) only [upN_n, upN_s]; omega)) | assumption) ?_
              refine e_ret (some _) rfl (r_int dX10_clientOf_60 rfl) ?_
              refine xq ?_ rfl rfl rfl rfl rfl
              first | (exfalso; omega) | (rw [if_pos (by omega)]; done) | (rw [if_neg (by omega), if_pos (by omega)]; done) | (rw [if_neg (by omega), if_neg (by omega), show 8573 + 4 * c + v - 2 = 8573 + 4 * c by omega]; done) | (rw [if_neg (by omega), if_neg (by omega), show 8573 + 4 * c + v - 2 = 8573 + 4 * c + 1 by omega]; done) | (rw [if_neg (by omega), if_neg (by omega), show 8573 + 4 * c + v - 2 = 8573 + 4 * c + 2 by omega]; done) | (rw [if_neg (by omega), if_neg (by omega), show 8573 + 4 * c + v - 2 = 8573 + 4 * c + 3 by omega]; done)
          refine e_swc (tgt := 61) 1 dX10_clientOf_10 (by decide) (by decide) rfl (by decide) (fun h10_1 => ?_) (fun h10_1 => ?_)
          · try first | contradiction | omega
            all_goals
              refine e_aload_n dX10_clientOf_61 rfl rfl ?_
              refine e_getR dX10_clientOf_62 fl_X10_35 rfl (cx_2 cm) ?_
              refine e_iload_n dX10_clientOf_65 rfl rfl ?_
              refine x_V1 (M' := mX1_staleSpans) dX10_clientOf_66 ml_X10_110 ok_X1_staleSpans (by decide) rfl im_X1_staleSpans se_X1_staleSpans (ct_X1_staleSpans cm iv hK (by omega)) (Nat.le_of_ble_eq_true rfl) (by decide) (Nat.le_of_ble_eq_true rfl) ?_
              refine e_ret (some _) rfl (r_int dX10_clientOf_69 rfl) ?_
              refine xq ?_ rfl rfl rfl rfl rfl
              first | (exfalso; omega) | (rw [if_pos (by omega)]; done) | (rw [if_neg (by omega), if_pos (by omega)]; done) | (rw [if_neg (by omega), if_neg (by omega), show 8573 + 4 * c + v - 2 = 8573 + 4 * c by omega]; done) | (rw [if_neg (by omega), if_neg (by omega), show 8573 + 4 * c + v - 2 = 8573 + 4 * c + 1 by omega]; done) | (rw [if_neg (by omega), if_neg (by omega), show 8573 + 4 * c + v - 2 = 8573 + 4 * c + 2 by omega]; done) | (rw [if_neg (by omega), if_neg (by omega), show 8573 + 4 * c + v - 2 = 8573 + 4 * c + 3 by omega]; done)
          refine e_swc (tgt := 70) 2 dX10_clientOf_10 (by decide) (by decide) rfl (by decide) (fun h10_2 => ?_) (fun h10_2 => ?_)
          · try first | contradiction | omega
            all_goals
              refine e_aload_n dX10_clientOf_70 rfl rfl ?_
              refine e_getR dX10_clientOf_71 fl_X10_22 rfl (cx_1 cm) ?_
              refine e_getR dX10_clientOf_74 fl_X10_113 rfl (cl_as cm) ?_
              refine e_iload_n dX10_clientOf_77 rfl rfl ?_
              refine e_iadE _ dX10_clientOf_78 ⟨by decide, by decide⟩ rfl rfl (by simp only [lenK]; omega) (k_as hK (by first | omega | (simp (disch := omega) only [upN_n, upN_s]; omega))) ?_
              refine e_ret (some _) rfl (r_int dX10_clientOf_79 rfl) ?_
              refine xq ?_ rfl rfl rfl rfl rfl
              first | (exfalso; omega) | (rw [if_pos (by omega)]; done) | (rw [if_neg (by omega), if_pos (by omega)]; done) | (rw [if_neg (by omega), if_neg (by omega), show 8573 + 4 * c + v - 2 = 8573 + 4 * c by omega]; done) | (rw [if_neg (by omega), if_neg (by omega), show 8573 + 4 * c + v - 2 = 8573 + 4 * c + 1 by omega]; done) | (rw [if_neg (by omega), if_neg (by omega), show 8573 + 4 * c + v - 2 = 8573 + 4 * c + 2 by omega]; done) | (rw [if_neg (by omega), if_neg (by omega), show 8573 + 4 * c + v - 2 = 8573 + 4 * c + 3 by omega]; done)
          refine e_swc (tgt := 80) 3 dX10_clientOf_10 (by decide) (by decide) rfl (by decide) (fun h10_3 => ?_) (fun h10_3 => ?_)
          · try first | contradiction | omega
            all_goals
              refine e_aload_n dX10_clientOf_80 rfl rfl ?_
              refine e_getR dX10_clientOf_81 fl_X10_22 rfl (cx_1 cm) ?_
              refine e_getR dX10_clientOf_84 fl_X10_117 rfl (cl_an cm) ?_
              refine e_iload_n dX10_clientOf_87 rfl rfl ?_
              refine e_iadE _ dX10_clientOf_88 ⟨by decide, by decide⟩ rfl rfl (by simp only [lenK]; omega) (k_an hK (by first | omega | (simp (disch := omega) only [upN_n, upN_s]; omega))) ?_
              refine e_ret (some _) rfl (r_int dX10_clientOf_89 rfl) ?_
              refine xq ?_ rfl rfl rfl rfl rfl
              first | (exfalso; omega) | (rw [if_pos (by omega)]; done) | (rw [if_neg (by omega), if_pos (by omega)]; done) | (rw [if_neg (by omega), if_neg (by omega), show 8573 + 4 * c + v - 2 = 8573 + 4 * c by omega]; done) | (rw [if_neg (by omega), if_neg (by omega), show 8573 + 4 * c + v - 2 = 8573 + 4 * c + 1 by omega]; done) | (rw [if_neg (by omega), if_neg (by omega), show 8573 + 4 * c + v - 2 = 8573 + 4 * c + 2 by omega]; done) | (rw [if_neg (by omega), if_neg (by omega), show 8573 + 4 * c + v - 2 = 8573 + 4 * c + 3 by omega]; done)
          refine e_swc (tgt := 90) 4 dX10_clientOf_10 (by decide) (by decide) rfl (by decide) (fun h10_4 => ?_) (fun h10_4 => ?_)
          · try first | contradiction | omega
            all_goals
              refine e_aload_n dX10_clientOf_90 rfl rfl ?_
              refine e_getR dX10_clientOf_91 fl_X10_22 rfl (cx_1 cm) ?_
              refine e_getR dX10_clientOf_94 fl_X10_120 rfl (cl_tu cm) ?_
              refine e_iload_n dX10_clientOf_97 rfl rfl ?_
              refine e_iadE _ dX10_clientOf_98 ⟨by decide, by decide⟩ rfl rfl (by simp only [lenK]; omega) (k_tu hK (by first | omega | (simp (disch := omega) only [upN_n, upN_s]; omega))) ?_
              refine e_ret (some _) rfl (r_int dX10_clientOf_99 rfl) ?_
              refine xq ?_ rfl rfl rfl rfl rfl
              first | (exfalso; omega) | (rw [if_pos (by omega)]; done) | (rw [if_neg (by omega), if_pos (by omega)]; done) | (rw [if_neg (by omega), if_neg (by omega), show 8573 + 4 * c + v - 2 = 8573 + 4 * c by omega]; done) | (rw [if_neg (by omega), if_neg (by omega), show 8573 + 4 * c + v - 2 = 8573 + 4 * c + 1 by omega]; done) | (rw [if_neg (by omega), if_neg (by omega), show 8573 + 4 * c + v - 2 = 8573 + 4 * c + 2 by omega]; done) | (rw [if_neg (by omega), if_neg (by omega), show 8573 + 4 * c + v - 2 = 8573 + 4 * c + 3 by omega]; done)
          refine e_swc (tgt := 100) 5 dX10_clientOf_10 (by decide) (by decide) rfl (by decide) (fun h10_5 => ?_) (fun h10_5 => ?_)
          · try first | contradiction | omega
            all_goals
              refine e_aload_n dX10_clientOf_100 rfl rfl ?_
              refine e_getR dX10_clientOf_101 fl_X10_22 rfl (cx_1 cm) ?_
              refine e_getR dX10_clientOf_104 fl_X10_123 rfl (cl_nm cm) ?_
              refine e_iload_n dX10_clientOf_107 rfl rfl ?_
              refine e_iadE _ dX10_clientOf_108 ⟨by decide, by decide⟩ rfl rfl (by simp only [lenK]; omega) (k_nm hK (by first | omega | (simp (disch := omega) only [upN_n, upN_s]; omega))) ?_
              refine e_ret (some _) rfl (r_int dX10_clientOf_109 rfl) ?_
              refine xq ?_ rfl rfl rfl rfl rfl
              first | (exfalso; omega) | (rw [if_pos (by omega)]; done) | (rw [if_neg (by omega), if_pos (by omega)]; done) | (rw [if_neg (by omega), if_neg (by omega), show 8573 + 4 * c + v - 2 = 8573 + 4 * c by omega]; done) | (rw [if_neg (by omega), if_neg (by omega), show 8573 + 4 * c + v - 2 = 8573 + 4 * c + 1 by omega]; done) | (rw [if_neg (by omega), if_neg (by omega), show 8573 + 4 * c + v - 2 = 8573 + 4 * c + 2 by omega]; done) | (rw [if_neg (by omega), if_neg (by omega), show 8573 + 4 * c + v - 2 = 8573 + 4 * c + 3 by omega]; done)
          refine e_tableOut (tgt := 110) dX10_clientOf_10 (by omega) (by decide) ?_
          refine e_iconst (v := -1) dX10_clientOf_110 rfl ?_
          refine e_ret (some _) rfl (r_int dX10_clientOf_111 rfl) ?_
          refine xq ?_ rfl rfl rfl rfl rfl
          first | (exfalso; omega) | (rw [if_pos (by omega)]; done) | (rw [if_neg (by omega), if_pos (by omega)]; done) | (rw [if_neg (by omega), if_neg (by omega), show 8573 + 4 * c + v - 2 = 8573 + 4 * c by omega]; done) | (rw [if_neg (by omega), if_neg (by omega), show 8573 + 4 * c + v - 2 = 8573 + 4 * c + 1 by omega]; done) | (rw [if_neg (by omega), if_neg (by omega), show 8573 + 4 * c + v - 2 = 8573 + 4 * c + 2 by omega]; done) | (rw [if_neg (by omega), if_neg (by omega), show 8573 + 4 * c + v - 2 = 8573 + 4 * c + 3 by omega]; done)
      · try first | contradiction | omega | (simp only [decide_eq_true_eq, decide_eq_false_iff_not] at h4; omega)
        all_goals
          contradiction
theorem ct_X10_weight {fi : FI} {fr : FR} {ai : FI} {ar : FR} {N : Nat} {w lg : Nat → Nat} {E : Nat} (cm : CM fr ar) (iv : Inv w) (hK : K fi ai w lg E) (x : Int32) : CP mX10_weight 3 0 0 [.ref (rf 10 0), .int x] fi fr ai ar N (kQ (some (.long (wgtR w x))) fi fr ai ar N (fun fi ai => K fi ai w lg E)) := by
  have h1 := iv_n iv
  have h3 := iv_mm iv
  have bd := Bd_iv iv
  have hF : FR1 fi ai fi ai := FR1_rf
  change EV mX10_weight 3 0 0 0 [some (.ref (rf 10 0)), some (.int x)] [] fi fr ai ar N (kQ (some (.long (wgtR w x))) fi fr ai ar N (fun fi ai => K fi ai w lg E))
  cases hx : inR x (w 1) with
  | false =>
    have e : wgtR w x = -1 := by unfold wgtR; rw [hx]; rfl
    rw [e]
    refine e_aload_n dX10_weight_0 rfl rfl ?_
    refine e_getR dX10_weight_1 fl_X10_18 rfl (cx_0 cm) ?_
    refine e_getR dX10_weight_4 fl_X10_216 rfl (cm_map cm) ?_
    refine e_iload_n dX10_weight_7 rfl rfl ?_
    refine x_V1 (M' := mX8_has) dX10_weight_8 ml_X10_226 ok_X8_has (by decide) rfl im_X8_has se_X8_has (ct_X8_has cm iv hK _) (Nat.le_of_ble_eq_true rfl) (by decide) (Nat.le_of_ble_eq_true rfl) ?_
    rw [hx]
    first | ((with_reducible refine mk_b ?_); refine b_if_ne (tgt := 18) dX10_weight_11 (by decide) (fun h11 => ?_) (fun h11 => ?_)) | ((with_reducible refine mk_ll ?_); refine m_if_ne (tgt := 18) dX10_weight_11 (by decide) (by omega) (by omega) (fun h11 => ?_) (fun h11 => ?_)) | ((with_reducible refine mk_lc ?_); refine l_if_ne (tgt := 18) dX10_weight_11 (by decide) (fun h11 => ?_) (fun h11 => ?_)) | ((with_reducible refine mk_n ?_); refine n_if_ne (tgt := 18) dX10_weight_11 (by decide) (by omega) (fun h11 => ?_) (fun h11 => ?_)) | refine e_if_ne (tgt := 18) dX10_weight_11 (by decide) (fun h11 => ?_) (fun h11 => ?_)
    · try first | contradiction | omega | (simp only [decide_eq_true_eq, decide_eq_false_iff_not] at h11; omega)
      all_goals
        contradiction
    · try first | contradiction | omega | (simp only [decide_eq_true_eq, decide_eq_false_iff_not] at h11; omega)
      all_goals
        refine e_ldc2 dX10_weight_14 co_X10_250 ?_
        refine e_ret (some _) rfl (r_long dX10_weight_17 rfl) ?_
        exact kq rfl hF hK
  | true =>
    obtain ⟨i, hi, hi2, rfl⟩ := inR_ex hx
    have hw := wtF_le iv hi
    have e : wgtR w (nI i) = lN (wtF w i) := by unfold wgtR; rw [hx, if_pos rfl, nI_clamp hi2]
    rw [e]
    refine e_aload_n dX10_weight_0 rfl rfl ?_
    refine e_getR dX10_weight_1 fl_X10_18 rfl (cx_0 cm) ?_
    refine e_getR dX10_weight_4 fl_X10_216 rfl (cm_map cm) ?_
    refine e_iload_n dX10_weight_7 rfl rfl ?_
    refine x_V1 (M' := mX8_has) dX10_weight_8 ml_X10_226 ok_X8_has (by decide) rfl im_X8_has se_X8_has (ct_X8_has cm iv hK _) (Nat.le_of_ble_eq_true rfl) (by decide) (Nat.le_of_ble_eq_true rfl) ?_
    rw [hx]
    first | ((with_reducible refine mk_b ?_); refine b_if_ne (tgt := 18) dX10_weight_11 (by decide) (fun h11 => ?_) (fun h11 => ?_)) | ((with_reducible refine mk_ll ?_); refine m_if_ne (tgt := 18) dX10_weight_11 (by decide) (by omega) (by omega) (fun h11 => ?_) (fun h11 => ?_)) | ((with_reducible refine mk_lc ?_); refine l_if_ne (tgt := 18) dX10_weight_11 (by decide) (fun h11 => ?_) (fun h11 => ?_)) | ((with_reducible refine mk_n ?_); refine n_if_ne (tgt := 18) dX10_weight_11 (by decide) (by omega) (fun h11 => ?_) (fun h11 => ?_)) | refine e_if_ne (tgt := 18) dX10_weight_11 (by decide) (fun h11 => ?_) (fun h11 => ?_)
    · try first | contradiction | omega | (simp only [decide_eq_true_eq, decide_eq_false_iff_not] at h11; omega)
      all_goals
        refine e_aload_n dX10_weight_18 rfl rfl ?_
        refine e_getR dX10_weight_19 fl_X10_26 rfl (cx_5 cm) ?_
        refine e_aload_n dX10_weight_22 rfl rfl ?_
        refine e_getR dX10_weight_23 fl_X10_18 rfl (cx_0 cm) ?_
        refine ky_V1 (M' := mX6_take) dX10_weight_26 ml_X10_252 ok_X6_take (by decide) rfl im_X6_take se_X6_take (ct_X6_take cm iv hK) (Nat.le_of_ble_eq_true rfl) (by decide) (Nat.le_of_ble_eq_true rfl) (fun fi ai hG hKP => ?_)
        have hF := FR1_tr hF hG
        have hK := hKP.1
        have hP := hKP.2
        refine e_aload_n dX10_weight_29 rfl rfl ?_
        refine e_getR dX10_weight_30 fl_X10_26 rfl (cx_5 cm) ?_
        refine e_iload_n dX10_weight_33 rfl rfl ?_
        refine x_V1 (M' := mX6_weightOf) dX10_weight_34 ml_X10_255 ok_X6_weightOf (by decide) rfl im_X6_weightOf se_X6_weightOf (ct_X6_weightOf cm iv hP (by omega)) (Nat.le_of_ble_eq_true rfl) (by decide) (Nat.le_of_ble_eq_true rfl) ?_
        first | ((with_reducible refine mk_n ?_); refine n_i2l dX10_weight_37 (by omega) ?_) | refine e_i2l dX10_weight_37 ?_
        refine e_ret (some _) rfl (r_long dX10_weight_38 rfl) ?_
        exact kq rfl hF hK
    · try first | contradiction | omega | (simp only [decide_eq_true_eq, decide_eq_false_iff_not] at h11; omega)
      all_goals
        contradiction
theorem ct_X10_middleOf {fi : FI} {fr : FR} {ai : FI} {ar : FR} {N : Nat} {w lg : Nat → Nat} {E : Nat} (cm : CM fr ar) (iv : Inv w) (hK : K fi ai w lg E) (x : Int32) : CP mX10_middleOf 3 0 0 [.ref (rf 10 0), .int x] fi fr ai ar N (kQ (some (.int (midR w x))) fi fr ai ar N (fun fi ai => K fi ai w lg E)) := by
  have h1 := iv_n iv
  have h3 := iv_mm iv
  have bd := Bd_iv iv
  have hF : FR1 fi ai fi ai := FR1_rf
  change EV mX10_middleOf 3 0 0 0 [some (.ref (rf 10 0)), some (.int x)] [] fi fr ai ar N (kQ (some (.int (midR w x))) fi fr ai ar N (fun fi ai => K fi ai w lg E))
  cases hx : inR x (w 1) with
  | false =>
    have e : midR w x = -1 := by unfold midR; rw [hx]; rfl
    rw [e]
    refine e_aload_n dX10_middleOf_0 rfl rfl ?_
    refine e_getR dX10_middleOf_1 fl_X10_18 rfl (cx_0 cm) ?_
    refine e_getR dX10_middleOf_4 fl_X10_216 rfl (cm_map cm) ?_
    refine e_iload_n dX10_middleOf_7 rfl rfl ?_
    refine x_V1 (M' := mX8_has) dX10_middleOf_8 ml_X10_226 ok_X8_has (by decide) rfl im_X8_has se_X8_has (ct_X8_has cm iv hK _) (Nat.le_of_ble_eq_true rfl) (by decide) (Nat.le_of_ble_eq_true rfl) ?_
    rw [hx]
    first | ((with_reducible refine mk_b ?_); refine b_if_ne (tgt := 16) dX10_middleOf_11 (by decide) (fun h11 => ?_) (fun h11 => ?_)) | ((with_reducible refine mk_ll ?_); refine m_if_ne (tgt := 16) dX10_middleOf_11 (by decide) (by omega) (by omega) (fun h11 => ?_) (fun h11 => ?_)) | ((with_reducible refine mk_lc ?_); refine l_if_ne (tgt := 16) dX10_middleOf_11 (by decide) (fun h11 => ?_) (fun h11 => ?_)) | ((with_reducible refine mk_n ?_); refine n_if_ne (tgt := 16) dX10_middleOf_11 (by decide) (by omega) (fun h11 => ?_) (fun h11 => ?_)) | refine e_if_ne (tgt := 16) dX10_middleOf_11 (by decide) (fun h11 => ?_) (fun h11 => ?_)
    · try first | contradiction | omega | (simp only [decide_eq_true_eq, decide_eq_false_iff_not] at h11; omega)
      all_goals
        contradiction
    · try first | contradiction | omega | (simp only [decide_eq_true_eq, decide_eq_false_iff_not] at h11; omega)
      all_goals
        refine e_iconst (v := -1) dX10_middleOf_14 rfl ?_
        refine e_ret (some _) rfl (r_int dX10_middleOf_15 rfl) ?_
        exact kq rfl hF hK
  | true =>
    obtain ⟨i, hi, hi2, rfl⟩ := inR_ex hx
    have e : midR w (nI i) = oI (mdO w i) := by unfold midR; rw [hx, if_pos rfl, nI_clamp hi2]
    rw [e]
    refine e_aload_n dX10_middleOf_0 rfl rfl ?_
    refine e_getR dX10_middleOf_1 fl_X10_18 rfl (cx_0 cm) ?_
    refine e_getR dX10_middleOf_4 fl_X10_216 rfl (cm_map cm) ?_
    refine e_iload_n dX10_middleOf_7 rfl rfl ?_
    refine x_V1 (M' := mX8_has) dX10_middleOf_8 ml_X10_226 ok_X8_has (by decide) rfl im_X8_has se_X8_has (ct_X8_has cm iv hK _) (Nat.le_of_ble_eq_true rfl) (by decide) (Nat.le_of_ble_eq_true rfl) ?_
    rw [hx]
    first | ((with_reducible refine mk_b ?_); refine b_if_ne (tgt := 16) dX10_middleOf_11 (by decide) (fun h11 => ?_) (fun h11 => ?_)) | ((with_reducible refine mk_ll ?_); refine m_if_ne (tgt := 16) dX10_middleOf_11 (by decide) (by omega) (by omega) (fun h11 => ?_) (fun h11 => ?_)) | ((with_reducible refine mk_lc ?_); refine l_if_ne (tgt := 16) dX10_middleOf_11 (by decide) (fun h11 => ?_) (fun h11 => ?_)) | ((with_reducible refine mk_n ?_); refine n_if_ne (tgt := 16) dX10_middleOf_11 (by decide) (by omega) (fun h11 => ?_) (fun h11 => ?_)) | refine e_if_ne (tgt := 16) dX10_middleOf_11 (by decide) (fun h11 => ?_) (fun h11 => ?_)
    · try first | contradiction | omega | (simp only [decide_eq_true_eq, decide_eq_false_iff_not] at h11; omega)
      all_goals
        refine e_aload_n dX10_middleOf_16 rfl rfl ?_
        refine e_getR dX10_middleOf_17 fl_X10_26 rfl (cx_5 cm) ?_
        refine e_aload_n dX10_middleOf_20 rfl rfl ?_
        refine e_getR dX10_middleOf_21 fl_X10_18 rfl (cx_0 cm) ?_
        refine ky_V1 (M' := mX6_take) dX10_middleOf_24 ml_X10_252 ok_X6_take (by decide) rfl im_X6_take se_X6_take (ct_X6_take cm iv hK) (Nat.le_of_ble_eq_true rfl) (by decide) (Nat.le_of_ble_eq_true rfl) (fun fi ai hG hKP => ?_)
        have hF := FR1_tr hF hG
        have hK := hKP.1
        have hP := hKP.2
        refine e_aload_n dX10_middleOf_27 rfl rfl ?_
        refine e_getR dX10_middleOf_28 fl_X10_26 rfl (cx_5 cm) ?_
        refine e_iload_n dX10_middleOf_31 rfl rfl ?_
        refine x_V1 (M' := mX6_middleIn) dX10_middleOf_32 ml_X10_258 ok_X6_middleIn (by decide) rfl im_X6_middleIn se_X6_middleIn (ct_X6_middleIn cm iv hP (by omega)) (Nat.le_of_ble_eq_true rfl) (by decide) (Nat.le_of_ble_eq_true rfl) ?_
        refine e_ret (some _) rfl (r_int dX10_middleOf_35 rfl) ?_
        exact kq rfl hF hK
    · try first | contradiction | omega | (simp only [decide_eq_true_eq, decide_eq_false_iff_not] at h11; omega)
      all_goals
        contradiction
theorem ct_X10_load {fi : FI} {fr : FR} {ai : FI} {ar : FR} {N : Nat} {w lg : Nat → Nat} {E : Nat} (cm : CM fr ar) (iv : Inv w) (hK : K fi ai w lg E) (x : Int32) : CP mX10_load 3 0 0 [.ref (rf 10 0), .int x] fi fr ai ar N (kQ (some (.long (loaR w x))) fi fr ai ar N (fun fi ai => K fi ai w lg E)) := by
  have h1 := iv_n iv
  have h3 := iv_mm iv
  have bd := Bd_iv iv
  have hF : FR1 fi ai fi ai := FR1_rf
  change EV mX10_load 3 0 0 0 [some (.ref (rf 10 0)), some (.int x)] [] fi fr ai ar N (kQ (some (.long (loaR w x))) fi fr ai ar N (fun fi ai => K fi ai w lg E))
  cases hx : inR x 6 with
  | false =>
    have e : loaR w x = -1 := by unfold loaR; rw [hx]; rfl
    rw [e]
    refine e_iload_n dX10_load_0 rfl rfl ?_
    refine x_S1 (M' := mX10_isServer) dX10_load_1 ml_X10_264 ok_X10_isServer rfl sc_X10_isServer (ct_X10_isServer _) (Nat.le_of_ble_eq_true rfl) (by decide) (Nat.le_of_ble_eq_true rfl) ?_
    rw [hx]
    first | ((with_reducible refine mk_b ?_); refine b_if_ne (tgt := 11) dX10_load_4 (by decide) (fun h4 => ?_) (fun h4 => ?_)) | ((with_reducible refine mk_ll ?_); refine m_if_ne (tgt := 11) dX10_load_4 (by decide) (by omega) (by omega) (fun h4 => ?_) (fun h4 => ?_)) | ((with_reducible refine mk_lc ?_); refine l_if_ne (tgt := 11) dX10_load_4 (by decide) (fun h4 => ?_) (fun h4 => ?_)) | ((with_reducible refine mk_n ?_); refine n_if_ne (tgt := 11) dX10_load_4 (by decide) (by omega) (fun h4 => ?_) (fun h4 => ?_)) | refine e_if_ne (tgt := 11) dX10_load_4 (by decide) (fun h4 => ?_) (fun h4 => ?_)
    · try first | contradiction | omega | (simp only [decide_eq_true_eq, decide_eq_false_iff_not] at h4; omega)
      all_goals
        contradiction
    · try first | contradiction | omega | (simp only [decide_eq_true_eq, decide_eq_false_iff_not] at h4; omega)
      all_goals
        refine e_ldc2 dX10_load_7 co_X10_250 ?_
        refine e_ret (some _) rfl (r_long dX10_load_10 rfl) ?_
        exact kq rfl hF hK
  | true =>
    obtain ⟨s, hs, hs2, rfl⟩ := inR_ex hx
    have hw := ldF_le2 iv s
    have e : loaR w (nI s) = lN (ldF w s) := by unfold loaR; rw [hx, if_pos rfl, nI_clamp hs2]
    rw [e]
    refine e_iload_n dX10_load_0 rfl rfl ?_
    refine x_S1 (M' := mX10_isServer) dX10_load_1 ml_X10_264 ok_X10_isServer rfl sc_X10_isServer (ct_X10_isServer _) (Nat.le_of_ble_eq_true rfl) (by decide) (Nat.le_of_ble_eq_true rfl) ?_
    rw [hx]
    first | ((with_reducible refine mk_b ?_); refine b_if_ne (tgt := 11) dX10_load_4 (by decide) (fun h4 => ?_) (fun h4 => ?_)) | ((with_reducible refine mk_ll ?_); refine m_if_ne (tgt := 11) dX10_load_4 (by decide) (by omega) (by omega) (fun h4 => ?_) (fun h4 => ?_)) | ((with_reducible refine mk_lc ?_); refine l_if_ne (tgt := 11) dX10_load_4 (by decide) (fun h4 => ?_) (fun h4 => ?_)) | ((with_reducible refine mk_n ?_); refine n_if_ne (tgt := 11) dX10_load_4 (by decide) (by omega) (fun h4 => ?_) (fun h4 => ?_)) | refine e_if_ne (tgt := 11) dX10_load_4 (by decide) (fun h4 => ?_) (fun h4 => ?_)
    · try first | contradiction | omega | (simp only [decide_eq_true_eq, decide_eq_false_iff_not] at h4; omega)
      all_goals
        refine e_aload_n dX10_load_11 rfl rfl ?_
        refine e_getR dX10_load_12 fl_X10_26 rfl (cx_5 cm) ?_
        refine e_aload_n dX10_load_15 rfl rfl ?_
        refine e_getR dX10_load_16 fl_X10_18 rfl (cx_0 cm) ?_
        refine ky_V1 (M' := mX6_take) dX10_load_19 ml_X10_252 ok_X6_take (by decide) rfl im_X6_take se_X6_take (ct_X6_take cm iv hK) (Nat.le_of_ble_eq_true rfl) (by decide) (Nat.le_of_ble_eq_true rfl) (fun fi ai hG hKP => ?_)
        have hF := FR1_tr hF hG
        have hK := hKP.1
        have hP := hKP.2
        refine e_aload_n dX10_load_22 rfl rfl ?_
        refine e_getR dX10_load_23 fl_X10_26 rfl (cx_5 cm) ?_
        refine e_getR dX10_load_26 fl_X10_279 rfl (cp_load cm) ?_
        refine e_iload_n dX10_load_29 rfl rfl ?_
        refine e_iadE _ dX10_load_30 ⟨by decide, by decide⟩ rfl rfl (by simp only [lenK]; omega) (pl_ld hP (by omega)) ?_
        first | ((with_reducible refine mk_n ?_); refine n_i2l dX10_load_31 (by omega) ?_) | refine e_i2l dX10_load_31 ?_
        refine e_ret (some _) rfl (r_long dX10_load_32 rfl) ?_
        exact kq rfl hF hK
    · try first | contradiction | omega | (simp only [decide_eq_true_eq, decide_eq_false_iff_not] at h4; omega)
      all_goals
        contradiction
theorem i2l_m1 : (-1 : Int32).toInt64 = -1 := by decide
theorem i2l_oI {o : Option Nat} (h : ∀ e, o = some e → e < 2147483648) : (oI o).toInt64 = oL o := oI_l h
theorem ct_X10_even {fi : FI} {fr : FR} {ai : FI} {ar : FR} {N : Nat} {w lg : Nat → Nat} {E : Nat} (cm : CM fr ar) (iv : Inv w) (hK : K fi ai w lg E)  : CP mX10_even 3 0 0 [.ref (rf 10 0)] fi fr ai ar N (kQ (some (.long (oL (evF w)))) fi fr ai ar N (fun fi ai => K fi ai w lg E)) := by
  have h1 := iv_n iv
  have h3 := iv_mm iv
  have bd := Bd_iv iv
  have hF : FR1 fi ai fi ai := FR1_rf
  change EV mX10_even 3 0 0 0 [some (.ref (rf 10 0))] [] fi fr ai ar N (kQ (some (.long (oL (evF w)))) fi fr ai ar N (fun fi ai => K fi ai w lg E))
  have hle : ∀ e, evF w = some e → e < 2147483648 := fun e h => by
    unfold evF at h
    split at h
    · rename_i a b _ _
      have := ldF_le2 iv a
      have := Option.some.inj h
      omega
    · cases h
  refine e_aload_n dX10_even_0 rfl rfl ?_
  refine e_getR dX10_even_1 fl_X10_26 rfl (cx_5 cm) ?_
  refine e_aload_n dX10_even_4 rfl rfl ?_
  refine e_getR dX10_even_5 fl_X10_18 rfl (cx_0 cm) ?_
  refine ky_V1 (M' := mX6_take) dX10_even_8 ml_X10_252 ok_X6_take (by decide) rfl im_X6_take se_X6_take (ct_X6_take cm iv hK) (Nat.le_of_ble_eq_true rfl) (by decide) (Nat.le_of_ble_eq_true rfl) (fun fi ai hG hKP => ?_)
  have hF := FR1_tr hF hG
  have hK := hKP.1
  have hP := hKP.2
  refine e_aload_n dX10_even_11 rfl rfl ?_
  refine e_getR dX10_even_12 fl_X10_26 rfl (cx_5 cm) ?_
  refine e_iconst (v := -1) dX10_even_15 rfl ?_
  refine x_V1 (M' := mX6_gap) dX10_even_16 ml_X10_389 ok_X6_gap (by decide) rfl im_X6_gap se_X6_gap (by first | exact ct_gapN cm iv hP | exact ct_gapB cm iv hP (by omega)) (Nat.le_of_ble_eq_true rfl) (by decide) (Nat.le_of_ble_eq_true rfl) ?_
  first | ((with_reducible refine mk_n ?_); refine n_i2l dX10_even_19 (by omega) ?_) | refine e_i2l dX10_even_19 ?_
  refine e_ret (some _) rfl (r_long dX10_even_20 rfl) ?_
  refine kq ?_ hF hK
  rw [← i2l_oI hle]
theorem ct_X10_sound {fi : FI} {fr : FR} {ai : FI} {ar : FR} {N : Nat} {w lg : Nat → Nat} {E : Nat} (cm : CM fr ar) (iv : Inv w) (hK : K fi ai w lg E)  : CP mX10_sound 3 0 0 [.ref (rf 10 0)] fi fr ai ar N (xQ (some (.int (bI (soB w)))) fi fr ai ar N) := by
  have h1 := iv_n iv
  have h3 := iv_mm iv
  have bd := Bd_iv iv
  have hF : FR1 fi ai fi ai := FR1_rf
  change EV mX10_sound 3 0 0 0 [some (.ref (rf 10 0))] [] fi fr ai ar N (xQ (some (.int (bI (soB w)))) fi fr ai ar N)
  rw [← so_eq iv]
  refine e_aload_n dX10_sound_0 rfl rfl ?_
  refine e_getR dX10_sound_1 fl_X10_18 rfl (cx_0 cm) ?_
  refine x_V0 (M' := mX9_isSound) dX10_sound_4 ml_X10_372 ok_X9_isSound (by decide) rfl im_X9_isSound se_X9_isSound (ct_X9_isSound cm iv hK) (Nat.le_of_ble_eq_true rfl) (by decide) (Nat.le_of_ble_eq_true rfl) ?_
  first | ((with_reducible refine mk_b ?_); refine b_if_eq (tgt := 14) dX10_sound_7 (by decide) (fun h7 => ?_) (fun h7 => ?_)) | ((with_reducible refine mk_ll ?_); refine m_if_eq (tgt := 14) dX10_sound_7 (by decide) (by omega) (by omega) (fun h7 => ?_) (fun h7 => ?_)) | ((with_reducible refine mk_lc ?_); refine l_if_eq (tgt := 14) dX10_sound_7 (by decide) (fun h7 => ?_) (fun h7 => ?_)) | ((with_reducible refine mk_n ?_); refine n_if_eq (tgt := 14) dX10_sound_7 (by decide) (by omega) (fun h7 => ?_) (fun h7 => ?_)) | refine e_if_eq (tgt := 14) dX10_sound_7 (by decide) (fun h7 => ?_) (fun h7 => ?_)
  · try first | contradiction | omega | (simp only [decide_eq_true_eq, decide_eq_false_iff_not] at h7; omega)
    all_goals
      refine e_iconst (v := nI 0) dX10_sound_14 rfl ?_
      refine e_ret (some _) rfl (r_int dX10_sound_15 rfl) ?_
      refine xq ?_ rfl rfl rfl rfl rfl
      first | (rw [show soC w = true from h7]; rfl) | (rw [show soC w = false from h7]; rfl)
  · try first | contradiction | omega | (simp only [decide_eq_true_eq, decide_eq_false_iff_not] at h7; omega)
    all_goals
      refine e_iconst (v := nI 1) dX10_sound_10 rfl ?_
      refine e_goto (tgt := 15) dX10_sound_11 (by decide) ?_
      refine e_ret (some _) rfl (r_int dX10_sound_15 rfl) ?_
      refine xq ?_ rfl rfl rfl rfl rfl
      first | (rw [show soC w = true from h7]; rfl) | (rw [show soC w = false from h7]; rfl)
theorem ct_X10_spare {fi : FI} {fr : FR} {ai : FI} {ar : FR} {N : Nat} {w lg : Nat → Nat} {E : Nat} (cm : CM fr ar) (iv : Inv w) (hK : K fi ai w lg E)  : CP mX10_spare 2 0 0 [.ref (rf 10 0)] fi fr ai ar N (xQ (some (.int (sprR w))) fi fr ai ar N) := by
  have h1 := iv_n iv
  have h3 := iv_mm iv
  have bd := Bd_iv iv
  have hF : FR1 fi ai fi ai := FR1_rf
  change EV mX10_spare 2 0 0 0 [some (.ref (rf 10 0)), none, none] [] fi fr ai ar N (xQ (some (.int (sprR w))) fi fr ai ar N)
  have key := ev_up (P := (fun j => EV mX10_spare 2 0 0 4 [some (.ref (rf 10 0)), some (.int (nI (rs (fun s => cnt (fun k => decide (0 < w (1106 + 1000 * s + k))) 1000) 0 j))), some (.int (nI j))] [] fi fr ai ar N (xQ (some (.int (sprR w))) fi fr ai ar N))) (6) (fun j hj ih => by
    have e5 : cnt (fun i => decide (0 < w (1106 + 1000 * j + (0 + i)))) (1000 - 0) = cnt (fun k => decide (0 < w (1106 + 1000 * j + k))) 1000 := by simp only [Nat.zero_add, Nat.sub_zero]
    refine e_iload_n dX10_spare_4 rfl rfl ?_
    refine e_bipush (v := nI 6) dX10_spare_5 rfl ?_
    first | ((with_reducible refine mk_nn ?_); refine n_icmp_ge (tgt := 31) dX10_spare_7 (by decide) (by omega) (by omega) (fun h7 => ?_) (fun h7 => ?_)) | refine e_icmp_ge (tgt := 31) dX10_spare_7 (by decide) (fun h7 => ?_) (fun h7 => ?_)
    · try first | contradiction | omega
      all_goals
        refine e_iload_n dX10_spare_31 rfl rfl ?_
        refine e_aload_n dX10_spare_32 rfl rfl ?_
        refine e_getR dX10_spare_33 fl_X10_18 rfl (cx_0 cm) ?_
        refine x_V0 (M' := mX9_valuesAtOwners) dX10_spare_36 ml_X10_366 ok_X9_valuesAtOwners (by decide) rfl im_X9_valuesAtOwners se_X9_valuesAtOwners (ct_X9_valuesAtOwners cm iv hK) (Nat.le_of_ble_eq_true rfl) (by decide) (Nat.le_of_ble_eq_true rfl) ?_
        first | ((with_reducible refine mk_nn ?_); refine n_isub dX10_spare_39 (by omega) ?_) | refine e_isub dX10_spare_39 ?_
        refine e_ret (some _) rfl (r_int dX10_spare_40 rfl) ?_
        exact xq (by first | rfl | simp_all [bI_t, bI_f]) rfl rfl rfl rfl rfl
    · try first | contradiction | omega
      all_goals
        refine e_iload_n dX10_spare_10 rfl rfl ?_
        refine e_aload_n dX10_spare_11 rfl rfl ?_
        refine e_getR dX10_spare_12 fl_X10_18 rfl (cx_0 cm) ?_
        refine e_iload_n dX10_spare_15 rfl rfl ?_
        refine e_iconst (v := nI 0) dX10_spare_16 rfl ?_
        refine e_sipush (v := nI 1000) dX10_spare_17 rfl ?_
        refine x_V3 (M' := mX9_valuesIn) dX10_spare_20 ml_X10_247 ok_X9_valuesIn (by decide) rfl im_X9_valuesIn se_X9_valuesIn (ct_X9_valuesIn cm iv hK (by omega) (by omega) (by omega)) (Nat.le_of_ble_eq_true rfl) (by decide) (Nat.le_of_ble_eq_true rfl) ?_
        rw [e5]
        first | ((with_reducible refine mk_nn ?_); refine n_iadd dX10_spare_23 ?_) | refine e_iadd dX10_spare_23 ?_
        refine e_istore_n dX10_spare_24 rfl (Nat.le_of_ble_eq_true rfl) rfl ?_
        first | refine n_inc dX10_spare_25 rfl (Nat.le_of_ble_eq_true rfl) rfl ?_ | refine e_iinc dX10_spare_25 rfl rfl (Nat.le_of_ble_eq_true rfl) rfl ?_
        refine e_goto (tgt := 4) dX10_spare_28 (by decide) ?_
        rw [rs_s, Nat.zero_add] at ih
        exact ih
    ) (by
    refine e_iload_n dX10_spare_4 rfl rfl ?_
    refine e_bipush (v := nI 6) dX10_spare_5 rfl ?_
    first | ((with_reducible refine mk_nn ?_); refine n_icmp_ge (tgt := 31) dX10_spare_7 (by decide) (by omega) (by omega) (fun h7 => ?_) (fun h7 => ?_)) | refine e_icmp_ge (tgt := 31) dX10_spare_7 (by decide) (fun h7 => ?_) (fun h7 => ?_)
    · try first | contradiction | omega
      all_goals
        refine e_iload_n dX10_spare_31 rfl rfl ?_
        refine e_aload_n dX10_spare_32 rfl rfl ?_
        refine e_getR dX10_spare_33 fl_X10_18 rfl (cx_0 cm) ?_
        refine x_V0 (M' := mX9_valuesAtOwners) dX10_spare_36 ml_X10_366 ok_X9_valuesAtOwners (by decide) rfl im_X9_valuesAtOwners se_X9_valuesAtOwners (ct_X9_valuesAtOwners cm iv hK) (Nat.le_of_ble_eq_true rfl) (by decide) (Nat.le_of_ble_eq_true rfl) ?_
        first | ((with_reducible refine mk_nn ?_); refine n_isub dX10_spare_39 (by omega) ?_) | refine e_isub dX10_spare_39 ?_
        refine e_ret (some _) rfl (r_int dX10_spare_40 rfl) ?_
        refine xq ?_ rfl rfl rfl rfl rfl
        unfold sprR
        first | rfl | (rw [pk_sub (by omega)])
    · try first | contradiction | omega
      all_goals
        refine e_iload_n dX10_spare_10 rfl rfl ?_
        refine e_aload_n dX10_spare_11 rfl rfl ?_
        refine e_getR dX10_spare_12 fl_X10_18 rfl (cx_0 cm) ?_
        refine e_iload_n dX10_spare_15 rfl rfl ?_
        refine e_iconst (v := nI 0) dX10_spare_16 rfl ?_
        refine e_sipush (v := nI 1000) dX10_spare_17 rfl ?_
        refine x_V3 (M' := mX9_valuesIn) dX10_spare_20 ml_X10_247 ok_X9_valuesIn (by decide) rfl im_X9_valuesIn se_X9_valuesIn (ct_X9_valuesIn cm iv hK (by omega) (by omega) (by omega)) (Nat.le_of_ble_eq_true rfl) (by decide) (Nat.le_of_ble_eq_true rfl) ?_
        first | ((with_reducible refine mk_nn ?_); refine n_iadd dX10_spare_23 ?_) | refine e_iadd dX10_spare_23 ?_
        refine e_istore_n dX10_spare_24 rfl (Nat.le_of_ble_eq_true rfl) rfl ?_
        first | refine n_inc dX10_spare_25 rfl (Nat.le_of_ble_eq_true rfl) rfl ?_ | refine e_iinc dX10_spare_25 rfl rfl (Nat.le_of_ble_eq_true rfl) rfl ?_
        refine e_goto (tgt := 4) dX10_spare_28 (by decide) ?_
        contradiction
    )
  refine e_iconst (v := nI 0) dX10_spare_0 rfl ?_
  refine e_istore_n dX10_spare_1 rfl (Nat.le_of_ble_eq_true rfl) rfl ?_
  refine e_iconst (v := nI 0) dX10_spare_2 rfl ?_
  refine e_istore_n dX10_spare_3 rfl (Nat.le_of_ble_eq_true rfl) rfl ?_
  exact key 0 (by omega)
theorem ct_X10_cuts {fi : FI} {fr : FR} {ai : FI} {ar : FR} {N : Nat} {w lg : Nat → Nat} {E : Nat} (cm : CM fr ar) (iv : Inv w) (hK : K fi ai w lg E) (x : Int32) : CP mX10_cuts 2 0 0 [.ref (rf 10 0), .int x] fi fr ai ar N (xQ (some (.int (cutR w x))) fi fr ai ar N) := by
  have h1 := iv_n iv
  have h3 := iv_mm iv
  have bd := Bd_iv iv
  have hF : FR1 fi ai fi ai := FR1_rf
  change EV mX10_cuts 2 0 0 0 [some (.ref (rf 10 0)), some (.int x), none, none] [] fi fr ai ar N (xQ (some (.int (cutR w x))) fi fr ai ar N)
  have t1000000 : (nI 1000000).toInt = 1000000 := by decide
  cases hx : inR x 1000001 with
  | false =>
    have e : cutR w x = -1 := by unfold cutR; rw [hx]; rfl
    have hf := inR_f hx
    rw [e]
    refine e_iload_n dX10_cuts_0 rfl rfl ?_
    first | ((with_reducible refine mk_ll ?_); refine m_if_lt (tgt := 11) dX10_cuts_1 (by decide) (by omega) (by omega) (fun h1 => ?_) (fun h1 => ?_)) | ((with_reducible refine mk_lc ?_); refine l_if_lt (tgt := 11) dX10_cuts_1 (by decide) (fun h1 => ?_) (fun h1 => ?_)) | ((with_reducible refine mk_n ?_); refine n_if_lt (tgt := 11) dX10_cuts_1 (by decide) (by omega) (fun h1 => ?_) (fun h1 => ?_)) | refine e_if_lt (tgt := 11) dX10_cuts_1 (by decide) (fun h1 => ?_) (fun h1 => ?_)
    · try first | contradiction | omega
      all_goals
        refine e_iconst (v := -1) dX10_cuts_11 rfl ?_
        refine e_ret (some _) rfl (r_int dX10_cuts_12 rfl) ?_
        exact xq rfl rfl rfl rfl rfl rfl
    · try first | contradiction | omega
      all_goals
        refine e_iload_n dX10_cuts_4 rfl rfl ?_
        refine e_ldcw dX10_cuts_5 co_X10_385 ?_
        first | ((with_reducible refine mk_nn ?_); refine n_icmp_le (tgt := 13) dX10_cuts_8 (by decide) (by omega) (by omega) (fun h8 => ?_) (fun h8 => ?_)) | refine e_icmp_le (tgt := 13) dX10_cuts_8 (by decide) (fun h8 => ?_) (fun h8 => ?_)
        · try first | contradiction | omega
          all_goals
            exfalso; simp only [Int32.lt_iff_toInt_lt, Int32.le_iff_toInt_le, z_toInt, t1000000] at *; omega
        · try first | contradiction | omega
          all_goals
            refine e_iconst (v := -1) dX10_cuts_11 rfl ?_
            refine e_ret (some _) rfl (r_int dX10_cuts_12 rfl) ?_
            exact xq rfl rfl rfl rfl rfl rfl
  | true =>
    obtain ⟨b, hb, hb2, rfl⟩ := inR_ex hx
    have e : cutR w (nI b) = nI (rs (cutF w b) 0 (w 1)) := by unfold cutR; rw [hx, if_pos rfl, nI_clamp hb2]
    rw [e]
    have key := ev_up (P := fun j => EV mX10_cuts 2 0 0 17 [some (.ref (rf 10 0)), some (.int (nI b)), some (.int (nI (rs (cutF w b) 0 j))), some (.int (nI j))] [] fi fr ai ar N (xQ (some (.int (nI (rs (cutF w b) 0 (w 1))))) fi fr ai ar N)) (w 1) (fun j hj ih => by
      have he := enF_le iv hj
      refine e_iload_n dX10_cuts_17 rfl rfl ?_
      refine e_aload_n dX10_cuts_18 rfl rfl ?_
      refine e_getR dX10_cuts_19 fl_X10_18 rfl (cx_0 cm) ?_
      refine e_getR dX10_cuts_22 fl_X10_216 rfl (cm_map cm) ?_
      refine e_getE dX10_cuts_25 fl_X10_223 rfl (by first | exact k_n hK | exact k_cn hK (by first | omega | (simp (disch := omega) only [upN_n, upN_s]; omega)) | assumption) ?_
      first | ((with_reducible refine mk_nn ?_); refine n_icmp_ge (tgt := 71) dX10_cuts_28 (by decide) (by omega) (by omega) (fun h28 => ?_) (fun h28 => ?_)) | refine e_icmp_ge (tgt := 71) dX10_cuts_28 (by decide) (fun h28 => ?_) (fun h28 => ?_)
      · try first | contradiction | omega
        all_goals
          refine e_iload_n dX10_cuts_71 rfl rfl ?_
          refine e_ret (some _) rfl (r_int dX10_cuts_72 rfl) ?_
          exact xq rfl rfl rfl rfl rfl rfl
      · try first | contradiction | omega
        all_goals
          refine e_iload_n dX10_cuts_31 rfl rfl ?_
          refine e_aload_n dX10_cuts_32 rfl rfl ?_
          refine e_getR dX10_cuts_33 fl_X10_18 rfl (cx_0 cm) ?_
          refine e_aload_n dX10_cuts_36 rfl rfl ?_
          refine e_getR dX10_cuts_37 fl_X10_18 rfl (cx_0 cm) ?_
          refine e_getR dX10_cuts_40 fl_X10_216 rfl (cm_map cm) ?_
          refine e_getR dX10_cuts_43 fl_X10_229 rfl (by first | exact cm_tlo cm | exact cm_ctlo cm (by omega) | assumption) ?_
          refine e_iload_n dX10_cuts_46 rfl rfl ?_
          refine e_iadE _ dX10_cuts_47 ⟨by decide, by decide⟩ rfl rfl (by simp only [lenK]; omega) (by first | exact k_lo hK (by first | omega | (simp (disch := omega) only [upN_n, upN_s]; omega)) | exact k_clo hK (by omega) (by first | omega | (simp (disch := omega) only [upN_n, upN_s]; omega)) | assumption) ?_
          refine e_aload_n dX10_cuts_48 rfl rfl ?_
          refine e_getR dX10_cuts_49 fl_X10_18 rfl (cx_0 cm) ?_
          refine e_getR dX10_cuts_52 fl_X10_216 rfl (cm_map cm) ?_
          refine e_iload_n dX10_cuts_55 rfl rfl ?_
          refine x_V1 (M' := mX8_endOf) dX10_cuts_56 ml_X10_232 ok_X8_endOf (by decide) rfl im_X8_endOf se_X8_endOf (ct_X8_endOf cm iv hK (by omega)) (Nat.le_of_ble_eq_true rfl) (by decide) (Nat.le_of_ble_eq_true rfl) ?_
          refine e_iload_n dX10_cuts_59 rfl rfl ?_
          refine x_V3 (M' := mX9_cutsWithin) dX10_cuts_60 ml_X10_386 ok_X9_cutsWithin (by decide) rfl im_X9_cutsWithin se_X9_cutsWithin (ct_X9_cutsWithin cm iv hK (by omega) (by omega) (by omega)) (Nat.le_of_ble_eq_true rfl) (by decide) (Nat.le_of_ble_eq_true rfl) ?_
          first | ((with_reducible refine mk_nn ?_); refine n_iadd dX10_cuts_63 ?_) | refine e_iadd dX10_cuts_63 ?_
          refine e_istore_n dX10_cuts_64 rfl (Nat.le_of_ble_eq_true rfl) rfl ?_
          first | refine n_inc dX10_cuts_65 rfl (Nat.le_of_ble_eq_true rfl) rfl ?_ | refine e_iinc dX10_cuts_65 rfl rfl (Nat.le_of_ble_eq_true rfl) rfl ?_
          refine e_goto (tgt := 17) dX10_cuts_68 (by decide) ?_
          rw [rs_s, Nat.zero_add] at ih
          exact ih
      ) (by
      refine e_iload_n dX10_cuts_17 rfl rfl ?_
      refine e_aload_n dX10_cuts_18 rfl rfl ?_
      refine e_getR dX10_cuts_19 fl_X10_18 rfl (cx_0 cm) ?_
      refine e_getR dX10_cuts_22 fl_X10_216 rfl (cm_map cm) ?_
      refine e_getE dX10_cuts_25 fl_X10_223 rfl (by first | exact k_n hK | exact k_cn hK (by first | omega | (simp (disch := omega) only [upN_n, upN_s]; omega)) | assumption) ?_
      first | ((with_reducible refine mk_nn ?_); refine n_icmp_ge (tgt := 71) dX10_cuts_28 (by decide) (by omega) (by omega) (fun h28 => ?_) (fun h28 => ?_)) | refine e_icmp_ge (tgt := 71) dX10_cuts_28 (by decide) (fun h28 => ?_) (fun h28 => ?_)
      · try first | contradiction | omega
        all_goals
          refine e_iload_n dX10_cuts_71 rfl rfl ?_
          refine e_ret (some _) rfl (r_int dX10_cuts_72 rfl) ?_
          exact xq rfl rfl rfl rfl rfl rfl
      · try first | contradiction | omega
        all_goals
          refine e_iload_n dX10_cuts_31 rfl rfl ?_
          refine e_aload_n dX10_cuts_32 rfl rfl ?_
          refine e_getR dX10_cuts_33 fl_X10_18 rfl (cx_0 cm) ?_
          refine e_aload_n dX10_cuts_36 rfl rfl ?_
          refine e_getR dX10_cuts_37 fl_X10_18 rfl (cx_0 cm) ?_
          refine e_getR dX10_cuts_40 fl_X10_216 rfl (cm_map cm) ?_
          refine e_getR dX10_cuts_43 fl_X10_229 rfl (by first | exact cm_tlo cm | exact cm_ctlo cm (by omega) | assumption) ?_
          refine e_iload_n dX10_cuts_46 rfl rfl ?_
          refine e_iadE _ dX10_cuts_47 ⟨by decide, by decide⟩ rfl rfl (by simp only [lenK]; omega) (by first | exact k_lo hK (by first | omega | (simp (disch := omega) only [upN_n, upN_s]; omega)) | exact k_clo hK (by omega) (by first | omega | (simp (disch := omega) only [upN_n, upN_s]; omega)) | assumption) ?_
          refine e_aload_n dX10_cuts_48 rfl rfl ?_
          refine e_getR dX10_cuts_49 fl_X10_18 rfl (cx_0 cm) ?_
          refine e_getR dX10_cuts_52 fl_X10_216 rfl (cm_map cm) ?_
          refine e_iload_n dX10_cuts_55 rfl rfl ?_
          refine x_V1 (M' := mX8_endOf) dX10_cuts_56 ml_X10_232 ok_X8_endOf (by decide) rfl im_X8_endOf se_X8_endOf (ct_X8_endOf cm iv hK (by omega)) (Nat.le_of_ble_eq_true rfl) (by decide) (Nat.le_of_ble_eq_true rfl) ?_
          refine e_iload_n dX10_cuts_59 rfl rfl ?_
          refine x_V3 (M' := mX9_cutsWithin) dX10_cuts_60 ml_X10_386 ok_X9_cutsWithin (by decide) rfl im_X9_cutsWithin se_X9_cutsWithin (ct_X9_cutsWithin cm iv hK (by omega) (by omega) (by omega)) (Nat.le_of_ble_eq_true rfl) (by decide) (Nat.le_of_ble_eq_true rfl) ?_
          first | ((with_reducible refine mk_nn ?_); refine n_iadd dX10_cuts_63 ?_) | refine e_iadd dX10_cuts_63 ?_
          refine e_istore_n dX10_cuts_64 rfl (Nat.le_of_ble_eq_true rfl) rfl ?_
          first | refine n_inc dX10_cuts_65 rfl (Nat.le_of_ble_eq_true rfl) rfl ?_ | refine e_iinc dX10_cuts_65 rfl rfl (Nat.le_of_ble_eq_true rfl) rfl ?_
          refine e_goto (tgt := 17) dX10_cuts_68 (by decide) ?_
          contradiction
      )
    refine e_iload_n dX10_cuts_0 rfl rfl ?_
    first | ((with_reducible refine mk_ll ?_); refine m_if_lt (tgt := 11) dX10_cuts_1 (by decide) (by omega) (by omega) (fun h1 => ?_) (fun h1 => ?_)) | ((with_reducible refine mk_lc ?_); refine l_if_lt (tgt := 11) dX10_cuts_1 (by decide) (fun h1 => ?_) (fun h1 => ?_)) | ((with_reducible refine mk_n ?_); refine n_if_lt (tgt := 11) dX10_cuts_1 (by decide) (by omega) (fun h1 => ?_) (fun h1 => ?_)) | refine e_if_lt (tgt := 11) dX10_cuts_1 (by decide) (fun h1 => ?_) (fun h1 => ?_)
    · try first | contradiction | omega
      all_goals
        omega
    · try first | contradiction | omega
      all_goals
        refine e_iload_n dX10_cuts_4 rfl rfl ?_
        refine e_ldcw dX10_cuts_5 co_X10_385 ?_
        first | ((with_reducible refine mk_nn ?_); refine n_icmp_le (tgt := 13) dX10_cuts_8 (by decide) (by omega) (by omega) (fun h8 => ?_) (fun h8 => ?_)) | refine e_icmp_le (tgt := 13) dX10_cuts_8 (by decide) (fun h8 => ?_) (fun h8 => ?_)
        · try first | contradiction | omega
          all_goals
            refine e_iconst (v := nI 0) dX10_cuts_13 rfl ?_
            refine e_istore_n dX10_cuts_14 rfl (Nat.le_of_ble_eq_true rfl) rfl ?_
            refine e_iconst (v := nI 0) dX10_cuts_15 rfl ?_
            refine e_istore_n dX10_cuts_16 rfl (Nat.le_of_ble_eq_true rfl) rfl ?_
            exact key 0 (by omega)
        · try first | contradiction | omega
          all_goals
            omega
theorem ct_X10_lasts {fi : FI} {fr : FR} {ai : FI} {ar : FR} {N : Nat} {w lg : Nat → Nat} {E : Nat} (cm : CM fr ar) (iv : Inv w) (hK : K fi ai w lg E) (i2 : Inv2 w) (x : Int32) : CP mX10_lasts 3 0 0 [.ref (rf 10 0), .int x] fi fr ai ar N (xQ (some (.int (lasR w x))) fi fr ai ar N) := by
  have h1 := iv_n iv
  have h3 := iv_mm iv
  have bd := Bd_iv iv
  have hF : FR1 fi ai fi ai := FR1_rf
  change EV mX10_lasts 3 0 0 0 [some (.ref (rf 10 0)), some (.int x)] [] fi fr ai ar N (xQ (some (.int (lasR w x))) fi fr ai ar N)
  cases hc : csT w x with
  | false =>
    have e : lasR w x = -1 := by unfold lasR; rw [hc]; rfl
    rw [e]
    refine e_aload_n dX10_lasts_0 rfl rfl ?_
    refine e_getR dX10_lasts_1 fl_X10_18 rfl (cx_0 cm) ?_
    refine e_iload_n dX10_lasts_4 rfl rfl ?_
    refine x_V1 (M' := mX9_canStep) dX10_lasts_5 ml_X10_418 ok_X9_canStep (by decide) rfl im_X9_canStep se_X9_canStep (ct_X9_canStep cm iv hK ‹_› _) (Nat.le_of_ble_eq_true rfl) (by decide) (Nat.le_of_ble_eq_true rfl) ?_
    rw [hc]
    first | ((with_reducible refine mk_b ?_); refine b_if_ne (tgt := 13) dX10_lasts_8 (by decide) (fun h8 => ?_) (fun h8 => ?_)) | ((with_reducible refine mk_ll ?_); refine m_if_ne (tgt := 13) dX10_lasts_8 (by decide) (by omega) (by omega) (fun h8 => ?_) (fun h8 => ?_)) | ((with_reducible refine mk_lc ?_); refine l_if_ne (tgt := 13) dX10_lasts_8 (by decide) (fun h8 => ?_) (fun h8 => ?_)) | ((with_reducible refine mk_n ?_); refine n_if_ne (tgt := 13) dX10_lasts_8 (by decide) (by omega) (fun h8 => ?_) (fun h8 => ?_)) | refine e_if_ne (tgt := 13) dX10_lasts_8 (by decide) (fun h8 => ?_) (fun h8 => ?_)
    · try first | contradiction | omega | (simp only [decide_eq_true_eq, decide_eq_false_iff_not] at h8; omega)
      all_goals
        contradiction
    · try first | contradiction | omega | (simp only [decide_eq_true_eq, decide_eq_false_iff_not] at h8; omega)
      all_goals
        refine e_iconst (v := -1) dX10_lasts_11 rfl ?_
        refine e_ret (some _) rfl (r_int dX10_lasts_12 rfl) ?_
        exact xq rfl rfl rfl rfl rfl rfl
  | true =>
    have hc2 := hc
    unfold csT at hc2
    simp only [Bool.and_eq_true, decide_eq_true_eq] at hc2
    obtain ⟨⟨hx, hg⟩, hb⟩ := hc2
    obtain ⟨m, hm, hm2, rfl⟩ := inR_ex hx
    rw [nI_clamp hm2] at hg hb
    have hg1 := goB_e1 hg
    obtain ⟨u1, u2⟩ := (i2.2.1 m hm).2.1 hg hb
    have hau : auB w m = true := by unfold auB; rw [decide_eq_true u1, decide_eq_true u2]; rfl
    have e : lasR w (nI m) = nI (lsN w m) := by unfold lasR; rw [hc, nI_clamp hm2, hau]; rfl
    rw [e]
    refine e_aload_n dX10_lasts_0 rfl rfl ?_
    refine e_getR dX10_lasts_1 fl_X10_18 rfl (cx_0 cm) ?_
    refine e_iload_n dX10_lasts_4 rfl rfl ?_
    refine x_V1 (M' := mX9_canStep) dX10_lasts_5 ml_X10_418 ok_X9_canStep (by decide) rfl im_X9_canStep se_X9_canStep (ct_X9_canStep cm iv hK ‹_› _) (Nat.le_of_ble_eq_true rfl) (by decide) (Nat.le_of_ble_eq_true rfl) ?_
    rw [hc]
    first | ((with_reducible refine mk_b ?_); refine b_if_ne (tgt := 13) dX10_lasts_8 (by decide) (fun h8 => ?_) (fun h8 => ?_)) | ((with_reducible refine mk_ll ?_); refine m_if_ne (tgt := 13) dX10_lasts_8 (by decide) (by omega) (by omega) (fun h8 => ?_) (fun h8 => ?_)) | ((with_reducible refine mk_lc ?_); refine l_if_ne (tgt := 13) dX10_lasts_8 (by decide) (fun h8 => ?_) (fun h8 => ?_)) | ((with_reducible refine mk_n ?_); refine n_if_ne (tgt := 13) dX10_lasts_8 (by decide) (by omega) (fun h8 => ?_) (fun h8 => ?_)) | refine e_if_ne (tgt := 13) dX10_lasts_8 (by decide) (fun h8 => ?_) (fun h8 => ?_)
    · try first | contradiction | omega | (simp only [decide_eq_true_eq, decide_eq_false_iff_not] at h8; omega)
      all_goals
        refine e_aload_n dX10_lasts_13 rfl rfl ?_
        refine e_getR dX10_lasts_14 fl_X10_51 rfl (cx_4 cm) ?_
        refine e_aload_n dX10_lasts_17 rfl rfl ?_
        refine e_getR dX10_lasts_18 fl_X10_18 rfl (cx_0 cm) ?_
        refine e_getR dX10_lasts_21 fl_X10_288 rfl (cm_mvs cm) ?_
        refine e_iload_n dX10_lasts_24 rfl rfl ?_
        refine e_aald _ dX10_lasts_25 ⟨by decide, by decide⟩ rfl rfl (by simp only [lenK]; omega) (cm_mo cm (by omega)) ?_
        refine x_V1 (M' := mX5_stepsLeft) dX10_lasts_26 ml_X10_421 ok_X5_stepsLeft (by decide) rfl im_X5_stepsLeft se_X5_stepsLeft (ct_X5_stepsLeft cm iv hK (by omega) (by omega)) (Nat.le_of_ble_eq_true rfl) (by decide) (Nat.le_of_ble_eq_true rfl) ?_
        refine e_ret (some _) rfl (r_int dX10_lasts_29 rfl) ?_
        exact xq rfl rfl rfl rfl rfl rfl
    · try first | contradiction | omega | (simp only [decide_eq_true_eq, decide_eq_false_iff_not] at h8; omega)
      all_goals
        contradiction
def Hid (p : Prop) : Prop := p
theorem ct_X10_hot {fi : FI} {fr : FR} {ai : FI} {ar : FR} {N : Nat} {w lg : Nat → Nat} {E : Nat} (cm : CM fr ar) (iv : Inv w) (hK : K fi ai w lg E) (x y : Int32) : CP mX10_hot 3 0 0 [.ref (rf 10 0), .int x, .int y] fi fr ai ar N (xQ (some (.int (hotR w x y))) fi fr ai ar N) := by
  have h1 := iv_n iv
  have h3 := iv_mm iv
  have bd := Bd_iv iv
  have hF : FR1 fi ai fi ai := FR1_rf
  change EV mX10_hot 3 0 0 0 [some (.ref (rf 10 0)), some (.int x), some (.int y), none] [] fi fr ai ar N (xQ (some (.int (hotR w x y))) fi fr ai ar N)
  have t1000 : (nI 1000).toInt = 1000 := by decide
  have t1 : (nI 1).toInt = 1 := by decide
  have hvl : ∀ k, k < 1000 → hvN w k < 1000 := fun k hk => by
    have := cnt_lt (p := fun q => decide (w (106 + k) < w (106 + q)) || (decide (w (106 + q) = w (106 + k)) && decide (q < k))) (q := fun _ => true) (k := k) 1000 hk (fun _ _ _ => rfl) (by simp) rfl
    have h2 := cnt_le (fun _ => true) 1000
    unfold hvN
    omega
  cases hy : inR y 2 with
  | false =>
    have e : hotR w x y = -1 := by unfold hotR; rw [hy]; rfl
    have hf := inR_f hy
    rw [e]
    refine e_iload_n dX10_hot_0 rfl rfl ?_
    first | ((with_reducible refine mk_ll ?_); refine m_if_lt (tgt := 20) dX10_hot_1 (by decide) (by omega) (by omega) (fun h1 => ?_) (fun h1 => ?_)) | ((with_reducible refine mk_lc ?_); refine l_if_lt (tgt := 20) dX10_hot_1 (by decide) (fun h1 => ?_) (fun h1 => ?_)) | ((with_reducible refine mk_n ?_); refine n_if_lt (tgt := 20) dX10_hot_1 (by decide) (by omega) (fun h1 => ?_) (fun h1 => ?_)) | refine e_if_lt (tgt := 20) dX10_hot_1 (by decide) (fun h1 => ?_) (fun h1 => ?_)
    · try first | contradiction | omega
      all_goals
        refine e_iconst (v := -1) dX10_hot_20 rfl ?_
        refine e_ret (some _) rfl (r_int dX10_hot_21 rfl) ?_
        exact xq rfl rfl rfl rfl rfl rfl
    · try first | contradiction | omega
      all_goals
        refine e_iload_n dX10_hot_4 rfl rfl ?_
        refine e_sipush (v := nI 1000) dX10_hot_5 rfl ?_
        first | ((with_reducible refine mk_nn ?_); refine n_icmp_ge (tgt := 20) dX10_hot_8 (by decide) (by omega) (by omega) (fun h8 => ?_) (fun h8 => ?_)) | refine e_icmp_ge (tgt := 20) dX10_hot_8 (by decide) (fun h8 => ?_) (fun h8 => ?_)
        · try first | contradiction | omega
          all_goals
            refine e_iconst (v := -1) dX10_hot_20 rfl ?_
            refine e_ret (some _) rfl (r_int dX10_hot_21 rfl) ?_
            exact xq rfl rfl rfl rfl rfl rfl
        · try first | contradiction | omega
          all_goals
            refine e_iload_n dX10_hot_11 rfl rfl ?_
            first | ((with_reducible refine mk_ll ?_); refine m_if_lt (tgt := 20) dX10_hot_12 (by decide) (by omega) (by omega) (fun h12 => ?_) (fun h12 => ?_)) | ((with_reducible refine mk_lc ?_); refine l_if_lt (tgt := 20) dX10_hot_12 (by decide) (fun h12 => ?_) (fun h12 => ?_)) | ((with_reducible refine mk_n ?_); refine n_if_lt (tgt := 20) dX10_hot_12 (by decide) (by omega) (fun h12 => ?_) (fun h12 => ?_)) | refine e_if_lt (tgt := 20) dX10_hot_12 (by decide) (fun h12 => ?_) (fun h12 => ?_)
            · try first | contradiction | omega
              all_goals
                refine e_iconst (v := -1) dX10_hot_20 rfl ?_
                refine e_ret (some _) rfl (r_int dX10_hot_21 rfl) ?_
                exact xq rfl rfl rfl rfl rfl rfl
            · try first | contradiction | omega
              all_goals
                refine e_iload_n dX10_hot_15 rfl rfl ?_
                refine e_iconst (v := nI 1) dX10_hot_16 rfl ?_
                first | ((with_reducible refine mk_nn ?_); refine n_icmp_le (tgt := 22) dX10_hot_17 (by decide) (by omega) (by omega) (fun h17 => ?_) (fun h17 => ?_)) | refine e_icmp_le (tgt := 22) dX10_hot_17 (by decide) (fun h17 => ?_) (fun h17 => ?_)
                · try first | contradiction | omega
                  all_goals
                    exfalso; simp only [Int32.lt_iff_toInt_lt, Int32.le_iff_toInt_le, z_toInt, t1000, t1] at *; omega
                · try first | contradiction | omega
                  all_goals
                    refine e_iconst (v := -1) dX10_hot_20 rfl ?_
                    refine e_ret (some _) rfl (r_int dX10_hot_21 rfl) ?_
                    exact xq rfl rfl rfl rfl rfl rfl
  | true =>
    obtain ⟨b, hb, hb2, rfl⟩ := inR_ex hy
    have e : hotR w x (nI b) = hotK w b (hotO w x) := by unfold hotR; rw [hy, if_pos rfl, nI_clamp hb2]
    rw [e]
    cases hx : inR x 1000 with
    | false =>
      have hf := inR_f hx
      have e2 : hotO w x = none := by
        unfold hotO
        refine fO_no (fun k hk => ?_)
        rw [show decide (nI (hvN w k) = x) = false from decide_eq_false (fun z => ?_), Bool.and_false]
        have h1 := hvl k hk
        rw [← z, nI_toInt (b31 (by omega))] at hf
        omega
      rw [e2]
      clear e2
      refine e_iload_n dX10_hot_0 rfl rfl ?_
      first | ((with_reducible refine mk_ll ?_); refine m_if_lt (tgt := 20) dX10_hot_1 (by decide) (by omega) (by omega) (fun h1 => ?_) (fun h1 => ?_)) | ((with_reducible refine mk_lc ?_); refine l_if_lt (tgt := 20) dX10_hot_1 (by decide) (fun h1 => ?_) (fun h1 => ?_)) | ((with_reducible refine mk_n ?_); refine n_if_lt (tgt := 20) dX10_hot_1 (by decide) (by omega) (fun h1 => ?_) (fun h1 => ?_)) | refine e_if_lt (tgt := 20) dX10_hot_1 (by decide) (fun h1 => ?_) (fun h1 => ?_)
      · try first | contradiction | omega
        all_goals
          refine e_iconst (v := -1) dX10_hot_20 rfl ?_
          refine e_ret (some _) rfl (r_int dX10_hot_21 rfl) ?_
          exact xq rfl rfl rfl rfl rfl rfl
      · try first | contradiction | omega
        all_goals
          refine e_iload_n dX10_hot_4 rfl rfl ?_
          refine e_sipush (v := nI 1000) dX10_hot_5 rfl ?_
          first | ((with_reducible refine mk_nn ?_); refine n_icmp_ge (tgt := 20) dX10_hot_8 (by decide) (by omega) (by omega) (fun h8 => ?_) (fun h8 => ?_)) | refine e_icmp_ge (tgt := 20) dX10_hot_8 (by decide) (fun h8 => ?_) (fun h8 => ?_)
          · try first | contradiction | omega
            all_goals
              refine e_iconst (v := -1) dX10_hot_20 rfl ?_
              refine e_ret (some _) rfl (r_int dX10_hot_21 rfl) ?_
              exact xq rfl rfl rfl rfl rfl rfl
          · try first | contradiction | omega
            all_goals
              refine e_iload_n dX10_hot_11 rfl rfl ?_
              first | ((with_reducible refine mk_ll ?_); refine m_if_lt (tgt := 20) dX10_hot_12 (by decide) (by omega) (by omega) (fun h12 => ?_) (fun h12 => ?_)) | ((with_reducible refine mk_lc ?_); refine l_if_lt (tgt := 20) dX10_hot_12 (by decide) (fun h12 => ?_) (fun h12 => ?_)) | ((with_reducible refine mk_n ?_); refine n_if_lt (tgt := 20) dX10_hot_12 (by decide) (by omega) (fun h12 => ?_) (fun h12 => ?_)) | refine e_if_lt (tgt := 20) dX10_hot_12 (by decide) (fun h12 => ?_) (fun h12 => ?_)
              · try first | contradiction | omega
                all_goals
                  refine e_iconst (v := -1) dX10_hot_20 rfl ?_
                  refine e_ret (some _) rfl (r_int dX10_hot_21 rfl) ?_
                  exact xq rfl rfl rfl rfl rfl rfl
              · try first | contradiction | omega
                all_goals
                  refine e_iload_n dX10_hot_15 rfl rfl ?_
                  refine e_iconst (v := nI 1) dX10_hot_16 rfl ?_
                  first | ((with_reducible refine mk_nn ?_); refine n_icmp_le (tgt := 22) dX10_hot_17 (by decide) (by omega) (by omega) (fun h17 => ?_) (fun h17 => ?_)) | refine e_icmp_le (tgt := 22) dX10_hot_17 (by decide) (fun h17 => ?_) (fun h17 => ?_)
                  · try first | contradiction | omega
                    all_goals
                      exfalso; simp only [Int32.lt_iff_toInt_lt, Int32.le_iff_toInt_le, z_toInt, t1000, t1] at *; omega
                  · try first | contradiction | omega
                    all_goals
                      refine e_iconst (v := -1) dX10_hot_20 rfl ?_
                      refine e_ret (some _) rfl (r_int dX10_hot_21 rfl) ?_
                      exact xq rfl rfl rfl rfl rfl rfl
    | true =>
      obtain ⟨i, hi, hi2, rfl⟩ := inR_ex hx
      obtain ⟨z1, z2⟩ := hot_eq iv hi
      have hwb : wbF w i 32 0 (gtW w 1000) < 2147483648 := by
        by_cases q0 : wbF w i 32 0 (gtW w 1000) = 0
        · rw [q0]; decide
        · obtain ⟨k, -, h2, -, h4⟩ := z2 q0
          have h5 := iv_wt iv (fO_in h4).1
          rw [h2] at h5
          exact Nat.lt_of_le_of_lt h5 (by decide)
      have main : ∀ v C, Hid (wbF w i 32 0 (gtW w 1000) = v) → Hid (cnt (fun k => decide (v < w (106 + k))) 1000 = C) → v < 2147483648 → (v = 0 → hotO w (nI i) = none) → (v ≠ 0 → ∃ k, hotO w (nI i) = some k ∧ w (106 + k) = v ∧ C ≤ i ∧ fO (fun q => decide (w (106 + q) = v) && decide (cnt (fun q => decide (w (106 + q) = v)) q = i - C)) 1000 = some k) → EV mX10_hot 3 0 0 0 [some (.ref (rf 10 0)), some (.int (nI i)), some (.int (nI b)), none] [] fi fr ai ar N (xQ (some (.int (hotK w b (hotO w (nI i))))) fi fr ai ar N) := by
        clear z1 z2 hwb
        intro v C hWB hC hwb z1 z2
        by_cases q0 : v = 0
        · rw [z1 q0]
          refine e_iload_n dX10_hot_0 rfl rfl ?_
          first | ((with_reducible refine mk_ll ?_); refine m_if_lt (tgt := 20) dX10_hot_1 (by decide) (by omega) (by omega) (fun h1 => ?_) (fun h1 => ?_)) | ((with_reducible refine mk_lc ?_); refine l_if_lt (tgt := 20) dX10_hot_1 (by decide) (fun h1 => ?_) (fun h1 => ?_)) | ((with_reducible refine mk_n ?_); refine n_if_lt (tgt := 20) dX10_hot_1 (by decide) (by omega) (fun h1 => ?_) (fun h1 => ?_)) | refine e_if_lt (tgt := 20) dX10_hot_1 (by decide) (fun h1 => ?_) (fun h1 => ?_)
          · try first | contradiction | omega
            all_goals
              omega
          · try first | contradiction | omega
            all_goals
              refine e_iload_n dX10_hot_4 rfl rfl ?_
              refine e_sipush (v := nI 1000) dX10_hot_5 rfl ?_
              first | ((with_reducible refine mk_nn ?_); refine n_icmp_ge (tgt := 20) dX10_hot_8 (by decide) (by omega) (by omega) (fun h8 => ?_) (fun h8 => ?_)) | refine e_icmp_ge (tgt := 20) dX10_hot_8 (by decide) (fun h8 => ?_) (fun h8 => ?_)
              · try first | contradiction | omega
                all_goals
                  omega
              · try first | contradiction | omega
                all_goals
                  refine e_iload_n dX10_hot_11 rfl rfl ?_
                  first | ((with_reducible refine mk_ll ?_); refine m_if_lt (tgt := 20) dX10_hot_12 (by decide) (by omega) (by omega) (fun h12 => ?_) (fun h12 => ?_)) | ((with_reducible refine mk_lc ?_); refine l_if_lt (tgt := 20) dX10_hot_12 (by decide) (fun h12 => ?_) (fun h12 => ?_)) | ((with_reducible refine mk_n ?_); refine n_if_lt (tgt := 20) dX10_hot_12 (by decide) (by omega) (fun h12 => ?_) (fun h12 => ?_)) | refine e_if_lt (tgt := 20) dX10_hot_12 (by decide) (fun h12 => ?_) (fun h12 => ?_)
                  · try first | contradiction | omega
                    all_goals
                      omega
                  · try first | contradiction | omega
                    all_goals
                      refine e_iload_n dX10_hot_15 rfl rfl ?_
                      refine e_iconst (v := nI 1) dX10_hot_16 rfl ?_
                      first | ((with_reducible refine mk_nn ?_); refine n_icmp_le (tgt := 22) dX10_hot_17 (by decide) (by omega) (by omega) (fun h17 => ?_) (fun h17 => ?_)) | refine e_icmp_le (tgt := 22) dX10_hot_17 (by decide) (fun h17 => ?_) (fun h17 => ?_)
                      · try first | contradiction | omega
                        all_goals
                          refine e_aload_n dX10_hot_22 rfl rfl ?_
                          refine e_getR dX10_hot_23 fl_X10_18 rfl (cx_0 cm) ?_
                          refine e_iload_n dX10_hot_26 rfl rfl ?_
                          refine x_V1 (M' := mX9_weightByRank) dX10_hot_27 ml_X10_376 ok_X9_weightByRank (by decide) rfl im_X9_weightByRank se_X9_weightByRank (ct_X9_weightByRank cm iv hK (by omega)) (Nat.le_of_ble_eq_true rfl) (by decide) (Nat.le_of_ble_eq_true rfl) ?_
                          rw [show wbF w i 32 0 (gtW w 1000) = v from hWB]
                          refine e_istore_n dX10_hot_30 rfl (Nat.le_of_ble_eq_true rfl) rfl ?_
                          refine e_iload_n dX10_hot_31 rfl rfl ?_
                          first | ((with_reducible refine mk_b ?_); refine b_if_ne (tgt := 37) dX10_hot_32 (by decide) (fun h32 => ?_) (fun h32 => ?_)) | ((with_reducible refine mk_ll ?_); refine m_if_ne (tgt := 37) dX10_hot_32 (by decide) (by omega) (by omega) (fun h32 => ?_) (fun h32 => ?_)) | ((with_reducible refine mk_lc ?_); refine l_if_ne (tgt := 37) dX10_hot_32 (by decide) (fun h32 => ?_) (fun h32 => ?_)) | ((with_reducible refine mk_n ?_); refine n_if_ne (tgt := 37) dX10_hot_32 (by decide) (by omega) (fun h32 => ?_) (fun h32 => ?_)) | refine e_if_ne (tgt := 37) dX10_hot_32 (by decide) (fun h32 => ?_) (fun h32 => ?_)
                          · try first | contradiction | omega | (simp only [decide_eq_true_eq, decide_eq_false_iff_not] at h32; omega)
                            all_goals
                              omega
                          · try first | contradiction | omega | (simp only [decide_eq_true_eq, decide_eq_false_iff_not] at h32; omega)
                            all_goals
                              refine e_iconst (v := -1) dX10_hot_35 rfl ?_
                              refine e_ret (some _) rfl (r_int dX10_hot_36 rfl) ?_
                              exact xq rfl rfl rfl rfl rfl rfl
                      · try first | contradiction | omega
                        all_goals
                          omega
        · obtain ⟨k, k1, k2, k3, k4⟩ := z2 q0
          have hk := (fO_in k4).1
          rw [k1]
          have k5 : ∀ (_ : True), fO (fun q => decide (w (106 + q) = v) && decide (cnt (fun q => decide (w (106 + q) = v)) q = i - C)) 1000 = some k := fun _ => k4
          clear k1 k4
          refine e_iload_n dX10_hot_0 rfl rfl ?_
          first | ((with_reducible refine mk_ll ?_); refine m_if_lt (tgt := 20) dX10_hot_1 (by decide) (by omega) (by omega) (fun h1 => ?_) (fun h1 => ?_)) | ((with_reducible refine mk_lc ?_); refine l_if_lt (tgt := 20) dX10_hot_1 (by decide) (fun h1 => ?_) (fun h1 => ?_)) | ((with_reducible refine mk_n ?_); refine n_if_lt (tgt := 20) dX10_hot_1 (by decide) (by omega) (fun h1 => ?_) (fun h1 => ?_)) | refine e_if_lt (tgt := 20) dX10_hot_1 (by decide) (fun h1 => ?_) (fun h1 => ?_)
          · try first | contradiction | omega
            all_goals
              omega
          · try first | contradiction | omega
            all_goals
              refine e_iload_n dX10_hot_4 rfl rfl ?_
              refine e_sipush (v := nI 1000) dX10_hot_5 rfl ?_
              first | ((with_reducible refine mk_nn ?_); refine n_icmp_ge (tgt := 20) dX10_hot_8 (by decide) (by omega) (by omega) (fun h8 => ?_) (fun h8 => ?_)) | refine e_icmp_ge (tgt := 20) dX10_hot_8 (by decide) (fun h8 => ?_) (fun h8 => ?_)
              · try first | contradiction | omega
                all_goals
                  omega
              · try first | contradiction | omega
                all_goals
                  refine e_iload_n dX10_hot_11 rfl rfl ?_
                  first | ((with_reducible refine mk_ll ?_); refine m_if_lt (tgt := 20) dX10_hot_12 (by decide) (by omega) (by omega) (fun h12 => ?_) (fun h12 => ?_)) | ((with_reducible refine mk_lc ?_); refine l_if_lt (tgt := 20) dX10_hot_12 (by decide) (fun h12 => ?_) (fun h12 => ?_)) | ((with_reducible refine mk_n ?_); refine n_if_lt (tgt := 20) dX10_hot_12 (by decide) (by omega) (fun h12 => ?_) (fun h12 => ?_)) | refine e_if_lt (tgt := 20) dX10_hot_12 (by decide) (fun h12 => ?_) (fun h12 => ?_)
                  · try first | contradiction | omega
                    all_goals
                      omega
                  · try first | contradiction | omega
                    all_goals
                      refine e_iload_n dX10_hot_15 rfl rfl ?_
                      refine e_iconst (v := nI 1) dX10_hot_16 rfl ?_
                      first | ((with_reducible refine mk_nn ?_); refine n_icmp_le (tgt := 22) dX10_hot_17 (by decide) (by omega) (by omega) (fun h17 => ?_) (fun h17 => ?_)) | refine e_icmp_le (tgt := 22) dX10_hot_17 (by decide) (fun h17 => ?_) (fun h17 => ?_)
                      · try first | contradiction | omega
                        all_goals
                          refine e_aload_n dX10_hot_22 rfl rfl ?_
                          refine e_getR dX10_hot_23 fl_X10_18 rfl (cx_0 cm) ?_
                          refine e_iload_n dX10_hot_26 rfl rfl ?_
                          refine x_V1 (M' := mX9_weightByRank) dX10_hot_27 ml_X10_376 ok_X9_weightByRank (by decide) rfl im_X9_weightByRank se_X9_weightByRank (ct_X9_weightByRank cm iv hK (by omega)) (Nat.le_of_ble_eq_true rfl) (by decide) (Nat.le_of_ble_eq_true rfl) ?_
                          rw [show wbF w i 32 0 (gtW w 1000) = v from hWB]
                          refine e_istore_n dX10_hot_30 rfl (Nat.le_of_ble_eq_true rfl) rfl ?_
                          refine e_iload_n dX10_hot_31 rfl rfl ?_
                          first | ((with_reducible refine mk_b ?_); refine b_if_ne (tgt := 37) dX10_hot_32 (by decide) (fun h32 => ?_) (fun h32 => ?_)) | ((with_reducible refine mk_ll ?_); refine m_if_ne (tgt := 37) dX10_hot_32 (by decide) (by omega) (by omega) (fun h32 => ?_) (fun h32 => ?_)) | ((with_reducible refine mk_lc ?_); refine l_if_ne (tgt := 37) dX10_hot_32 (by decide) (fun h32 => ?_) (fun h32 => ?_)) | ((with_reducible refine mk_n ?_); refine n_if_ne (tgt := 37) dX10_hot_32 (by decide) (by omega) (fun h32 => ?_) (fun h32 => ?_)) | refine e_if_ne (tgt := 37) dX10_hot_32 (by decide) (fun h32 => ?_) (fun h32 => ?_)
                          · try first | contradiction | omega | (simp only [decide_eq_true_eq, decide_eq_false_iff_not] at h32; omega)
                            all_goals
                              refine e_iload_n dX10_hot_37 rfl rfl ?_
                              refine e_iconst (v := nI 1) dX10_hot_38 rfl ?_
                              first | ((with_reducible refine mk_mo ?_); refine p_icmp_ne (tgt := 44) dX10_hot_39 (by decide) (fun h39 => ?_) (fun h39 => ?_)) | ((with_reducible refine mk_ms ?_); refine s_icmp_ne (tgt := 44) dX10_hot_39 (by decide) (by omega) (fun h39 => ?_) (fun h39 => ?_)) | ((with_reducible refine mk_mn ?_); refine q_icmp_ne (tgt := 44) dX10_hot_39 (by decide) (by omega) (fun h39 => ?_) (fun h39 => ?_)) | ((with_reducible refine mk_nn ?_); refine n_icmp_ne (tgt := 44) dX10_hot_39 (by decide) (by omega) (by omega) (fun h39 => ?_) (fun h39 => ?_)) | refine e_icmp_ne (tgt := 44) dX10_hot_39 (by decide) (fun h39 => ?_) (fun h39 => ?_)
                              · try first | contradiction | omega
                                all_goals
                                  refine e_aload_n dX10_hot_44 rfl rfl ?_
                                  refine e_getR dX10_hot_45 fl_X10_18 rfl (cx_0 cm) ?_
                                  refine e_iload_n dX10_hot_48 rfl rfl ?_
                                  refine e_iload_n dX10_hot_49 rfl rfl ?_
                                  refine e_aload_n dX10_hot_50 rfl rfl ?_
                                  refine e_getR dX10_hot_51 fl_X10_18 rfl (cx_0 cm) ?_
                                  refine e_iload_n dX10_hot_54 rfl rfl ?_
                                  refine x_V1 (M' := mX9_keysAbove) dX10_hot_55 ml_X10_379 ok_X9_keysAbove (by decide) rfl im_X9_keysAbove se_X9_keysAbove (ct_X9_keysAbove cm iv hK (by omega)) (Nat.le_of_ble_eq_true rfl) (by decide) (Nat.le_of_ble_eq_true rfl) ?_
                                  rw [show cnt (fun k => decide (v < w (106 + k))) 1000 = C from hC]
                                  first | ((with_reducible refine mk_nn ?_); refine n_isub dX10_hot_58 (by omega) ?_) | refine e_isub dX10_hot_58 ?_
                                  refine x_V2 (M' := mX9_keyOfWeight) dX10_hot_59 ml_X10_382 ok_X9_keyOfWeight (by decide) rfl im_X9_keyOfWeight se_X9_keyOfWeight (ct_X9_keyOfWeight cm iv hK (by omega) (by omega)) (Nat.le_of_ble_eq_true rfl) (by decide) (Nat.le_of_ble_eq_true rfl) ?_
                                  rw [k5 trivial]
                                  refine e_ret (some _) rfl (r_int dX10_hot_62 rfl) ?_
                                  refine xq ?_ rfl rfl rfl rfl rfl
                                  first | ((have e : b = 0 := by omega); subst e; rfl) | ((have e : b = 1 := by omega); subst e; show _ = some (Value.int (nI (w (106 + k)))); rw [k2])
                              · try first | contradiction | omega
                                all_goals
                                  refine e_iload_n dX10_hot_42 rfl rfl ?_
                                  refine e_ret (some _) rfl (r_int dX10_hot_43 rfl) ?_
                                  refine xq ?_ rfl rfl rfl rfl rfl
                                  first | ((have e : b = 0 := by omega); subst e; rfl) | ((have e : b = 1 := by omega); subst e; show _ = some (Value.int (nI (w (106 + k)))); rw [k2])
                          · try first | contradiction | omega | (simp only [decide_eq_true_eq, decide_eq_false_iff_not] at h32; omega)
                            all_goals
                              omega
                      · try first | contradiction | omega
                        all_goals
                          omega
      exact main _ _ rfl rfl hwb z1 (fun h => z2 h)
theorem ct_X10_owned {fi : FI} {fr : FR} {ai : FI} {ar : FR} {N : Nat} {w lg : Nat → Nat} {E : Nat} (cm : CM fr ar) (iv : Inv w) (hK : K fi ai w lg E) (i2 : Inv2 w) (x y : Int32) : CP mX10_owned 2 0 0 [.ref (rf 10 0), .int x, .int y] fi fr ai ar N (xQ (some (.int (owdR w x y))) fi fr ai ar N) := by
  have h1 := iv_n iv
  have h3 := iv_mm iv
  have bd := Bd_iv iv
  have hF : FR1 fi ai fi ai := FR1_rf
  change EV mX10_owned 2 0 0 0 [some (.ref (rf 10 0)), some (.int x), some (.int y)] [] fi fr ai ar N (xQ (some (.int (owdR w x y))) fi fr ai ar N)
  have t1 : (nI 1).toInt = 1 := by decide
  have he0 := iv_ep0 iv
  have tw : (nI (w 0)).toInt = w 0 := nI_toInt (b31 (by omega))
  cases hy : inR y 1000 with
  | false =>
    have e : owdR w x y = -1 := by unfold owdR; rw [if_neg (fun z => by rw [hy] at z; exact absurd z.2.2 (by decide))]
    rw [e]
    refine e_iload_n dX10_owned_0 rfl rfl ?_
    refine e_iconst (v := nI 1) dX10_owned_1 rfl ?_
    first | ((with_reducible refine mk_nn ?_); refine n_icmp_lt (tgt := 26) dX10_owned_2 (by decide) (by omega) (by omega) (fun h2 => ?_) (fun h2 => ?_)) | refine e_icmp_lt (tgt := 26) dX10_owned_2 (by decide) (fun h2 => ?_) (fun h2 => ?_)
    · try first | contradiction | omega
      all_goals
        refine e_iconst (v := -1) dX10_owned_26 rfl ?_
        refine e_ret (some _) rfl (r_int dX10_owned_27 rfl) ?_
        exact xq rfl rfl rfl rfl rfl rfl
    · try first | contradiction | omega
      all_goals
        refine e_iload_n dX10_owned_5 rfl rfl ?_
        refine e_aload_n dX10_owned_6 rfl rfl ?_
        refine e_getR dX10_owned_7 fl_X10_18 rfl (cx_0 cm) ?_
        refine e_getR dX10_owned_10 fl_X10_216 rfl (cm_map cm) ?_
        refine e_getE dX10_owned_13 fl_X10_105 rfl (by first | exact k_e hK | exact k_ce hK (by first | omega | (simp (disch := omega) only [upN_n, upN_s]; omega)) | assumption) ?_
        first | ((with_reducible refine mk_nn ?_); refine n_icmp_gt (tgt := 26) dX10_owned_16 (by decide) (by omega) (by omega) (fun h16 => ?_) (fun h16 => ?_)) | refine e_icmp_gt (tgt := 26) dX10_owned_16 (by decide) (fun h16 => ?_) (fun h16 => ?_)
        · try first | contradiction | omega
          all_goals
            refine e_iconst (v := -1) dX10_owned_26 rfl ?_
            refine e_ret (some _) rfl (r_int dX10_owned_27 rfl) ?_
            exact xq rfl rfl rfl rfl rfl rfl
        · try first | contradiction | omega
          all_goals
            refine e_iload_n dX10_owned_19 rfl rfl ?_
            refine x_S1 (M' := mX10_isKey) dX10_owned_20 ml_X10_94 ok_X10_isKey rfl sc_X10_isKey (ct_X10_isKey _) (Nat.le_of_ble_eq_true rfl) (by decide) (Nat.le_of_ble_eq_true rfl) ?_
            rw [hy]
            first | ((with_reducible refine mk_b ?_); refine b_if_ne (tgt := 28) dX10_owned_23 (by decide) (fun h23 => ?_) (fun h23 => ?_)) | ((with_reducible refine mk_ll ?_); refine m_if_ne (tgt := 28) dX10_owned_23 (by decide) (by omega) (by omega) (fun h23 => ?_) (fun h23 => ?_)) | ((with_reducible refine mk_lc ?_); refine l_if_ne (tgt := 28) dX10_owned_23 (by decide) (fun h23 => ?_) (fun h23 => ?_)) | ((with_reducible refine mk_n ?_); refine n_if_ne (tgt := 28) dX10_owned_23 (by decide) (by omega) (fun h23 => ?_) (fun h23 => ?_)) | refine e_if_ne (tgt := 28) dX10_owned_23 (by decide) (fun h23 => ?_) (fun h23 => ?_)
            · try first | contradiction | omega | (simp only [decide_eq_true_eq, decide_eq_false_iff_not] at h23; omega)
              all_goals
                contradiction
            · try first | contradiction | omega | (simp only [decide_eq_true_eq, decide_eq_false_iff_not] at h23; omega)
              all_goals
                refine e_iconst (v := -1) dX10_owned_26 rfl ?_
                refine e_ret (some _) rfl (r_int dX10_owned_27 rfl) ?_
                exact xq rfl rfl rfl rfl rfl rfl
  | true =>
    by_cases hx : 1 ≤ x.toInt ∧ x.toInt ≤ w 0
    · have hy0 := hy
      obtain ⟨k, hk, hk2, rfl⟩ := inR_ex hy
      obtain ⟨t, ht, ht2, rfl⟩ := inR_ex (x := x) (n := w 0 + 1) (by unfold inR; exact decide_eq_true (by omega))
      have e : owdR w (nI t) (nI k) = nI (owC w t k 0 (w 3)) := by unfold owdR; rw [if_pos ⟨hx.1, hx.2, hy0⟩, nI_clamp ht2, nI_clamp hk2, own_eq iv i2 (by omega)]
      rw [e]
      rw [nI_toInt (b31 ht2)] at hx
      refine e_iload_n dX10_owned_0 rfl rfl ?_
      refine e_iconst (v := nI 1) dX10_owned_1 rfl ?_
      first | ((with_reducible refine mk_nn ?_); refine n_icmp_lt (tgt := 26) dX10_owned_2 (by decide) (by omega) (by omega) (fun h2 => ?_) (fun h2 => ?_)) | refine e_icmp_lt (tgt := 26) dX10_owned_2 (by decide) (fun h2 => ?_) (fun h2 => ?_)
      · try first | contradiction | omega
        all_goals
          first | omega | contradiction
      · try first | contradiction | omega
        all_goals
          refine e_iload_n dX10_owned_5 rfl rfl ?_
          refine e_aload_n dX10_owned_6 rfl rfl ?_
          refine e_getR dX10_owned_7 fl_X10_18 rfl (cx_0 cm) ?_
          refine e_getR dX10_owned_10 fl_X10_216 rfl (cm_map cm) ?_
          refine e_getE dX10_owned_13 fl_X10_105 rfl (by first | exact k_e hK | exact k_ce hK (by first | omega | (simp (disch := omega) only [upN_n, upN_s]; omega)) | assumption) ?_
          first | ((with_reducible refine mk_nn ?_); refine n_icmp_gt (tgt := 26) dX10_owned_16 (by decide) (by omega) (by omega) (fun h16 => ?_) (fun h16 => ?_)) | refine e_icmp_gt (tgt := 26) dX10_owned_16 (by decide) (fun h16 => ?_) (fun h16 => ?_)
          · try first | contradiction | omega
            all_goals
              first | omega | contradiction
          · try first | contradiction | omega
            all_goals
              refine e_iload_n dX10_owned_19 rfl rfl ?_
              refine x_S1 (M' := mX10_isKey) dX10_owned_20 ml_X10_94 ok_X10_isKey rfl sc_X10_isKey (ct_X10_isKey _) (Nat.le_of_ble_eq_true rfl) (by decide) (Nat.le_of_ble_eq_true rfl) ?_
              rw [hy]
              first | ((with_reducible refine mk_b ?_); refine b_if_ne (tgt := 28) dX10_owned_23 (by decide) (fun h23 => ?_) (fun h23 => ?_)) | ((with_reducible refine mk_ll ?_); refine m_if_ne (tgt := 28) dX10_owned_23 (by decide) (by omega) (by omega) (fun h23 => ?_) (fun h23 => ?_)) | ((with_reducible refine mk_lc ?_); refine l_if_ne (tgt := 28) dX10_owned_23 (by decide) (fun h23 => ?_) (fun h23 => ?_)) | ((with_reducible refine mk_n ?_); refine n_if_ne (tgt := 28) dX10_owned_23 (by decide) (by omega) (fun h23 => ?_) (fun h23 => ?_)) | refine e_if_ne (tgt := 28) dX10_owned_23 (by decide) (fun h23 => ?_) (fun h23 => ?_)
              · try first | contradiction | omega | (simp only [decide_eq_true_eq, decide_eq_false_iff_not] at h23; omega)
                all_goals
                  refine e_aload_n dX10_owned_28 rfl rfl ?_
                  refine e_getR dX10_owned_29 fl_X10_18 rfl (cx_0 cm) ?_
                  refine e_iload_n dX10_owned_32 rfl rfl ?_
                  refine e_iload_n dX10_owned_33 rfl rfl ?_
                  refine x_V2 (M' := mX9_ownerAt) dX10_owned_34 ml_X10_332 ok_X9_ownerAt (by decide) rfl im_X9_ownerAt se_X9_ownerAt (ct_X9_ownerAt cm iv hK (by omega) (by omega)) (Nat.le_of_ble_eq_true rfl) (by decide) (Nat.le_of_ble_eq_true rfl) ?_
                  refine e_ret (some _) rfl (r_int dX10_owned_37 rfl) ?_
                  exact xq rfl rfl rfl rfl rfl rfl
              · try first | contradiction | omega | (simp only [decide_eq_true_eq, decide_eq_false_iff_not] at h23; omega)
                all_goals
                  first | omega | contradiction
    · have e : owdR w x y = -1 := by unfold owdR; rw [if_neg (fun z => hx ⟨z.1, z.2.1⟩)]
      rw [e]
      refine e_iload_n dX10_owned_0 rfl rfl ?_
      refine e_iconst (v := nI 1) dX10_owned_1 rfl ?_
      first | ((with_reducible refine mk_nn ?_); refine n_icmp_lt (tgt := 26) dX10_owned_2 (by decide) (by omega) (by omega) (fun h2 => ?_) (fun h2 => ?_)) | refine e_icmp_lt (tgt := 26) dX10_owned_2 (by decide) (fun h2 => ?_) (fun h2 => ?_)
      · try first | contradiction | omega
        all_goals
          refine e_iconst (v := -1) dX10_owned_26 rfl ?_
          refine e_ret (some _) rfl (r_int dX10_owned_27 rfl) ?_
          exact xq rfl rfl rfl rfl rfl rfl
      · try first | contradiction | omega
        all_goals
          refine e_iload_n dX10_owned_5 rfl rfl ?_
          refine e_aload_n dX10_owned_6 rfl rfl ?_
          refine e_getR dX10_owned_7 fl_X10_18 rfl (cx_0 cm) ?_
          refine e_getR dX10_owned_10 fl_X10_216 rfl (cm_map cm) ?_
          refine e_getE dX10_owned_13 fl_X10_105 rfl (by first | exact k_e hK | exact k_ce hK (by first | omega | (simp (disch := omega) only [upN_n, upN_s]; omega)) | assumption) ?_
          first | ((with_reducible refine mk_nn ?_); refine n_icmp_gt (tgt := 26) dX10_owned_16 (by decide) (by omega) (by omega) (fun h16 => ?_) (fun h16 => ?_)) | refine e_icmp_gt (tgt := 26) dX10_owned_16 (by decide) (fun h16 => ?_) (fun h16 => ?_)
          · try first | contradiction | omega
            all_goals
              refine e_iconst (v := -1) dX10_owned_26 rfl ?_
              refine e_ret (some _) rfl (r_int dX10_owned_27 rfl) ?_
              exact xq rfl rfl rfl rfl rfl rfl
          · try first | contradiction | omega
            all_goals
              exfalso; simp only [Int32.lt_iff_toInt_lt, Int32.le_iff_toInt_le, t1, tw] at *; omega
theorem ct_X10_passed {fi : FI} {fr : FR} {ai : FI} {ar : FR} {N : Nat} {w lg : Nat → Nat} {E : Nat} (cm : CM fr ar) (iv : Inv w) (hK : K fi ai w lg E) (i2 : Inv2 w) (x y : Int32) : CP mX10_passed 2 0 0 [.ref (rf 10 0), .int x, .int y] fi fr ai ar N (xQ (some (.int (pasR w x y))) fi fr ai ar N) := by
  have h1 := iv_n iv
  have h3 := iv_mm iv
  have bd := Bd_iv iv
  have hF : FR1 fi ai fi ai := FR1_rf
  change EV mX10_passed 2 0 0 0 [some (.ref (rf 10 0)), some (.int x), some (.int y)] [] fi fr ai ar N (xQ (some (.int (pasR w x y))) fi fr ai ar N)
  cases hx : inR x 1000 with
  | false =>
    have e : pasR w x y = -1 := by unfold pasR; rw [if_neg (fun z => by rw [hx] at z; exact absurd z.1 (by decide))]
    rw [e]
    refine e_iload_n dX10_passed_0 rfl rfl ?_
    refine x_S1 (M' := mX10_isKey) dX10_passed_1 ml_X10_94 ok_X10_isKey rfl sc_X10_isKey (ct_X10_isKey _) (Nat.le_of_ble_eq_true rfl) (by decide) (Nat.le_of_ble_eq_true rfl) ?_
    rw [hx]
    first | ((with_reducible refine mk_b ?_); refine b_if_eq (tgt := 11) dX10_passed_4 (by decide) (fun h4 => ?_) (fun h4 => ?_)) | ((with_reducible refine mk_ll ?_); refine m_if_eq (tgt := 11) dX10_passed_4 (by decide) (by omega) (by omega) (fun h4 => ?_) (fun h4 => ?_)) | ((with_reducible refine mk_lc ?_); refine l_if_eq (tgt := 11) dX10_passed_4 (by decide) (fun h4 => ?_) (fun h4 => ?_)) | ((with_reducible refine mk_n ?_); refine n_if_eq (tgt := 11) dX10_passed_4 (by decide) (by omega) (fun h4 => ?_) (fun h4 => ?_)) | refine e_if_eq (tgt := 11) dX10_passed_4 (by decide) (fun h4 => ?_) (fun h4 => ?_)
    · try first | contradiction | omega | (simp only [decide_eq_true_eq, decide_eq_false_iff_not] at h4; omega)
      all_goals
        refine e_iconst (v := -1) dX10_passed_11 rfl ?_
        refine e_ret (some _) rfl (r_int dX10_passed_12 rfl) ?_
        exact xq rfl rfl rfl rfl rfl rfl
    · try first | contradiction | omega | (simp only [decide_eq_true_eq, decide_eq_false_iff_not] at h4; omega)
      all_goals
        contradiction
  | true =>
    have hx0 := hx
    obtain ⟨k, hk, hk2, rfl⟩ := inR_ex hx
    by_cases hy : 0 ≤ y.toInt
    · obtain ⟨t, ht, ht2, rfl⟩ := inR_ex (x := y) (n := 2147483648) (by unfold inR; have := Int32.toInt_lt y; exact decide_eq_true (by omega))
      have e : pasR w (nI k) (nI t) = oI (paC w k t) := by unfold pasR; rw [if_pos ⟨hx0, hy⟩, nI_clamp hk2, nI_clamp ht2, pas_eq iv i2]
      rw [e]
      refine e_iload_n dX10_passed_0 rfl rfl ?_
      refine x_S1 (M' := mX10_isKey) dX10_passed_1 ml_X10_94 ok_X10_isKey rfl sc_X10_isKey (ct_X10_isKey _) (Nat.le_of_ble_eq_true rfl) (by decide) (Nat.le_of_ble_eq_true rfl) ?_
      rw [hx]
      first | ((with_reducible refine mk_b ?_); refine b_if_eq (tgt := 11) dX10_passed_4 (by decide) (fun h4 => ?_) (fun h4 => ?_)) | ((with_reducible refine mk_ll ?_); refine m_if_eq (tgt := 11) dX10_passed_4 (by decide) (by omega) (by omega) (fun h4 => ?_) (fun h4 => ?_)) | ((with_reducible refine mk_lc ?_); refine l_if_eq (tgt := 11) dX10_passed_4 (by decide) (fun h4 => ?_) (fun h4 => ?_)) | ((with_reducible refine mk_n ?_); refine n_if_eq (tgt := 11) dX10_passed_4 (by decide) (by omega) (fun h4 => ?_) (fun h4 => ?_)) | refine e_if_eq (tgt := 11) dX10_passed_4 (by decide) (fun h4 => ?_) (fun h4 => ?_)
      · try first | contradiction | omega | (simp only [decide_eq_true_eq, decide_eq_false_iff_not] at h4; omega)
        all_goals
          first | omega | contradiction
      · try first | contradiction | omega | (simp only [decide_eq_true_eq, decide_eq_false_iff_not] at h4; omega)
        all_goals
          refine e_iload_n dX10_passed_7 rfl rfl ?_
          first | ((with_reducible refine mk_ll ?_); refine m_if_ge (tgt := 13) dX10_passed_8 (by decide) (by omega) (by omega) (fun h8 => ?_) (fun h8 => ?_)) | ((with_reducible refine mk_lc ?_); refine l_if_ge (tgt := 13) dX10_passed_8 (by decide) (fun h8 => ?_) (fun h8 => ?_)) | ((with_reducible refine mk_n ?_); refine n_if_ge (tgt := 13) dX10_passed_8 (by decide) (by omega) (fun h8 => ?_) (fun h8 => ?_)) | refine e_if_ge (tgt := 13) dX10_passed_8 (by decide) (fun h8 => ?_) (fun h8 => ?_)
          · try first | contradiction | omega
            all_goals
              refine e_aload_n dX10_passed_13 rfl rfl ?_
              refine e_getR dX10_passed_14 fl_X10_18 rfl (cx_0 cm) ?_
              refine e_iload_n dX10_passed_17 rfl rfl ?_
              refine e_iload_n dX10_passed_18 rfl rfl ?_
              refine x_V2 (M' := mX9_passedOn) dX10_passed_19 ml_X10_335 ok_X9_passedOn (by decide) rfl im_X9_passedOn se_X9_passedOn (ct_X9_passedOn cm iv hK (by omega) (by omega)) (Nat.le_of_ble_eq_true rfl) (by decide) (Nat.le_of_ble_eq_true rfl) ?_
              refine e_ret (some _) rfl (r_int dX10_passed_22 rfl) ?_
              exact xq rfl rfl rfl rfl rfl rfl
          · try first | contradiction | omega
            all_goals
              first | omega | contradiction
    · have e : pasR w (nI k) y = -1 := by unfold pasR; rw [if_neg (fun z => hy z.2)]
      rw [e]
      refine e_iload_n dX10_passed_0 rfl rfl ?_
      refine x_S1 (M' := mX10_isKey) dX10_passed_1 ml_X10_94 ok_X10_isKey rfl sc_X10_isKey (ct_X10_isKey _) (Nat.le_of_ble_eq_true rfl) (by decide) (Nat.le_of_ble_eq_true rfl) ?_
      rw [hx]
      first | ((with_reducible refine mk_b ?_); refine b_if_eq (tgt := 11) dX10_passed_4 (by decide) (fun h4 => ?_) (fun h4 => ?_)) | ((with_reducible refine mk_ll ?_); refine m_if_eq (tgt := 11) dX10_passed_4 (by decide) (by omega) (by omega) (fun h4 => ?_) (fun h4 => ?_)) | ((with_reducible refine mk_lc ?_); refine l_if_eq (tgt := 11) dX10_passed_4 (by decide) (fun h4 => ?_) (fun h4 => ?_)) | ((with_reducible refine mk_n ?_); refine n_if_eq (tgt := 11) dX10_passed_4 (by decide) (by omega) (fun h4 => ?_) (fun h4 => ?_)) | refine e_if_eq (tgt := 11) dX10_passed_4 (by decide) (fun h4 => ?_) (fun h4 => ?_)
      · try first | contradiction | omega | (simp only [decide_eq_true_eq, decide_eq_false_iff_not] at h4; omega)
        all_goals
          refine e_iconst (v := -1) dX10_passed_11 rfl ?_
          refine e_ret (some _) rfl (r_int dX10_passed_12 rfl) ?_
          exact xq rfl rfl rfl rfl rfl rfl
      · try first | contradiction | omega | (simp only [decide_eq_true_eq, decide_eq_false_iff_not] at h4; omega)
        all_goals
          refine e_iload_n dX10_passed_7 rfl rfl ?_
          first | ((with_reducible refine mk_ll ?_); refine m_if_ge (tgt := 13) dX10_passed_8 (by decide) (by omega) (by omega) (fun h8 => ?_) (fun h8 => ?_)) | ((with_reducible refine mk_lc ?_); refine l_if_ge (tgt := 13) dX10_passed_8 (by decide) (fun h8 => ?_) (fun h8 => ?_)) | ((with_reducible refine mk_n ?_); refine n_if_ge (tgt := 13) dX10_passed_8 (by decide) (by omega) (fun h8 => ?_) (fun h8 => ?_)) | refine e_if_ge (tgt := 13) dX10_passed_8 (by decide) (fun h8 => ?_) (fun h8 => ?_)
          · try first | contradiction | omega
            all_goals
              exfalso; simp only [Int32.lt_iff_toInt_lt, Int32.le_iff_toInt_le, z_toInt] at *; omega
          · try first | contradiction | omega
            all_goals
              refine e_iconst (v := -1) dX10_passed_11 rfl ?_
              refine e_ret (some _) rfl (r_int dX10_passed_12 rfl) ?_
              exact xq rfl rfl rfl rfl rfl rfl
theorem ct_X10_look {fi : FI} {fr : FR} {ai : FI} {ar : FR} {N : Nat} {w lg : Nat → Nat} {E : Nat} (cm : CM fr ar) (iv : Inv w) (hK : K fi ai w lg E) {u t : Nat} (hu : fi (32 * 0 + 2) (rf 0 74) = nI u) (ht : fi (32 * 7 + 3) (rf 7 76) = nI t) (y : Int32) : CP mX10_look 4 0 0 [.ref (rf 10 0), .int y] fi fr ai ar N (xQ (some (.int (lokR w u t y))) fi fr ai ar N) := by
  have h1 := iv_n iv
  have h3 := iv_mm iv
  have bd := Bd_iv iv
  have hF : FR1 fi ai fi ai := FR1_rf
  change EV mX10_look 4 0 0 0 [some (.ref (rf 10 0)), some (.int y)] [] fi fr ai ar N (xQ (some (.int (lokR w u t y))) fi fr ai ar N)
  refine e_iload_n dX10_look_0 rfl rfl ?_
  refine e_swc (tgt := 60) 0 dX10_look_1 (by decide) (by decide) rfl (by decide) (fun h1_0 => ?_) (fun h1_0 => ?_)
  · try first | contradiction | omega
    all_goals
      refine e_aload_n dX10_look_60 rfl rfl ?_
      refine e_getR dX10_look_61 fl_X10_18 rfl (cx_0 cm) ?_
      refine e_getR dX10_look_64 fl_X10_216 rfl (cm_map cm) ?_
      refine e_getE dX10_look_67 fl_X10_105 rfl (by first | exact k_e hK | exact k_ce hK (by first | omega | (simp (disch := omega) only [upN_n, upN_s]; omega)) | assumption) ?_
      refine e_ret (some _) rfl (r_int dX10_look_70 rfl) ?_
      refine xq ?_ rfl rfl rfl rfl rfl
      unfold lokR
      first | (rw [h1_0]; rfl) | (rw [h1_1]; rfl) | (rw [h1_2]; rfl) | (rw [h1_3]; rfl) | (rw [h1_4]; rfl) | (rw [h1_5]; rfl) | (rw [h1_6]; rfl) | (rw [h1_7]; rfl) | (rw [h1_8]; rfl) | (rw [h1_9]; rfl) | (rw [h1_10]; rfl) | (rw [if_neg h1_0, if_neg h1_1, if_neg h1_2, if_neg h1_3, if_neg h1_4, if_neg h1_5, if_neg h1_6, if_neg h1_7, if_neg h1_8, if_neg h1_9, if_neg h1_10])
  refine e_swc (tgt := 71) 1 dX10_look_1 (by decide) (by decide) rfl (by decide) (fun h1_1 => ?_) (fun h1_1 => ?_)
  · try first | contradiction | omega
    all_goals
      refine e_aload_n dX10_look_71 rfl rfl ?_
      refine e_getR dX10_look_72 fl_X10_18 rfl (cx_0 cm) ?_
      refine e_getR dX10_look_75 fl_X10_216 rfl (cm_map cm) ?_
      refine e_getE dX10_look_78 fl_X10_223 rfl (by first | exact k_n hK | exact k_cn hK (by first | omega | (simp (disch := omega) only [upN_n, upN_s]; omega)) | assumption) ?_
      refine e_ret (some _) rfl (r_int dX10_look_81 rfl) ?_
      refine xq ?_ rfl rfl rfl rfl rfl
      unfold lokR
      first | (rw [h1_0]; rfl) | (rw [h1_1]; rfl) | (rw [h1_2]; rfl) | (rw [h1_3]; rfl) | (rw [h1_4]; rfl) | (rw [h1_5]; rfl) | (rw [h1_6]; rfl) | (rw [h1_7]; rfl) | (rw [h1_8]; rfl) | (rw [h1_9]; rfl) | (rw [h1_10]; rfl) | (rw [if_neg h1_0, if_neg h1_1, if_neg h1_2, if_neg h1_3, if_neg h1_4, if_neg h1_5, if_neg h1_6, if_neg h1_7, if_neg h1_8, if_neg h1_9, if_neg h1_10])
  refine e_swc (tgt := 82) 2 dX10_look_1 (by decide) (by decide) rfl (by decide) (fun h1_2 => ?_) (fun h1_2 => ?_)
  · try first | contradiction | omega
    all_goals
      refine e_aload_n dX10_look_82 rfl rfl ?_
      refine e_getR dX10_look_83 fl_X10_18 rfl (cx_0 cm) ?_
      refine e_getE dX10_look_86 fl_X10_350 rfl (k_up hK) ?_
      refine e_ret (some _) rfl (r_int dX10_look_89 rfl) ?_
      refine xq ?_ rfl rfl rfl rfl rfl
      unfold lokR
      first | (rw [h1_0]; rfl) | (rw [h1_1]; rfl) | (rw [h1_2]; rfl) | (rw [h1_3]; rfl) | (rw [h1_4]; rfl) | (rw [h1_5]; rfl) | (rw [h1_6]; rfl) | (rw [h1_7]; rfl) | (rw [h1_8]; rfl) | (rw [h1_9]; rfl) | (rw [h1_10]; rfl) | (rw [if_neg h1_0, if_neg h1_1, if_neg h1_2, if_neg h1_3, if_neg h1_4, if_neg h1_5, if_neg h1_6, if_neg h1_7, if_neg h1_8, if_neg h1_9, if_neg h1_10])
  refine e_swc (tgt := 90) 3 dX10_look_1 (by decide) (by decide) rfl (by decide) (fun h1_3 => ?_) (fun h1_3 => ?_)
  · try first | contradiction | omega
    all_goals
      refine e_aload_n dX10_look_90 rfl rfl ?_
      refine e_getR dX10_look_91 fl_X10_18 rfl (cx_0 cm) ?_
      refine e_getE dX10_look_94 fl_X10_353 rfl (k_mm hK) ?_
      refine e_ret (some _) rfl (r_int dX10_look_97 rfl) ?_
      refine xq ?_ rfl rfl rfl rfl rfl
      unfold lokR
      first | (rw [h1_0]; rfl) | (rw [h1_1]; rfl) | (rw [h1_2]; rfl) | (rw [h1_3]; rfl) | (rw [h1_4]; rfl) | (rw [h1_5]; rfl) | (rw [h1_6]; rfl) | (rw [h1_7]; rfl) | (rw [h1_8]; rfl) | (rw [h1_9]; rfl) | (rw [h1_10]; rfl) | (rw [if_neg h1_0, if_neg h1_1, if_neg h1_2, if_neg h1_3, if_neg h1_4, if_neg h1_5, if_neg h1_6, if_neg h1_7, if_neg h1_8, if_neg h1_9, if_neg h1_10])
  refine e_swc (tgt := 98) 4 dX10_look_1 (by decide) (by decide) rfl (by decide) (fun h1_4 => ?_) (fun h1_4 => ?_)
  · try first | contradiction | omega
    all_goals
      refine e_aload_n dX10_look_98 rfl rfl ?_
      refine e_getR dX10_look_99 fl_X10_18 rfl (cx_0 cm) ?_
      refine x_V0 (M' := mX9_movesGoingOn) dX10_look_102 ml_X10_356 ok_X9_movesGoingOn (by decide) rfl im_X9_movesGoingOn se_X9_movesGoingOn (ct_X9_movesGoingOn cm iv hK) (Nat.le_of_ble_eq_true rfl) (by decide) (Nat.le_of_ble_eq_true rfl) ?_
      refine e_ret (some _) rfl (r_int dX10_look_105 rfl) ?_
      refine xq ?_ rfl rfl rfl rfl rfl
      unfold lokR
      first | (rw [h1_0]; rfl) | (rw [h1_1]; rfl) | (rw [h1_2]; rfl) | (rw [h1_3]; rfl) | (rw [h1_4]; rfl) | (rw [h1_5]; rfl) | (rw [h1_6]; rfl) | (rw [h1_7]; rfl) | (rw [h1_8]; rfl) | (rw [h1_9]; rfl) | (rw [h1_10]; rfl) | (rw [if_neg h1_0, if_neg h1_1, if_neg h1_2, if_neg h1_3, if_neg h1_4, if_neg h1_5, if_neg h1_6, if_neg h1_7, if_neg h1_8, if_neg h1_9, if_neg h1_10])
  refine e_swc (tgt := 106) 5 dX10_look_1 (by decide) (by decide) rfl (by decide) (fun h1_5 => ?_) (fun h1_5 => ?_)
  · try first | contradiction | omega
    all_goals
      refine e_aload_n dX10_look_106 rfl rfl ?_
      refine e_getR dX10_look_107 fl_X10_18 rfl (cx_0 cm) ?_
      refine x_V0 (M' := mX9_movesBroken) dX10_look_110 ml_X10_360 ok_X9_movesBroken (by decide) rfl im_X9_movesBroken se_X9_movesBroken (ct_X9_movesBroken cm iv hK) (Nat.le_of_ble_eq_true rfl) (by decide) (Nat.le_of_ble_eq_true rfl) ?_
      refine e_ret (some _) rfl (r_int dX10_look_113 rfl) ?_
      refine xq ?_ rfl rfl rfl rfl rfl
      unfold lokR
      first | (rw [h1_0]; rfl) | (rw [h1_1]; rfl) | (rw [h1_2]; rfl) | (rw [h1_3]; rfl) | (rw [h1_4]; rfl) | (rw [h1_5]; rfl) | (rw [h1_6]; rfl) | (rw [h1_7]; rfl) | (rw [h1_8]; rfl) | (rw [h1_9]; rfl) | (rw [h1_10]; rfl) | (rw [if_neg h1_0, if_neg h1_1, if_neg h1_2, if_neg h1_3, if_neg h1_4, if_neg h1_5, if_neg h1_6, if_neg h1_7, if_neg h1_8, if_neg h1_9, if_neg h1_10])
  refine e_swc (tgt := 114) 6 dX10_look_1 (by decide) (by decide) rfl (by decide) (fun h1_6 => ?_) (fun h1_6 => ?_)
  · try first | contradiction | omega
    all_goals
      refine e_aload_n dX10_look_114 rfl rfl ?_
      refine e_getR dX10_look_115 fl_X10_18 rfl (cx_0 cm) ?_
      refine e_getE dX10_look_118 fl_X10_363 rfl (k_ch hK) ?_
      refine e_ret (some _) rfl (r_int dX10_look_121 rfl) ?_
      refine xq ?_ rfl rfl rfl rfl rfl
      unfold lokR
      first | (rw [h1_0]; rfl) | (rw [h1_1]; rfl) | (rw [h1_2]; rfl) | (rw [h1_3]; rfl) | (rw [h1_4]; rfl) | (rw [h1_5]; rfl) | (rw [h1_6]; rfl) | (rw [h1_7]; rfl) | (rw [h1_8]; rfl) | (rw [h1_9]; rfl) | (rw [h1_10]; rfl) | (rw [if_neg h1_0, if_neg h1_1, if_neg h1_2, if_neg h1_3, if_neg h1_4, if_neg h1_5, if_neg h1_6, if_neg h1_7, if_neg h1_8, if_neg h1_9, if_neg h1_10])
  refine e_swc (tgt := 122) 7 dX10_look_1 (by decide) (by decide) rfl (by decide) (fun h1_7 => ?_) (fun h1_7 => ?_)
  · try first | contradiction | omega
    all_goals
      refine e_aload_n dX10_look_122 rfl rfl ?_
      refine e_getR dX10_look_123 fl_X10_58 rfl (cx_6 cm) ?_
      refine e_getE dX10_look_126 fl_X10_207 rfl hu ?_
      refine e_ret (some _) rfl (r_int dX10_look_129 rfl) ?_
      refine xq ?_ rfl rfl rfl rfl rfl
      unfold lokR
      first | (rw [h1_0]; rfl) | (rw [h1_1]; rfl) | (rw [h1_2]; rfl) | (rw [h1_3]; rfl) | (rw [h1_4]; rfl) | (rw [h1_5]; rfl) | (rw [h1_6]; rfl) | (rw [h1_7]; rfl) | (rw [h1_8]; rfl) | (rw [h1_9]; rfl) | (rw [h1_10]; rfl) | (rw [if_neg h1_0, if_neg h1_1, if_neg h1_2, if_neg h1_3, if_neg h1_4, if_neg h1_5, if_neg h1_6, if_neg h1_7, if_neg h1_8, if_neg h1_9, if_neg h1_10])
  refine e_swc (tgt := 130) 8 dX10_look_1 (by decide) (by decide) rfl (by decide) (fun h1_8 => ?_) (fun h1_8 => ?_)
  · try first | contradiction | omega
    all_goals
      refine e_aload_n dX10_look_130 rfl rfl ?_
      refine e_getR dX10_look_131 fl_X10_65 rfl (cx_7 cm) ?_
      refine e_getE dX10_look_134 fl_X10_174 rfl ht ?_
      refine e_ret (some _) rfl (r_int dX10_look_137 rfl) ?_
      refine xq ?_ rfl rfl rfl rfl rfl
      unfold lokR
      first | (rw [h1_0]; rfl) | (rw [h1_1]; rfl) | (rw [h1_2]; rfl) | (rw [h1_3]; rfl) | (rw [h1_4]; rfl) | (rw [h1_5]; rfl) | (rw [h1_6]; rfl) | (rw [h1_7]; rfl) | (rw [h1_8]; rfl) | (rw [h1_9]; rfl) | (rw [h1_10]; rfl) | (rw [if_neg h1_0, if_neg h1_1, if_neg h1_2, if_neg h1_3, if_neg h1_4, if_neg h1_5, if_neg h1_6, if_neg h1_7, if_neg h1_8, if_neg h1_9, if_neg h1_10])
  refine e_swc (tgt := 138) 9 dX10_look_1 (by decide) (by decide) rfl (by decide) (fun h1_9 => ?_) (fun h1_9 => ?_)
  · try first | contradiction | omega
    all_goals
      refine e_aload_n dX10_look_138 rfl rfl ?_
      refine e_getR dX10_look_139 fl_X10_18 rfl (cx_0 cm) ?_
      refine x_V0 (M' := mX9_valuesAtOwners) dX10_look_142 ml_X10_366 ok_X9_valuesAtOwners (by decide) rfl im_X9_valuesAtOwners se_X9_valuesAtOwners (ct_X9_valuesAtOwners cm iv hK) (Nat.le_of_ble_eq_true rfl) (by decide) (Nat.le_of_ble_eq_true rfl) ?_
      refine e_ret (some _) rfl (r_int dX10_look_145 rfl) ?_
      refine xq ?_ rfl rfl rfl rfl rfl
      unfold lokR
      first | (rw [h1_0]; rfl) | (rw [h1_1]; rfl) | (rw [h1_2]; rfl) | (rw [h1_3]; rfl) | (rw [h1_4]; rfl) | (rw [h1_5]; rfl) | (rw [h1_6]; rfl) | (rw [h1_7]; rfl) | (rw [h1_8]; rfl) | (rw [h1_9]; rfl) | (rw [h1_10]; rfl) | (rw [if_neg h1_0, if_neg h1_1, if_neg h1_2, if_neg h1_3, if_neg h1_4, if_neg h1_5, if_neg h1_6, if_neg h1_7, if_neg h1_8, if_neg h1_9, if_neg h1_10])
  refine e_swc (tgt := 146) 10 dX10_look_1 (by decide) (by decide) rfl (by decide) (fun h1_10 => ?_) (fun h1_10 => ?_)
  · try first | contradiction | omega
    all_goals
      refine e_aload_n dX10_look_146 rfl rfl ?_
      refine e_getR dX10_look_147 fl_X10_18 rfl (cx_0 cm) ?_
      refine x_V0 (M' := mX9_spansFrozen) dX10_look_150 ml_X10_369 ok_X9_spansFrozen (by decide) rfl im_X9_spansFrozen se_X9_spansFrozen (ct_X9_spansFrozen cm iv hK) (Nat.le_of_ble_eq_true rfl) (by decide) (Nat.le_of_ble_eq_true rfl) ?_
      refine e_ret (some _) rfl (r_int dX10_look_153 rfl) ?_
      refine xq ?_ rfl rfl rfl rfl rfl
      unfold lokR
      first | (rw [h1_0]; rfl) | (rw [h1_1]; rfl) | (rw [h1_2]; rfl) | (rw [h1_3]; rfl) | (rw [h1_4]; rfl) | (rw [h1_5]; rfl) | (rw [h1_6]; rfl) | (rw [h1_7]; rfl) | (rw [h1_8]; rfl) | (rw [h1_9]; rfl) | (rw [h1_10]; rfl) | (rw [if_neg h1_0, if_neg h1_1, if_neg h1_2, if_neg h1_3, if_neg h1_4, if_neg h1_5, if_neg h1_6, if_neg h1_7, if_neg h1_8, if_neg h1_9, if_neg h1_10])
  refine e_tableOut (tgt := 154) dX10_look_1 (by omega) (by decide) ?_
  refine e_iconst (v := -1) dX10_look_154 rfl ?_
  refine e_ret (some _) rfl (r_int dX10_look_155 rfl) ?_
  refine xq ?_ rfl rfl rfl rfl rfl
  unfold lokR
  first | (rw [h1_0]; rfl) | (rw [h1_1]; rfl) | (rw [h1_2]; rfl) | (rw [h1_3]; rfl) | (rw [h1_4]; rfl) | (rw [h1_5]; rfl) | (rw [h1_6]; rfl) | (rw [h1_7]; rfl) | (rw [h1_8]; rfl) | (rw [h1_9]; rfl) | (rw [h1_10]; rfl) | (rw [if_neg h1_0, if_neg h1_1, if_neg h1_2, if_neg h1_3, if_neg h1_4, if_neg h1_5, if_neg h1_6, if_neg h1_7, if_neg h1_8, if_neg h1_9, if_neg h1_10])
theorem ct_X10_fault {fi : FI} {fr : FR} {ai : FI} {ar : FR} {N : Nat} {w lg : Nat → Nat} {E : Nat} (cm : CM fr ar) (iv : Inv w) (hK : K fi ai w lg E) (y : Int32) : CP mX10_fault 0 0 0 [.ref (rf 10 0), .int y] fi fr ai ar N (xQ (some (.int (fltR (fi (32 * 7 + 5) (rf 7 76)) (fi (32 * 7 + 6) (rf 7 76)) (fi (32 * 10 + 10) (rf 10 0)) y))) fi fr ai ar N) := by
  have h1 := iv_n iv
  have h3 := iv_mm iv
  have bd := Bd_iv iv
  have hF : FR1 fi ai fi ai := FR1_rf
  change EV mX10_fault 0 0 0 0 [some (.ref (rf 10 0)), some (.int y)] [] fi fr ai ar N (xQ (some (.int (fltR (fi (32 * 7 + 5) (rf 7 76)) (fi (32 * 7 + 6) (rf 7 76)) (fi (32 * 10 + 10) (rf 10 0)) y))) fi fr ai ar N)
  have ty : ∀ v : Int32, y.toInt = v.toInt ↔ y = v := fun v => ⟨fun h => Int32.toInt_inj.mp h, fun h => by rw [h]⟩
  have y0 := ty 0
  have y1 := ty 1
  have y2 := ty 2
  rw [show (0 : Int32).toInt = 0 from rfl] at y0
  rw [show (1 : Int32).toInt = 1 from rfl] at y1
  rw [show (2 : Int32).toInt = 2 from rfl] at y2
  refine e_iload_n dX10_fault_0 rfl rfl ?_
  refine e_swc (tgt := 28) 0 dX10_fault_1 (by decide) (by decide) rfl (by decide) (fun h1_0 => ?_) (fun h1_0 => ?_)
  · try first | contradiction | omega
    all_goals
      refine e_aload_n dX10_fault_28 rfl rfl ?_
      refine e_getR dX10_fault_29 fl_X10_65 rfl (cx_7 cm) ?_
      refine e_getE dX10_fault_32 fl_X10_184 rfl rfl ?_
      refine e_ret (some _) rfl (r_int dX10_fault_35 rfl) ?_
      refine xq ?_ rfl rfl rfl rfl rfl
      unfold fltR
      first | (rw [if_pos (y0.mp h1_0)]; done) | (rw [if_neg (fun z => h1_0 (y0.mpr z)), if_pos (y1.mp h1_1)]; done) | (rw [if_neg (fun z => h1_0 (y0.mpr z)), if_neg (fun z => h1_1 (y1.mpr z)), if_pos (y2.mp h1_2)]; done) | (rw [if_neg (fun z => h1_0 (y0.mpr z)), if_neg (fun z => h1_1 (y1.mpr z)), if_neg (fun z => h1_2 (y2.mpr z))]; done)
  refine e_swc (tgt := 36) 1 dX10_fault_1 (by decide) (by decide) rfl (by decide) (fun h1_1 => ?_) (fun h1_1 => ?_)
  · try first | contradiction | omega
    all_goals
      refine e_aload_n dX10_fault_36 rfl rfl ?_
      refine e_getR dX10_fault_37 fl_X10_65 rfl (cx_7 cm) ?_
      refine e_getE dX10_fault_40 fl_X10_200 rfl rfl ?_
      refine e_ret (some _) rfl (r_int dX10_fault_43 rfl) ?_
      refine xq ?_ rfl rfl rfl rfl rfl
      unfold fltR
      first | (rw [if_pos (y0.mp h1_0)]; done) | (rw [if_neg (fun z => h1_0 (y0.mpr z)), if_pos (y1.mp h1_1)]; done) | (rw [if_neg (fun z => h1_0 (y0.mpr z)), if_neg (fun z => h1_1 (y1.mpr z)), if_pos (y2.mp h1_2)]; done) | (rw [if_neg (fun z => h1_0 (y0.mpr z)), if_neg (fun z => h1_1 (y1.mpr z)), if_neg (fun z => h1_2 (y2.mpr z))]; done)
  refine e_swc (tgt := 44) 2 dX10_fault_1 (by decide) (by decide) rfl (by decide) (fun h1_2 => ?_) (fun h1_2 => ?_)
  · try first | contradiction | omega
    all_goals
      refine e_aload_n dX10_fault_44 rfl rfl ?_
      refine e_getE dX10_fault_45 fl_X10_75 rfl rfl ?_
      refine e_ret (some _) rfl (r_int dX10_fault_48 rfl) ?_
      refine xq ?_ rfl rfl rfl rfl rfl
      unfold fltR
      first | (rw [if_pos (y0.mp h1_0)]; done) | (rw [if_neg (fun z => h1_0 (y0.mpr z)), if_pos (y1.mp h1_1)]; done) | (rw [if_neg (fun z => h1_0 (y0.mpr z)), if_neg (fun z => h1_1 (y1.mpr z)), if_pos (y2.mp h1_2)]; done) | (rw [if_neg (fun z => h1_0 (y0.mpr z)), if_neg (fun z => h1_1 (y1.mpr z)), if_neg (fun z => h1_2 (y2.mpr z))]; done)
  refine e_tableOut (tgt := 49) dX10_fault_1 (by omega) (by decide) ?_
  refine e_iconst (v := -1) dX10_fault_49 rfl ?_
  refine e_ret (some _) rfl (r_int dX10_fault_50 rfl) ?_
  refine xq ?_ rfl rfl rfl rfl rfl
  unfold fltR
  first | (rw [if_pos (y0.mp h1_0)]; done) | (rw [if_neg (fun z => h1_0 (y0.mpr z)), if_pos (y1.mp h1_1)]; done) | (rw [if_neg (fun z => h1_0 (y0.mpr z)), if_neg (fun z => h1_1 (y1.mpr z)), if_pos (y2.mp h1_2)]; done) | (rw [if_neg (fun z => h1_0 (y0.mpr z)), if_neg (fun z => h1_1 (y1.mpr z)), if_neg (fun z => h1_2 (y2.mpr z))]; done)
/-- what the ledger tells of a change -/
def chcR (w lg : Nat → Nat) (x y : Int32) : Int32 := if 1 ≤ x.toInt ∧ x.toInt ≤ w 0 then (if y.toInt = 0 then nI (lg x.toNatClampNeg % 4) else if y.toInt = 1 then (if lg x.toNatClampNeg % 4 = 0 then -1 else nI (lg x.toNatClampNeg / 4 / 6)) else if y.toInt = 2 then (if lg x.toNatClampNeg % 4 = 0 then -1 else nI (lg x.toNatClampNeg / 4 % 6)) else -1) else -1
theorem ct_X10_changeOf {fi : FI} {fr : FR} {ai : FI} {ar : FR} {N : Nat} {w lg : Nat → Nat} {E : Nat} (cm : CM fr ar) (iv : Inv w) (hK : K fi ai w lg E) (hE : E = w 0) (hlg : ∀ e, e ≤ w 0 → lg e < 24000) (x y : Int32) : CP mX10_changeOf 1 0 0 [.ref (rf 10 0), .int x, .int y] fi fr ai ar N (xQ (some (.int (chcR w lg x y))) fi fr ai ar N) := by
  have h1 := iv_n iv
  have h3 := iv_mm iv
  have bd := Bd_iv iv
  have hF : FR1 fi ai fi ai := FR1_rf
  change EV mX10_changeOf 1 0 0 0 [some (.ref (rf 10 0)), some (.int x), some (.int y), none] [] fi fr ai ar N (xQ (some (.int (chcR w lg x y))) fi fr ai ar N)
  have t1 : (nI 1).toInt = 1 := by decide
  have t2048 : (nI 2048).toInt = 2048 := by decide
  have he0 := iv_ep0 iv
  have tw : (nI (w 0)).toInt = w 0 := nI_toInt (b31 (by omega))
  by_cases hx : 1 ≤ x.toInt ∧ x.toInt ≤ w 0
  · obtain ⟨t, ht, ht2, rfl⟩ := inR_ex (x := x) (n := w 0 + 1) (by unfold inR; exact decide_eq_true (by omega))
    have hl := hlg t (by omega)
    have e : chcR w lg (nI t) y = if y.toInt = 0 then nI (lg t % 4) else if y.toInt = 1 then (if lg t % 4 = 0 then -1 else nI (lg t / 4 / 6)) else if y.toInt = 2 then (if lg t % 4 = 0 then -1 else nI (lg t / 4 % 6)) else -1 := by unfold chcR; rw [if_pos hx, nI_clamp ht2]
    rw [e]
    rw [nI_toInt (b31 ht2)] at hx
    refine e_iload_n dX10_changeOf_0 rfl rfl ?_
    refine e_iconst (v := nI 1) dX10_changeOf_1 rfl ?_
    first | ((with_reducible refine mk_nn ?_); refine n_icmp_lt (tgt := 26) dX10_changeOf_2 (by decide) (by omega) (by omega) (fun h2 => ?_) (fun h2 => ?_)) | refine e_icmp_lt (tgt := 26) dX10_changeOf_2 (by decide) (fun h2 => ?_) (fun h2 => ?_)
    · try first | contradiction | omega
      all_goals
        omega
    · try first | contradiction | omega
      all_goals
        refine e_iload_n dX10_changeOf_5 rfl rfl ?_
        refine e_aload_n dX10_changeOf_6 rfl rfl ?_
        refine e_getR dX10_changeOf_7 fl_X10_18 rfl (cx_0 cm) ?_
        refine e_getR dX10_changeOf_10 fl_X10_216 rfl (cm_map cm) ?_
        refine e_getE dX10_changeOf_13 fl_X10_105 rfl (by first | exact k_e hK | exact k_ce hK (by first | omega | (simp (disch := omega) only [upN_n, upN_s]; omega)) | assumption) ?_
        first | ((with_reducible refine mk_nn ?_); refine n_icmp_gt (tgt := 26) dX10_changeOf_16 (by decide) (by omega) (by omega) (fun h16 => ?_) (fun h16 => ?_)) | refine e_icmp_gt (tgt := 26) dX10_changeOf_16 (by decide) (fun h16 => ?_) (fun h16 => ?_)
        · try first | contradiction | omega
          all_goals
            omega
        · try first | contradiction | omega
          all_goals
            refine e_iload_n dX10_changeOf_19 rfl rfl ?_
            refine e_sipush (v := nI 2048) dX10_changeOf_20 rfl ?_
            first | ((with_reducible refine mk_nn ?_); refine n_icmp_lt (tgt := 28) dX10_changeOf_23 (by decide) (by omega) (by omega) (fun h23 => ?_) (fun h23 => ?_)) | refine e_icmp_lt (tgt := 28) dX10_changeOf_23 (by decide) (fun h23 => ?_) (fun h23 => ?_)
            · try first | contradiction | omega
              all_goals
                refine e_aload_n dX10_changeOf_28 rfl rfl ?_
                refine e_getR dX10_changeOf_29 fl_X10_22 rfl (cx_1 cm) ?_
                refine e_iload_n dX10_changeOf_32 rfl rfl ?_
                refine x_V1 (M' := mX3_kindOf) dX10_changeOf_33 ml_X10_338 ok_X3_kindOf (by decide) rfl im_X3_kindOf se_X3_kindOf (ct_X3_kindOf cm iv hK (by omega) (by omega) (by assumption)) (Nat.le_of_ble_eq_true rfl) (by decide) (Nat.le_of_ble_eq_true rfl) ?_
                refine e_istore_n dX10_changeOf_36 rfl (Nat.le_of_ble_eq_true rfl) rfl ?_
                refine e_iload_n dX10_changeOf_37 rfl rfl ?_
                refine e_swc (tgt := 64) 0 dX10_changeOf_38 (by decide) (by decide) rfl (by decide) (fun h38_0 => ?_) (fun h38_0 => ?_)
                · try first | contradiction | omega
                  all_goals
                    refine e_iload_n dX10_changeOf_64 rfl rfl ?_
                    refine e_ret (some _) rfl (r_int dX10_changeOf_65 rfl) ?_
                    refine xq ?_ rfl rfl rfl rfl rfl
                    first | (rw [if_pos h38_0]; done) | (rw [if_neg h38_0, if_pos h38_1, if_pos (by omega)]; done) | (rw [if_neg h38_0, if_pos h38_1, if_neg (by omega)]; done) | (rw [if_neg h38_0, if_neg h38_1, if_pos h38_2, if_pos (by omega)]; done) | (rw [if_neg h38_0, if_neg h38_1, if_pos h38_2, if_neg (by omega)]; done) | (rw [if_neg h38_0, if_neg h38_1, if_neg h38_2]; done)
                refine e_swc (tgt := 66) 1 dX10_changeOf_38 (by decide) (by decide) rfl (by decide) (fun h38_1 => ?_) (fun h38_1 => ?_)
                · try first | contradiction | omega
                  all_goals
                    refine e_iload_n dX10_changeOf_66 rfl rfl ?_
                    first | ((with_reducible refine mk_b ?_); refine b_if_ne (tgt := 74) dX10_changeOf_67 (by decide) (fun h67 => ?_) (fun h67 => ?_)) | ((with_reducible refine mk_ll ?_); refine m_if_ne (tgt := 74) dX10_changeOf_67 (by decide) (by omega) (by omega) (fun h67 => ?_) (fun h67 => ?_)) | ((with_reducible refine mk_lc ?_); refine l_if_ne (tgt := 74) dX10_changeOf_67 (by decide) (fun h67 => ?_) (fun h67 => ?_)) | ((with_reducible refine mk_n ?_); refine n_if_ne (tgt := 74) dX10_changeOf_67 (by decide) (by omega) (fun h67 => ?_) (fun h67 => ?_)) | refine e_if_ne (tgt := 74) dX10_changeOf_67 (by decide) (fun h67 => ?_) (fun h67 => ?_)
                    · try first | contradiction | omega | (simp only [decide_eq_true_eq, decide_eq_false_iff_not] at h67; omega)
                      all_goals
                        refine e_aload_n dX10_changeOf_74 rfl rfl ?_
                        refine e_getR dX10_changeOf_75 fl_X10_22 rfl (cx_1 cm) ?_
                        refine e_iload_n dX10_changeOf_78 rfl rfl ?_
                        refine x_V1 (M' := mX3_lowOfChange) dX10_changeOf_79 ml_X10_341 ok_X3_lowOfChange (by decide) rfl im_X3_lowOfChange se_X3_lowOfChange (ct_X3_lowOfChange cm iv hK (by omega) (by omega) (by assumption)) (Nat.le_of_ble_eq_true rfl) (by decide) (Nat.le_of_ble_eq_true rfl) ?_
                        refine e_ret (some _) rfl (r_int dX10_changeOf_82 rfl) ?_
                        refine xq ?_ rfl rfl rfl rfl rfl
                        first | (rw [if_pos h38_0]; done) | (rw [if_neg h38_0, if_pos h38_1, if_pos (by omega)]; done) | (rw [if_neg h38_0, if_pos h38_1, if_neg (by omega)]; done) | (rw [if_neg h38_0, if_neg h38_1, if_pos h38_2, if_pos (by omega)]; done) | (rw [if_neg h38_0, if_neg h38_1, if_pos h38_2, if_neg (by omega)]; done) | (rw [if_neg h38_0, if_neg h38_1, if_neg h38_2]; done)
                    · try first | contradiction | omega | (simp only [decide_eq_true_eq, decide_eq_false_iff_not] at h67; omega)
                      all_goals
                        refine e_iconst (v := -1) dX10_changeOf_70 rfl ?_
                        refine e_goto (tgt := 82) dX10_changeOf_71 (by decide) ?_
                        refine e_ret (some _) rfl (r_int dX10_changeOf_82 rfl) ?_
                        refine xq ?_ rfl rfl rfl rfl rfl
                        first | (rw [if_pos h38_0]; done) | (rw [if_neg h38_0, if_pos h38_1, if_pos (by omega)]; done) | (rw [if_neg h38_0, if_pos h38_1, if_neg (by omega)]; done) | (rw [if_neg h38_0, if_neg h38_1, if_pos h38_2, if_pos (by omega)]; done) | (rw [if_neg h38_0, if_neg h38_1, if_pos h38_2, if_neg (by omega)]; done) | (rw [if_neg h38_0, if_neg h38_1, if_neg h38_2]; done)
                refine e_swc (tgt := 83) 2 dX10_changeOf_38 (by decide) (by decide) rfl (by decide) (fun h38_2 => ?_) (fun h38_2 => ?_)
                · try first | contradiction | omega
                  all_goals
                    refine e_iload_n dX10_changeOf_83 rfl rfl ?_
                    first | ((with_reducible refine mk_b ?_); refine b_if_ne (tgt := 91) dX10_changeOf_84 (by decide) (fun h84 => ?_) (fun h84 => ?_)) | ((with_reducible refine mk_ll ?_); refine m_if_ne (tgt := 91) dX10_changeOf_84 (by decide) (by omega) (by omega) (fun h84 => ?_) (fun h84 => ?_)) | ((with_reducible refine mk_lc ?_); refine l_if_ne (tgt := 91) dX10_changeOf_84 (by decide) (fun h84 => ?_) (fun h84 => ?_)) | ((with_reducible refine mk_n ?_); refine n_if_ne (tgt := 91) dX10_changeOf_84 (by decide) (by omega) (fun h84 => ?_) (fun h84 => ?_)) | refine e_if_ne (tgt := 91) dX10_changeOf_84 (by decide) (fun h84 => ?_) (fun h84 => ?_)
                    · try first | contradiction | omega | (simp only [decide_eq_true_eq, decide_eq_false_iff_not] at h84; omega)
                      all_goals
                        refine e_aload_n dX10_changeOf_91 rfl rfl ?_
                        refine e_getR dX10_changeOf_92 fl_X10_22 rfl (cx_1 cm) ?_
                        refine e_iload_n dX10_changeOf_95 rfl rfl ?_
                        refine x_V1 (M' := mX3_ownerOfChange) dX10_changeOf_96 ml_X10_344 ok_X3_ownerOfChange (by decide) rfl im_X3_ownerOfChange se_X3_ownerOfChange (ct_X3_ownerOfChange cm iv hK (by omega) (by omega) (by assumption)) (Nat.le_of_ble_eq_true rfl) (by decide) (Nat.le_of_ble_eq_true rfl) ?_
                        refine e_ret (some _) rfl (r_int dX10_changeOf_99 rfl) ?_
                        refine xq ?_ rfl rfl rfl rfl rfl
                        first | (rw [if_pos h38_0]; done) | (rw [if_neg h38_0, if_pos h38_1, if_pos (by omega)]; done) | (rw [if_neg h38_0, if_pos h38_1, if_neg (by omega)]; done) | (rw [if_neg h38_0, if_neg h38_1, if_pos h38_2, if_pos (by omega)]; done) | (rw [if_neg h38_0, if_neg h38_1, if_pos h38_2, if_neg (by omega)]; done) | (rw [if_neg h38_0, if_neg h38_1, if_neg h38_2]; done)
                    · try first | contradiction | omega | (simp only [decide_eq_true_eq, decide_eq_false_iff_not] at h84; omega)
                      all_goals
                        refine e_iconst (v := -1) dX10_changeOf_87 rfl ?_
                        refine e_goto (tgt := 99) dX10_changeOf_88 (by decide) ?_
                        refine e_ret (some _) rfl (r_int dX10_changeOf_99 rfl) ?_
                        refine xq ?_ rfl rfl rfl rfl rfl
                        first | (rw [if_pos h38_0]; done) | (rw [if_neg h38_0, if_pos h38_1, if_pos (by omega)]; done) | (rw [if_neg h38_0, if_pos h38_1, if_neg (by omega)]; done) | (rw [if_neg h38_0, if_neg h38_1, if_pos h38_2, if_pos (by omega)]; done) | (rw [if_neg h38_0, if_neg h38_1, if_pos h38_2, if_neg (by omega)]; done) | (rw [if_neg h38_0, if_neg h38_1, if_neg h38_2]; done)
                refine e_tableOut (tgt := 100) dX10_changeOf_38 (by omega) (by decide) ?_
                refine e_iconst (v := -1) dX10_changeOf_100 rfl ?_
                refine e_ret (some _) rfl (r_int dX10_changeOf_101 rfl) ?_
                refine xq ?_ rfl rfl rfl rfl rfl
                first | (rw [if_pos h38_0]; done) | (rw [if_neg h38_0, if_pos h38_1, if_pos (by omega)]; done) | (rw [if_neg h38_0, if_pos h38_1, if_neg (by omega)]; done) | (rw [if_neg h38_0, if_neg h38_1, if_pos h38_2, if_pos (by omega)]; done) | (rw [if_neg h38_0, if_neg h38_1, if_pos h38_2, if_neg (by omega)]; done) | (rw [if_neg h38_0, if_neg h38_1, if_neg h38_2]; done)
            · try first | contradiction | omega
              all_goals
                omega
  · have e : chcR w lg x y = -1 := by unfold chcR; rw [if_neg hx]
    rw [e]
    refine e_iload_n dX10_changeOf_0 rfl rfl ?_
    refine e_iconst (v := nI 1) dX10_changeOf_1 rfl ?_
    first | ((with_reducible refine mk_nn ?_); refine n_icmp_lt (tgt := 26) dX10_changeOf_2 (by decide) (by omega) (by omega) (fun h2 => ?_) (fun h2 => ?_)) | refine e_icmp_lt (tgt := 26) dX10_changeOf_2 (by decide) (fun h2 => ?_) (fun h2 => ?_)
    · try first | contradiction | omega
      all_goals
        refine e_iconst (v := -1) dX10_changeOf_26 rfl ?_
        refine e_ret (some _) rfl (r_int dX10_changeOf_27 rfl) ?_
        exact xq rfl rfl rfl rfl rfl rfl
    · try first | contradiction | omega
      all_goals
        refine e_iload_n dX10_changeOf_5 rfl rfl ?_
        refine e_aload_n dX10_changeOf_6 rfl rfl ?_
        refine e_getR dX10_changeOf_7 fl_X10_18 rfl (cx_0 cm) ?_
        refine e_getR dX10_changeOf_10 fl_X10_216 rfl (cm_map cm) ?_
        refine e_getE dX10_changeOf_13 fl_X10_105 rfl (by first | exact k_e hK | exact k_ce hK (by first | omega | (simp (disch := omega) only [upN_n, upN_s]; omega)) | assumption) ?_
        first | ((with_reducible refine mk_nn ?_); refine n_icmp_gt (tgt := 26) dX10_changeOf_16 (by decide) (by omega) (by omega) (fun h16 => ?_) (fun h16 => ?_)) | refine e_icmp_gt (tgt := 26) dX10_changeOf_16 (by decide) (fun h16 => ?_) (fun h16 => ?_)
        · try first | contradiction | omega
          all_goals
            refine e_iconst (v := -1) dX10_changeOf_26 rfl ?_
            refine e_ret (some _) rfl (r_int dX10_changeOf_27 rfl) ?_
            exact xq rfl rfl rfl rfl rfl rfl
        · try first | contradiction | omega
          all_goals
            refine e_iload_n dX10_changeOf_19 rfl rfl ?_
            refine e_sipush (v := nI 2048) dX10_changeOf_20 rfl ?_
            first | ((with_reducible refine mk_nn ?_); refine n_icmp_lt (tgt := 28) dX10_changeOf_23 (by decide) (by omega) (by omega) (fun h23 => ?_) (fun h23 => ?_)) | refine e_icmp_lt (tgt := 28) dX10_changeOf_23 (by decide) (fun h23 => ?_) (fun h23 => ?_)
            · try first | contradiction | omega
              all_goals
                exfalso; simp only [Int32.lt_iff_toInt_lt, Int32.le_iff_toInt_le, t1, t2048, tw] at *; omega
            · try first | contradiction | omega
              all_goals
                refine e_iconst (v := -1) dX10_changeOf_26 rfl ?_
                refine e_ret (some _) rfl (r_int dX10_changeOf_27 rfl) ?_
                exact xq rfl rfl rfl rfl rfl rfl
