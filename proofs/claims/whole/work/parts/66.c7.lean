def blB (w : Nat → Nat) (i s : Nat) : Bool := decide (s = w (42 + i)) || (match mvL w (w (10 + i)) with
  | none => false
  | some m => decide (s = w (7694 + 72 * m + 3)) || decide (s = w (7694 + 72 * m + 4)))
def vsN (w : Nat → Nat) (i s : Nat) : Nat := cnt (fun j => decide (0 < w (1106 + 1000 * s + (w (10 + i) + j)))) (enF w i - w (10 + i))
def sdS (w : Nat → Nat) (i s : Nat) : Bool := !blB w i s && decide (0 < vsN w i s)
def soC (w : Nat → Nat) : Bool := (fO (fun i => (fO (sdS w i) 6).isSome) (w 1)).isNone
theorem ct_X9_isSound {fi : FI} {fr : FR} {ai : FI} {ar : FR} {N : Nat} {w lg : Nat → Nat} {E : Nat} (cm : CM fr ar) (iv : Inv w) (hK : K fi ai w lg E)  : CP mX9_isSound 2 0 0 [.ref (rf 9 1)] fi fr ai ar N (xQ (some (.int (bI (soC w)))) fi fr ai ar N) := by
  have h1 := iv_n iv
  have h3 := iv_mm iv
  have bd := Bd_iv iv
  have hF : FR1 fi ai fi ai := FR1_rf
  change EV mX9_isSound 2 0 0 0 [some (.ref (rf 9 1)), none, none, none, none] [] fi fr ai ar N (xQ (some (.int (bI (soC w)))) fi fr ai ar N)
  have key := ev_up (P := fun i => (∀ q, q < i → (fO (sdS w q) 6).isSome = false) → ∀ x y z, EV mX9_isSound 2 0 0 2 [some (.ref (rf 9 1)), some (.int (nI i)), x, y, z] [] fi fr ai ar N (xQ (some (.int (bI (soC w)))) fi fr ai ar N)) (w 1) (fun i hi ih hn x y z => by
    have he := enF_le iv hi
    have ho := iv_own iv hi
    have hl := iv_low iv hi
    have hm : ∀ m, mvL w (w (10 + i)) = some m → m < w 3 ∧ m < 12 ∧ w (7694 + 72 * m + 3) < 6 ∧ w (7694 + 72 * m + 4) < 6 := fun m h => by
      have a := mvL_lt h
      have b := iv_mv iv a
      exact ⟨a, by omega, by omega, by omega⟩
    have kin := ev_up (P := fun s => (∀ q, q < s → sdS w i q = false) → ∀ z, EV mX9_isSound 2 0 0 29 [some (.ref (rf 9 1)), some (.int (nI i)), some (.int (oI (mvL w (w (10 + i))))), some (.int (nI s)), z] [] fi fr ai ar N (xQ (some (.int (bI (soC w)))) fi fr ai ar N)) 6 (fun s hs ih2 hn2 z => by
      have hvc := cnt_le (fun j => decide (0 < w (1106 + 1000 * s + (w (10 + i) + j)))) (enF w i - w (10 + i))
      have e : sdS w i s = (!blB w i s && decide (0 < vsN w i s)) := rfl
      have hv : vsN w i s = cnt (fun j => decide (0 < w (1106 + 1000 * s + (w (10 + i) + j)))) (enF w i - w (10 + i)) := rfl
      have nx : sdS w i s = false → ∀ q, q < s + 1 → sdS w i q = false := fun h q hq => by
        by_cases e2 : q = s
        · rw [e2]; exact h
        · exact hn2 q (by omega)
      cases hmv : mvL w (w (10 + i)) with
      | none =>
        have eb : blB w i s = decide (s = w (42 + i)) := by unfold blB; rw [hmv]; simp
        rw [hmv] at ih2
        refine e_iload_n dX9_isSound_29 rfl rfl ?_
        refine e_bipush (v := nI 6) dX9_isSound_30 rfl ?_
        first | ((with_reducible refine mk_nn ?_); refine n_icmp_ge (tgt := 124) dX9_isSound_32 (by decide) (by omega) (by omega) (fun h32 => ?_) (fun h32 => ?_)) | refine e_icmp_ge (tgt := 124) dX9_isSound_32 (by decide) (fun h32 => ?_) (fun h32 => ?_)
        · try first | contradiction | omega
          all_goals
            first | refine n_inc dX9_isSound_124 rfl (Nat.le_of_ble_eq_true rfl) rfl ?_ | refine e_iinc dX9_isSound_124 rfl rfl (Nat.le_of_ble_eq_true rfl) rfl ?_
            refine e_goto (tgt := 2) dX9_isSound_127 (by decide) ?_
            refine e_iload_n dX9_isSound_2 rfl rfl ?_
            refine e_aload_n dX9_isSound_3 rfl rfl ?_
            refine e_getR dX9_isSound_4 fl_X9_21 rfl (cm_map cm) ?_
            refine e_getE dX9_isSound_7 fl_X9_39 rfl (by first | exact k_n hK | exact k_cn hK (by first | omega | (simp (disch := omega) only [upN_n, upN_s]; omega)) | assumption) ?_
            first | ((with_reducible refine mk_nn ?_); refine n_icmp_ge (tgt := 130) dX9_isSound_10 (by decide) (by omega) (by omega) (fun h10 => ?_) (fun h10 => ?_)) | refine e_icmp_ge (tgt := 130) dX9_isSound_10 (by decide) (fun h10 => ?_) (fun h10 => ?_)
            · try first | contradiction | omega
              all_goals
                refine e_iconst (v := nI 1) dX9_isSound_130 rfl ?_
                first | ((with_reducible refine mk_b ?_); refine e_ret (some _) rfl (r_bool dX9_isSound_131 rfl) ?_) | ((with_reducible refine mk_n1 ?_); refine e_ret (some _) rfl (r_b1 dX9_isSound_131 rfl) ?_) | ((with_reducible refine mk_n0 ?_); refine e_ret (some _) rfl (r_b0 dX9_isSound_131 rfl) ?_)
                refine xq ?_ rfl rfl rfl rfl rfl
                unfold soC
                rw [fO_eq (i := i) (fun q hq => hn q hq) (by show (fO (sdS w i) 6).isSome = true; rw [fO_eq (i := s) hn2 (by rw [e, eb]; simp; omega) hs]; rfl) hi]
                rfl
            · try first | contradiction | omega
              all_goals
                refine e_aload_n dX9_isSound_13 rfl rfl ?_
                refine e_aload_n dX9_isSound_14 rfl rfl ?_
                refine e_getR dX9_isSound_15 fl_X9_21 rfl (cm_map cm) ?_
                refine e_getR dX9_isSound_18 fl_X9_82 rfl (by first | exact cm_tlo cm | exact cm_ctlo cm (by omega) | assumption) ?_
                refine e_iload_n dX9_isSound_21 rfl rfl ?_
                refine e_iadE _ dX9_isSound_22 ⟨by decide, by decide⟩ rfl rfl (by simp only [lenK]; omega) (by first | exact k_lo hK (by first | omega | (simp (disch := omega) only [upN_n, upN_s]; omega)) | exact k_clo hK (by omega) (by first | omega | (simp (disch := omega) only [upN_n, upN_s]; omega)) | assumption) ?_
                refine x_V1 (M' := mX9_moveAt) dX9_isSound_23 ml_X9_93 ok_X9_moveAt (by decide) rfl im_X9_moveAt se_X9_moveAt (ct_X9_moveAt cm iv hK (by omega)) (Nat.le_of_ble_eq_true rfl) (by decide) (Nat.le_of_ble_eq_true rfl) ?_
                refine e_istore_n dX9_isSound_26 rfl (Nat.le_of_ble_eq_true rfl) rfl ?_
                refine e_iconst (v := nI 0) dX9_isSound_27 rfl ?_
                refine e_istore_n dX9_isSound_28 rfl (Nat.le_of_ble_eq_true rfl) rfl ?_
                exact ih2 (nx (by rw [e, eb]; simp; omega)) _
        · try first | contradiction | omega
          all_goals
            refine e_iload_n dX9_isSound_35 rfl rfl ?_
            refine e_aload_n dX9_isSound_36 rfl rfl ?_
            refine e_getR dX9_isSound_37 fl_X9_21 rfl (cm_map cm) ?_
            refine e_getR dX9_isSound_40 fl_X9_79 rfl (by first | exact cm_tow cm | exact cm_ctow cm (by omega) | assumption) ?_
            refine e_iload_n dX9_isSound_43 rfl rfl ?_
            refine e_iadE _ dX9_isSound_44 ⟨by decide, by decide⟩ rfl rfl (by simp only [lenK]; omega) (by first | exact k_ow hK (by first | omega | (simp (disch := omega) only [upN_n, upN_s]; omega)) | exact k_cow hK (by omega) (by first | omega | (simp (disch := omega) only [upN_n, upN_s]; omega)) | assumption) ?_
            first | ((with_reducible refine mk_mo ?_); refine p_icmp_eq (tgt := 79) dX9_isSound_45 (by decide) (fun h45 => ?_) (fun h45 => ?_)) | ((with_reducible refine mk_ms ?_); refine s_icmp_eq (tgt := 79) dX9_isSound_45 (by decide) (by omega) (fun h45 => ?_) (fun h45 => ?_)) | ((with_reducible refine mk_mn ?_); refine q_icmp_eq (tgt := 79) dX9_isSound_45 (by decide) (by omega) (fun h45 => ?_) (fun h45 => ?_)) | ((with_reducible refine mk_nn ?_); refine n_icmp_eq (tgt := 79) dX9_isSound_45 (by decide) (by omega) (by omega) (fun h45 => ?_) (fun h45 => ?_)) | refine e_icmp_eq (tgt := 79) dX9_isSound_45 (by decide) (fun h45 => ?_) (fun h45 => ?_)
            · try first | contradiction | omega
              all_goals
                refine e_iconst (v := nI 1) dX9_isSound_79 rfl ?_
                refine e_goto (tgt := 84) dX9_isSound_80 (by decide) ?_
                refine e_istore dX9_isSound_84 (Nat.le_of_ble_eq_true rfl) rfl ?_
                refine e_iload dX9_isSound_86 rfl ?_
                first | ((with_reducible refine mk_b ?_); refine b_if_ne (tgt := 118) dX9_isSound_88 (by decide) (fun h88 => ?_) (fun h88 => ?_)) | ((with_reducible refine mk_ll ?_); refine m_if_ne (tgt := 118) dX9_isSound_88 (by decide) (by omega) (by omega) (fun h88 => ?_) (fun h88 => ?_)) | ((with_reducible refine mk_lc ?_); refine l_if_ne (tgt := 118) dX9_isSound_88 (by decide) (fun h88 => ?_) (fun h88 => ?_)) | ((with_reducible refine mk_n ?_); refine n_if_ne (tgt := 118) dX9_isSound_88 (by decide) (by omega) (fun h88 => ?_) (fun h88 => ?_)) | refine e_if_ne (tgt := 118) dX9_isSound_88 (by decide) (fun h88 => ?_) (fun h88 => ?_)
                · try first | contradiction | omega | (simp only [decide_eq_true_eq, decide_eq_false_iff_not] at h88; omega)
                  all_goals
                    first | refine n_inc dX9_isSound_118 rfl (Nat.le_of_ble_eq_true rfl) rfl ?_ | refine e_iinc dX9_isSound_118 rfl rfl (Nat.le_of_ble_eq_true rfl) rfl ?_
                    refine e_goto (tgt := 29) dX9_isSound_121 (by decide) ?_
                    exact ih2 (nx (by rw [e, eb]; simp; omega)) _
                · try first | contradiction | omega | (simp only [decide_eq_true_eq, decide_eq_false_iff_not] at h88; omega)
                  all_goals
                    refine e_aload_n dX9_isSound_91 rfl rfl ?_
                    refine e_iload_n dX9_isSound_92 rfl rfl ?_
                    refine e_aload_n dX9_isSound_93 rfl rfl ?_
                    refine e_getR dX9_isSound_94 fl_X9_21 rfl (cm_map cm) ?_
                    refine e_getR dX9_isSound_97 fl_X9_82 rfl (by first | exact cm_tlo cm | exact cm_ctlo cm (by omega) | assumption) ?_
                    refine e_iload_n dX9_isSound_100 rfl rfl ?_
                    refine e_iadE _ dX9_isSound_101 ⟨by decide, by decide⟩ rfl rfl (by simp only [lenK]; omega) (by first | exact k_lo hK (by first | omega | (simp (disch := omega) only [upN_n, upN_s]; omega)) | exact k_clo hK (by omega) (by first | omega | (simp (disch := omega) only [upN_n, upN_s]; omega)) | assumption) ?_
                    refine e_aload_n dX9_isSound_102 rfl rfl ?_
                    refine e_getR dX9_isSound_103 fl_X9_21 rfl (cm_map cm) ?_
                    refine e_iload_n dX9_isSound_106 rfl rfl ?_
                    refine x_V1 (M' := mX8_endOf) dX9_isSound_107 ml_X9_85 ok_X8_endOf (by decide) rfl im_X8_endOf se_X8_endOf (ct_X8_endOf cm iv hK (by omega)) (Nat.le_of_ble_eq_true rfl) (by decide) (Nat.le_of_ble_eq_true rfl) ?_
                    refine x_V3 (M' := mX9_valuesIn) dX9_isSound_110 ml_X9_89 ok_X9_valuesIn (by decide) rfl im_X9_valuesIn se_X9_valuesIn (ct_X9_valuesIn cm iv hK (by omega) (by omega) (by omega)) (Nat.le_of_ble_eq_true rfl) (by decide) (Nat.le_of_ble_eq_true rfl) ?_
                    first | ((with_reducible refine mk_ll ?_); refine m_if_le (tgt := 118) dX9_isSound_113 (by decide) (by omega) (by omega) (fun h113 => ?_) (fun h113 => ?_)) | ((with_reducible refine mk_lc ?_); refine l_if_le (tgt := 118) dX9_isSound_113 (by decide) (fun h113 => ?_) (fun h113 => ?_)) | ((with_reducible refine mk_n ?_); refine n_if_le (tgt := 118) dX9_isSound_113 (by decide) (by omega) (fun h113 => ?_) (fun h113 => ?_)) | refine e_if_le (tgt := 118) dX9_isSound_113 (by decide) (fun h113 => ?_) (fun h113 => ?_)
                    · try first | contradiction | omega
                      all_goals
                        first | refine n_inc dX9_isSound_118 rfl (Nat.le_of_ble_eq_true rfl) rfl ?_ | refine e_iinc dX9_isSound_118 rfl rfl (Nat.le_of_ble_eq_true rfl) rfl ?_
                        refine e_goto (tgt := 29) dX9_isSound_121 (by decide) ?_
                        exact ih2 (nx (by rw [e, eb]; simp; omega)) _
                    · try first | contradiction | omega
                      all_goals
                        refine e_iconst (v := nI 0) dX9_isSound_116 rfl ?_
                        first | ((with_reducible refine mk_b ?_); refine e_ret (some _) rfl (r_bool dX9_isSound_117 rfl) ?_) | ((with_reducible refine mk_n1 ?_); refine e_ret (some _) rfl (r_b1 dX9_isSound_117 rfl) ?_) | ((with_reducible refine mk_n0 ?_); refine e_ret (some _) rfl (r_b0 dX9_isSound_117 rfl) ?_)
                        refine xq ?_ rfl rfl rfl rfl rfl
                        unfold soC
                        rw [fO_eq (i := i) (fun q hq => hn q hq) (by show (fO (sdS w i) 6).isSome = true; rw [fO_eq (i := s) hn2 (by rw [e, eb]; simp; omega) hs]; rfl) hi]
                        rfl
            · try first | contradiction | omega
              all_goals
                refine e_iload_n dX9_isSound_48 rfl rfl ?_
                refine e_iconst (v := -1) dX9_isSound_49 rfl ?_
                first | ((with_reducible refine mk_mo ?_); refine p_icmp_eq (tgt := 83) dX9_isSound_50 (by decide) (fun h50 => ?_) (fun h50 => ?_)) | ((with_reducible refine mk_ms ?_); refine s_icmp_eq (tgt := 83) dX9_isSound_50 (by decide) (by omega) (fun h50 => ?_) (fun h50 => ?_)) | ((with_reducible refine mk_mn ?_); refine q_icmp_eq (tgt := 83) dX9_isSound_50 (by decide) (by omega) (fun h50 => ?_) (fun h50 => ?_)) | ((with_reducible refine mk_nn ?_); refine n_icmp_eq (tgt := 83) dX9_isSound_50 (by decide) (by omega) (by omega) (fun h50 => ?_) (fun h50 => ?_)) | refine e_icmp_eq (tgt := 83) dX9_isSound_50 (by decide) (fun h50 => ?_) (fun h50 => ?_)
                · try first | contradiction | omega
                  all_goals
                    refine e_iconst (v := nI 0) dX9_isSound_83 rfl ?_
                    refine e_istore dX9_isSound_84 (Nat.le_of_ble_eq_true rfl) rfl ?_
                    refine e_iload dX9_isSound_86 rfl ?_
                    first | ((with_reducible refine mk_b ?_); refine b_if_ne (tgt := 118) dX9_isSound_88 (by decide) (fun h88 => ?_) (fun h88 => ?_)) | ((with_reducible refine mk_ll ?_); refine m_if_ne (tgt := 118) dX9_isSound_88 (by decide) (by omega) (by omega) (fun h88 => ?_) (fun h88 => ?_)) | ((with_reducible refine mk_lc ?_); refine l_if_ne (tgt := 118) dX9_isSound_88 (by decide) (fun h88 => ?_) (fun h88 => ?_)) | ((with_reducible refine mk_n ?_); refine n_if_ne (tgt := 118) dX9_isSound_88 (by decide) (by omega) (fun h88 => ?_) (fun h88 => ?_)) | refine e_if_ne (tgt := 118) dX9_isSound_88 (by decide) (fun h88 => ?_) (fun h88 => ?_)
                    · try first | contradiction | omega | (simp only [decide_eq_true_eq, decide_eq_false_iff_not] at h88; omega)
                      all_goals
                        first | refine n_inc dX9_isSound_118 rfl (Nat.le_of_ble_eq_true rfl) rfl ?_ | refine e_iinc dX9_isSound_118 rfl rfl (Nat.le_of_ble_eq_true rfl) rfl ?_
                        refine e_goto (tgt := 29) dX9_isSound_121 (by decide) ?_
                        exact ih2 (nx (by rw [e, eb]; simp; omega)) _
                    · try first | contradiction | omega | (simp only [decide_eq_true_eq, decide_eq_false_iff_not] at h88; omega)
                      all_goals
                        refine e_aload_n dX9_isSound_91 rfl rfl ?_
                        refine e_iload_n dX9_isSound_92 rfl rfl ?_
                        refine e_aload_n dX9_isSound_93 rfl rfl ?_
                        refine e_getR dX9_isSound_94 fl_X9_21 rfl (cm_map cm) ?_
                        refine e_getR dX9_isSound_97 fl_X9_82 rfl (by first | exact cm_tlo cm | exact cm_ctlo cm (by omega) | assumption) ?_
                        refine e_iload_n dX9_isSound_100 rfl rfl ?_
                        refine e_iadE _ dX9_isSound_101 ⟨by decide, by decide⟩ rfl rfl (by simp only [lenK]; omega) (by first | exact k_lo hK (by first | omega | (simp (disch := omega) only [upN_n, upN_s]; omega)) | exact k_clo hK (by omega) (by first | omega | (simp (disch := omega) only [upN_n, upN_s]; omega)) | assumption) ?_
                        refine e_aload_n dX9_isSound_102 rfl rfl ?_
                        refine e_getR dX9_isSound_103 fl_X9_21 rfl (cm_map cm) ?_
                        refine e_iload_n dX9_isSound_106 rfl rfl ?_
                        refine x_V1 (M' := mX8_endOf) dX9_isSound_107 ml_X9_85 ok_X8_endOf (by decide) rfl im_X8_endOf se_X8_endOf (ct_X8_endOf cm iv hK (by omega)) (Nat.le_of_ble_eq_true rfl) (by decide) (Nat.le_of_ble_eq_true rfl) ?_
                        refine x_V3 (M' := mX9_valuesIn) dX9_isSound_110 ml_X9_89 ok_X9_valuesIn (by decide) rfl im_X9_valuesIn se_X9_valuesIn (ct_X9_valuesIn cm iv hK (by omega) (by omega) (by omega)) (Nat.le_of_ble_eq_true rfl) (by decide) (Nat.le_of_ble_eq_true rfl) ?_
                        first | ((with_reducible refine mk_ll ?_); refine m_if_le (tgt := 118) dX9_isSound_113 (by decide) (by omega) (by omega) (fun h113 => ?_) (fun h113 => ?_)) | ((with_reducible refine mk_lc ?_); refine l_if_le (tgt := 118) dX9_isSound_113 (by decide) (fun h113 => ?_) (fun h113 => ?_)) | ((with_reducible refine mk_n ?_); refine n_if_le (tgt := 118) dX9_isSound_113 (by decide) (by omega) (fun h113 => ?_) (fun h113 => ?_)) | refine e_if_le (tgt := 118) dX9_isSound_113 (by decide) (fun h113 => ?_) (fun h113 => ?_)
                        · try first | contradiction | omega
                          all_goals
                            first | refine n_inc dX9_isSound_118 rfl (Nat.le_of_ble_eq_true rfl) rfl ?_ | refine e_iinc dX9_isSound_118 rfl rfl (Nat.le_of_ble_eq_true rfl) rfl ?_
                            refine e_goto (tgt := 29) dX9_isSound_121 (by decide) ?_
                            exact ih2 (nx (by rw [e, eb]; simp; omega)) _
                        · try first | contradiction | omega
                          all_goals
                            refine e_iconst (v := nI 0) dX9_isSound_116 rfl ?_
                            first | ((with_reducible refine mk_b ?_); refine e_ret (some _) rfl (r_bool dX9_isSound_117 rfl) ?_) | ((with_reducible refine mk_n1 ?_); refine e_ret (some _) rfl (r_b1 dX9_isSound_117 rfl) ?_) | ((with_reducible refine mk_n0 ?_); refine e_ret (some _) rfl (r_b0 dX9_isSound_117 rfl) ?_)
                            refine xq ?_ rfl rfl rfl rfl rfl
                            unfold soC
                            rw [fO_eq (i := i) (fun q hq => hn q hq) (by show (fO (sdS w i) 6).isSome = true; rw [fO_eq (i := s) hn2 (by rw [e, eb]; simp; omega) hs]; rfl) hi]
                            rfl
                · try first | contradiction | omega
                  all_goals
                    refine e_iload_n dX9_isSound_53 rfl rfl ?_
                    refine e_aload_n dX9_isSound_54 rfl rfl ?_
                    refine e_getR dX9_isSound_55 fl_X9_31 rfl (cm_mvs cm) ?_
                    refine e_iload_n dX9_isSound_58 rfl rfl ?_
                    refine e_aald _ dX9_isSound_59 ⟨by decide, by decide⟩ rfl rfl (by simp only [lenK]; omega) (cm_mo cm (by omega)) ?_
                    refine e_getE dX9_isSound_60 fl_X9_96 rfl (k_m5 hK (by first | omega | (simp (disch := omega) only [upN_n, upN_s]; omega))) ?_
                    first | ((with_reducible refine mk_mo ?_); refine p_icmp_eq (tgt := 79) dX9_isSound_63 (by decide) (fun h63 => ?_) (fun h63 => ?_)) | ((with_reducible refine mk_ms ?_); refine s_icmp_eq (tgt := 79) dX9_isSound_63 (by decide) (by omega) (fun h63 => ?_) (fun h63 => ?_)) | ((with_reducible refine mk_mn ?_); refine q_icmp_eq (tgt := 79) dX9_isSound_63 (by decide) (by omega) (fun h63 => ?_) (fun h63 => ?_)) | ((with_reducible refine mk_nn ?_); refine n_icmp_eq (tgt := 79) dX9_isSound_63 (by decide) (by omega) (by omega) (fun h63 => ?_) (fun h63 => ?_)) | refine e_icmp_eq (tgt := 79) dX9_isSound_63 (by decide) (fun h63 => ?_) (fun h63 => ?_)
                    · try first | contradiction | omega
                      all_goals
                        refine e_iconst (v := nI 1) dX9_isSound_79 rfl ?_
                        refine e_goto (tgt := 84) dX9_isSound_80 (by decide) ?_
                        refine e_istore dX9_isSound_84 (Nat.le_of_ble_eq_true rfl) rfl ?_
                        refine e_iload dX9_isSound_86 rfl ?_
                        first | ((with_reducible refine mk_b ?_); refine b_if_ne (tgt := 118) dX9_isSound_88 (by decide) (fun h88 => ?_) (fun h88 => ?_)) | ((with_reducible refine mk_ll ?_); refine m_if_ne (tgt := 118) dX9_isSound_88 (by decide) (by omega) (by omega) (fun h88 => ?_) (fun h88 => ?_)) | ((with_reducible refine mk_lc ?_); refine l_if_ne (tgt := 118) dX9_isSound_88 (by decide) (fun h88 => ?_) (fun h88 => ?_)) | ((with_reducible refine mk_n ?_); refine n_if_ne (tgt := 118) dX9_isSound_88 (by decide) (by omega) (fun h88 => ?_) (fun h88 => ?_)) | refine e_if_ne (tgt := 118) dX9_isSound_88 (by decide) (fun h88 => ?_) (fun h88 => ?_)
                        · try first | contradiction | omega | (simp only [decide_eq_true_eq, decide_eq_false_iff_not] at h88; omega)
                          all_goals
                            first | refine n_inc dX9_isSound_118 rfl (Nat.le_of_ble_eq_true rfl) rfl ?_ | refine e_iinc dX9_isSound_118 rfl rfl (Nat.le_of_ble_eq_true rfl) rfl ?_
                            refine e_goto (tgt := 29) dX9_isSound_121 (by decide) ?_
                            exact ih2 (nx (by rw [e, eb]; simp; omega)) _
                        · try first | contradiction | omega | (simp only [decide_eq_true_eq, decide_eq_false_iff_not] at h88; omega)
                          all_goals
                            refine e_aload_n dX9_isSound_91 rfl rfl ?_
                            refine e_iload_n dX9_isSound_92 rfl rfl ?_
                            refine e_aload_n dX9_isSound_93 rfl rfl ?_
                            refine e_getR dX9_isSound_94 fl_X9_21 rfl (cm_map cm) ?_
                            refine e_getR dX9_isSound_97 fl_X9_82 rfl (by first | exact cm_tlo cm | exact cm_ctlo cm (by omega) | assumption) ?_
                            refine e_iload_n dX9_isSound_100 rfl rfl ?_
                            refine e_iadE _ dX9_isSound_101 ⟨by decide, by decide⟩ rfl rfl (by simp only [lenK]; omega) (by first | exact k_lo hK (by first | omega | (simp (disch := omega) only [upN_n, upN_s]; omega)) | exact k_clo hK (by omega) (by first | omega | (simp (disch := omega) only [upN_n, upN_s]; omega)) | assumption) ?_
                            refine e_aload_n dX9_isSound_102 rfl rfl ?_
                            refine e_getR dX9_isSound_103 fl_X9_21 rfl (cm_map cm) ?_
                            refine e_iload_n dX9_isSound_106 rfl rfl ?_
                            refine x_V1 (M' := mX8_endOf) dX9_isSound_107 ml_X9_85 ok_X8_endOf (by decide) rfl im_X8_endOf se_X8_endOf (ct_X8_endOf cm iv hK (by omega)) (Nat.le_of_ble_eq_true rfl) (by decide) (Nat.le_of_ble_eq_true rfl) ?_
                            refine x_V3 (M' := mX9_valuesIn) dX9_isSound_110 ml_X9_89 ok_X9_valuesIn (by decide) rfl im_X9_valuesIn se_X9_valuesIn (ct_X9_valuesIn cm iv hK (by omega) (by omega) (by omega)) (Nat.le_of_ble_eq_true rfl) (by decide) (Nat.le_of_ble_eq_true rfl) ?_
                            first | ((with_reducible refine mk_ll ?_); refine m_if_le (tgt := 118) dX9_isSound_113 (by decide) (by omega) (by omega) (fun h113 => ?_) (fun h113 => ?_)) | ((with_reducible refine mk_lc ?_); refine l_if_le (tgt := 118) dX9_isSound_113 (by decide) (fun h113 => ?_) (fun h113 => ?_)) | ((with_reducible refine mk_n ?_); refine n_if_le (tgt := 118) dX9_isSound_113 (by decide) (by omega) (fun h113 => ?_) (fun h113 => ?_)) | refine e_if_le (tgt := 118) dX9_isSound_113 (by decide) (fun h113 => ?_) (fun h113 => ?_)
                            · try first | contradiction | omega
                              all_goals
                                first | refine n_inc dX9_isSound_118 rfl (Nat.le_of_ble_eq_true rfl) rfl ?_ | refine e_iinc dX9_isSound_118 rfl rfl (Nat.le_of_ble_eq_true rfl) rfl ?_
                                refine e_goto (tgt := 29) dX9_isSound_121 (by decide) ?_
                                exact ih2 (nx (by rw [e, eb]; simp; omega)) _
                            · try first | contradiction | omega
                              all_goals
                                refine e_iconst (v := nI 0) dX9_isSound_116 rfl ?_
                                first | ((with_reducible refine mk_b ?_); refine e_ret (some _) rfl (r_bool dX9_isSound_117 rfl) ?_) | ((with_reducible refine mk_n1 ?_); refine e_ret (some _) rfl (r_b1 dX9_isSound_117 rfl) ?_) | ((with_reducible refine mk_n0 ?_); refine e_ret (some _) rfl (r_b0 dX9_isSound_117 rfl) ?_)
                                refine xq ?_ rfl rfl rfl rfl rfl
                                unfold soC
                                rw [fO_eq (i := i) (fun q hq => hn q hq) (by show (fO (sdS w i) 6).isSome = true; rw [fO_eq (i := s) hn2 (by rw [e, eb]; simp; omega) hs]; rfl) hi]
                                rfl
                    · try first | contradiction | omega
                      all_goals
                        refine e_iload_n dX9_isSound_66 rfl rfl ?_
                        refine e_aload_n dX9_isSound_67 rfl rfl ?_
                        refine e_getR dX9_isSound_68 fl_X9_31 rfl (cm_mvs cm) ?_
                        refine e_iload_n dX9_isSound_71 rfl rfl ?_
                        refine e_aald _ dX9_isSound_72 ⟨by decide, by decide⟩ rfl rfl (by simp only [lenK]; omega) (cm_mo cm (by omega)) ?_
                        refine e_getE dX9_isSound_73 fl_X9_99 rfl (k_m6 hK (by first | omega | (simp (disch := omega) only [upN_n, upN_s]; omega))) ?_
                        first | ((with_reducible refine mk_mo ?_); refine p_icmp_ne (tgt := 83) dX9_isSound_76 (by decide) (fun h76 => ?_) (fun h76 => ?_)) | ((with_reducible refine mk_ms ?_); refine s_icmp_ne (tgt := 83) dX9_isSound_76 (by decide) (by omega) (fun h76 => ?_) (fun h76 => ?_)) | ((with_reducible refine mk_mn ?_); refine q_icmp_ne (tgt := 83) dX9_isSound_76 (by decide) (by omega) (fun h76 => ?_) (fun h76 => ?_)) | ((with_reducible refine mk_nn ?_); refine n_icmp_ne (tgt := 83) dX9_isSound_76 (by decide) (by omega) (by omega) (fun h76 => ?_) (fun h76 => ?_)) | refine e_icmp_ne (tgt := 83) dX9_isSound_76 (by decide) (fun h76 => ?_) (fun h76 => ?_)
                        · try first | contradiction | omega
                          all_goals
                            refine e_iconst (v := nI 0) dX9_isSound_83 rfl ?_
                            refine e_istore dX9_isSound_84 (Nat.le_of_ble_eq_true rfl) rfl ?_
                            refine e_iload dX9_isSound_86 rfl ?_
                            first | ((with_reducible refine mk_b ?_); refine b_if_ne (tgt := 118) dX9_isSound_88 (by decide) (fun h88 => ?_) (fun h88 => ?_)) | ((with_reducible refine mk_ll ?_); refine m_if_ne (tgt := 118) dX9_isSound_88 (by decide) (by omega) (by omega) (fun h88 => ?_) (fun h88 => ?_)) | ((with_reducible refine mk_lc ?_); refine l_if_ne (tgt := 118) dX9_isSound_88 (by decide) (fun h88 => ?_) (fun h88 => ?_)) | ((with_reducible refine mk_n ?_); refine n_if_ne (tgt := 118) dX9_isSound_88 (by decide) (by omega) (fun h88 => ?_) (fun h88 => ?_)) | refine e_if_ne (tgt := 118) dX9_isSound_88 (by decide) (fun h88 => ?_) (fun h88 => ?_)
                            · try first | contradiction | omega | (simp only [decide_eq_true_eq, decide_eq_false_iff_not] at h88; omega)
                              all_goals
                                first | refine n_inc dX9_isSound_118 rfl (Nat.le_of_ble_eq_true rfl) rfl ?_ | refine e_iinc dX9_isSound_118 rfl rfl (Nat.le_of_ble_eq_true rfl) rfl ?_
                                refine e_goto (tgt := 29) dX9_isSound_121 (by decide) ?_
                                exact ih2 (nx (by rw [e, eb]; simp; omega)) _
                            · try first | contradiction | omega | (simp only [decide_eq_true_eq, decide_eq_false_iff_not] at h88; omega)
                              all_goals
                                refine e_aload_n dX9_isSound_91 rfl rfl ?_
                                refine e_iload_n dX9_isSound_92 rfl rfl ?_
                                refine e_aload_n dX9_isSound_93 rfl rfl ?_
                                refine e_getR dX9_isSound_94 fl_X9_21 rfl (cm_map cm) ?_
                                refine e_getR dX9_isSound_97 fl_X9_82 rfl (by first | exact cm_tlo cm | exact cm_ctlo cm (by omega) | assumption) ?_
                                refine e_iload_n dX9_isSound_100 rfl rfl ?_
                                refine e_iadE _ dX9_isSound_101 ⟨by decide, by decide⟩ rfl rfl (by simp only [lenK]; omega) (by first | exact k_lo hK (by first | omega | (simp (disch := omega) only [upN_n, upN_s]; omega)) | exact k_clo hK (by omega) (by first | omega | (simp (disch := omega) only [upN_n, upN_s]; omega)) | assumption) ?_
                                refine e_aload_n dX9_isSound_102 rfl rfl ?_
                                refine e_getR dX9_isSound_103 fl_X9_21 rfl (cm_map cm) ?_
                                refine e_iload_n dX9_isSound_106 rfl rfl ?_
                                refine x_V1 (M' := mX8_endOf) dX9_isSound_107 ml_X9_85 ok_X8_endOf (by decide) rfl im_X8_endOf se_X8_endOf (ct_X8_endOf cm iv hK (by omega)) (Nat.le_of_ble_eq_true rfl) (by decide) (Nat.le_of_ble_eq_true rfl) ?_
                                refine x_V3 (M' := mX9_valuesIn) dX9_isSound_110 ml_X9_89 ok_X9_valuesIn (by decide) rfl im_X9_valuesIn se_X9_valuesIn (ct_X9_valuesIn cm iv hK (by omega) (by omega) (by omega)) (Nat.le_of_ble_eq_true rfl) (by decide) (Nat.le_of_ble_eq_true rfl) ?_
                                first | ((with_reducible refine mk_ll ?_); refine m_if_le (tgt := 118) dX9_isSound_113 (by decide) (by omega) (by omega) (fun h113 => ?_) (fun h113 => ?_)) | ((with_reducible refine mk_lc ?_); refine l_if_le (tgt := 118) dX9_isSound_113 (by decide) (fun h113 => ?_) (fun h113 => ?_)) | ((with_reducible refine mk_n ?_); refine n_if_le (tgt := 118) dX9_isSound_113 (by decide) (by omega) (fun h113 => ?_) (fun h113 => ?_)) | refine e_if_le (tgt := 118) dX9_isSound_113 (by decide) (fun h113 => ?_) (fun h113 => ?_)
                                · try first | contradiction | omega
                                  all_goals
                                    first | refine n_inc dX9_isSound_118 rfl (Nat.le_of_ble_eq_true rfl) rfl ?_ | refine e_iinc dX9_isSound_118 rfl rfl (Nat.le_of_ble_eq_true rfl) rfl ?_
                                    refine e_goto (tgt := 29) dX9_isSound_121 (by decide) ?_
                                    exact ih2 (nx (by rw [e, eb]; simp; omega)) _
                                · try first | contradiction | omega
                                  all_goals
                                    refine e_iconst (v := nI 0) dX9_isSound_116 rfl ?_
                                    first | ((with_reducible refine mk_b ?_); refine e_ret (some _) rfl (r_bool dX9_isSound_117 rfl) ?_) | ((with_reducible refine mk_n1 ?_); refine e_ret (some _) rfl (r_b1 dX9_isSound_117 rfl) ?_) | ((with_reducible refine mk_n0 ?_); refine e_ret (some _) rfl (r_b0 dX9_isSound_117 rfl) ?_)
                                    refine xq ?_ rfl rfl rfl rfl rfl
                                    unfold soC
                                    rw [fO_eq (i := i) (fun q hq => hn q hq) (by show (fO (sdS w i) 6).isSome = true; rw [fO_eq (i := s) hn2 (by rw [e, eb]; simp; omega) hs]; rfl) hi]
                                    rfl
                        · try first | contradiction | omega
                          all_goals
                            refine e_iconst (v := nI 1) dX9_isSound_79 rfl ?_
                            refine e_goto (tgt := 84) dX9_isSound_80 (by decide) ?_
                            refine e_istore dX9_isSound_84 (Nat.le_of_ble_eq_true rfl) rfl ?_
                            refine e_iload dX9_isSound_86 rfl ?_
                            first | ((with_reducible refine mk_b ?_); refine b_if_ne (tgt := 118) dX9_isSound_88 (by decide) (fun h88 => ?_) (fun h88 => ?_)) | ((with_reducible refine mk_ll ?_); refine m_if_ne (tgt := 118) dX9_isSound_88 (by decide) (by omega) (by omega) (fun h88 => ?_) (fun h88 => ?_)) | ((with_reducible refine mk_lc ?_); refine l_if_ne (tgt := 118) dX9_isSound_88 (by decide) (fun h88 => ?_) (fun h88 => ?_)) | ((with_reducible refine mk_n ?_); refine n_if_ne (tgt := 118) dX9_isSound_88 (by decide) (by omega) (fun h88 => ?_) (fun h88 => ?_)) | refine e_if_ne (tgt := 118) dX9_isSound_88 (by decide) (fun h88 => ?_) (fun h88 => ?_)
                            · try first | contradiction | omega | (simp only [decide_eq_true_eq, decide_eq_false_iff_not] at h88; omega)
                              all_goals
                                first | refine n_inc dX9_isSound_118 rfl (Nat.le_of_ble_eq_true rfl) rfl ?_ | refine e_iinc dX9_isSound_118 rfl rfl (Nat.le_of_ble_eq_true rfl) rfl ?_
                                refine e_goto (tgt := 29) dX9_isSound_121 (by decide) ?_
                                exact ih2 (nx (by rw [e, eb]; simp; omega)) _
                            · try first | contradiction | omega | (simp only [decide_eq_true_eq, decide_eq_false_iff_not] at h88; omega)
                              all_goals
                                refine e_aload_n dX9_isSound_91 rfl rfl ?_
                                refine e_iload_n dX9_isSound_92 rfl rfl ?_
                                refine e_aload_n dX9_isSound_93 rfl rfl ?_
                                refine e_getR dX9_isSound_94 fl_X9_21 rfl (cm_map cm) ?_
                                refine e_getR dX9_isSound_97 fl_X9_82 rfl (by first | exact cm_tlo cm | exact cm_ctlo cm (by omega) | assumption) ?_
                                refine e_iload_n dX9_isSound_100 rfl rfl ?_
                                refine e_iadE _ dX9_isSound_101 ⟨by decide, by decide⟩ rfl rfl (by simp only [lenK]; omega) (by first | exact k_lo hK (by first | omega | (simp (disch := omega) only [upN_n, upN_s]; omega)) | exact k_clo hK (by omega) (by first | omega | (simp (disch := omega) only [upN_n, upN_s]; omega)) | assumption) ?_
                                refine e_aload_n dX9_isSound_102 rfl rfl ?_
                                refine e_getR dX9_isSound_103 fl_X9_21 rfl (cm_map cm) ?_
                                refine e_iload_n dX9_isSound_106 rfl rfl ?_
                                refine x_V1 (M' := mX8_endOf) dX9_isSound_107 ml_X9_85 ok_X8_endOf (by decide) rfl im_X8_endOf se_X8_endOf (ct_X8_endOf cm iv hK (by omega)) (Nat.le_of_ble_eq_true rfl) (by decide) (Nat.le_of_ble_eq_true rfl) ?_
                                refine x_V3 (M' := mX9_valuesIn) dX9_isSound_110 ml_X9_89 ok_X9_valuesIn (by decide) rfl im_X9_valuesIn se_X9_valuesIn (ct_X9_valuesIn cm iv hK (by omega) (by omega) (by omega)) (Nat.le_of_ble_eq_true rfl) (by decide) (Nat.le_of_ble_eq_true rfl) ?_
                                first | ((with_reducible refine mk_ll ?_); refine m_if_le (tgt := 118) dX9_isSound_113 (by decide) (by omega) (by omega) (fun h113 => ?_) (fun h113 => ?_)) | ((with_reducible refine mk_lc ?_); refine l_if_le (tgt := 118) dX9_isSound_113 (by decide) (fun h113 => ?_) (fun h113 => ?_)) | ((with_reducible refine mk_n ?_); refine n_if_le (tgt := 118) dX9_isSound_113 (by decide) (by omega) (fun h113 => ?_) (fun h113 => ?_)) | refine e_if_le (tgt := 118) dX9_isSound_113 (by decide) (fun h113 => ?_) (fun h113 => ?_)
                                · try first | contradiction | omega
                                  all_goals
                                    first | refine n_inc dX9_isSound_118 rfl (Nat.le_of_ble_eq_true rfl) rfl ?_ | refine e_iinc dX9_isSound_118 rfl rfl (Nat.le_of_ble_eq_true rfl) rfl ?_
                                    refine e_goto (tgt := 29) dX9_isSound_121 (by decide) ?_
                                    exact ih2 (nx (by rw [e, eb]; simp; omega)) _
                                · try first | contradiction | omega
                                  all_goals
                                    refine e_iconst (v := nI 0) dX9_isSound_116 rfl ?_
                                    first | ((with_reducible refine mk_b ?_); refine e_ret (some _) rfl (r_bool dX9_isSound_117 rfl) ?_) | ((with_reducible refine mk_n1 ?_); refine e_ret (some _) rfl (r_b1 dX9_isSound_117 rfl) ?_) | ((with_reducible refine mk_n0 ?_); refine e_ret (some _) rfl (r_b0 dX9_isSound_117 rfl) ?_)
                                    refine xq ?_ rfl rfl rfl rfl rfl
                                    unfold soC
                                    rw [fO_eq (i := i) (fun q hq => hn q hq) (by show (fO (sdS w i) 6).isSome = true; rw [fO_eq (i := s) hn2 (by rw [e, eb]; simp; omega) hs]; rfl) hi]
                                    rfl
      | some m =>
        have hm1 := hm m hmv
        have eb : blB w i s = (decide (s = w (42 + i)) || (decide (s = w (7694 + 72 * m + 3)) || decide (s = w (7694 + 72 * m + 4)))) := by unfold blB; rw [hmv]
        rw [hmv] at ih2
        rw [oI_s]
        rw [oI_s] at ih2
        refine e_iload_n dX9_isSound_29 rfl rfl ?_
        refine e_bipush (v := nI 6) dX9_isSound_30 rfl ?_
        first | ((with_reducible refine mk_nn ?_); refine n_icmp_ge (tgt := 124) dX9_isSound_32 (by decide) (by omega) (by omega) (fun h32 => ?_) (fun h32 => ?_)) | refine e_icmp_ge (tgt := 124) dX9_isSound_32 (by decide) (fun h32 => ?_) (fun h32 => ?_)
        · try first | contradiction | omega
          all_goals
            first | refine n_inc dX9_isSound_124 rfl (Nat.le_of_ble_eq_true rfl) rfl ?_ | refine e_iinc dX9_isSound_124 rfl rfl (Nat.le_of_ble_eq_true rfl) rfl ?_
            refine e_goto (tgt := 2) dX9_isSound_127 (by decide) ?_
            refine e_iload_n dX9_isSound_2 rfl rfl ?_
            refine e_aload_n dX9_isSound_3 rfl rfl ?_
            refine e_getR dX9_isSound_4 fl_X9_21 rfl (cm_map cm) ?_
            refine e_getE dX9_isSound_7 fl_X9_39 rfl (by first | exact k_n hK | exact k_cn hK (by first | omega | (simp (disch := omega) only [upN_n, upN_s]; omega)) | assumption) ?_
            first | ((with_reducible refine mk_nn ?_); refine n_icmp_ge (tgt := 130) dX9_isSound_10 (by decide) (by omega) (by omega) (fun h10 => ?_) (fun h10 => ?_)) | refine e_icmp_ge (tgt := 130) dX9_isSound_10 (by decide) (fun h10 => ?_) (fun h10 => ?_)
            · try first | contradiction | omega
              all_goals
                refine e_iconst (v := nI 1) dX9_isSound_130 rfl ?_
                first | ((with_reducible refine mk_b ?_); refine e_ret (some _) rfl (r_bool dX9_isSound_131 rfl) ?_) | ((with_reducible refine mk_n1 ?_); refine e_ret (some _) rfl (r_b1 dX9_isSound_131 rfl) ?_) | ((with_reducible refine mk_n0 ?_); refine e_ret (some _) rfl (r_b0 dX9_isSound_131 rfl) ?_)
                refine xq ?_ rfl rfl rfl rfl rfl
                unfold soC
                rw [fO_eq (i := i) (fun q hq => hn q hq) (by show (fO (sdS w i) 6).isSome = true; rw [fO_eq (i := s) hn2 (by rw [e, eb]; simp; omega) hs]; rfl) hi]
                rfl
            · try first | contradiction | omega
              all_goals
                refine e_aload_n dX9_isSound_13 rfl rfl ?_
                refine e_aload_n dX9_isSound_14 rfl rfl ?_
                refine e_getR dX9_isSound_15 fl_X9_21 rfl (cm_map cm) ?_
                refine e_getR dX9_isSound_18 fl_X9_82 rfl (by first | exact cm_tlo cm | exact cm_ctlo cm (by omega) | assumption) ?_
                refine e_iload_n dX9_isSound_21 rfl rfl ?_
                refine e_iadE _ dX9_isSound_22 ⟨by decide, by decide⟩ rfl rfl (by simp only [lenK]; omega) (by first | exact k_lo hK (by first | omega | (simp (disch := omega) only [upN_n, upN_s]; omega)) | exact k_clo hK (by omega) (by first | omega | (simp (disch := omega) only [upN_n, upN_s]; omega)) | assumption) ?_
                refine x_V1 (M' := mX9_moveAt) dX9_isSound_23 ml_X9_93 ok_X9_moveAt (by decide) rfl im_X9_moveAt se_X9_moveAt (ct_X9_moveAt cm iv hK (by omega)) (Nat.le_of_ble_eq_true rfl) (by decide) (Nat.le_of_ble_eq_true rfl) ?_
                refine e_istore_n dX9_isSound_26 rfl (Nat.le_of_ble_eq_true rfl) rfl ?_
                refine e_iconst (v := nI 0) dX9_isSound_27 rfl ?_
                refine e_istore_n dX9_isSound_28 rfl (Nat.le_of_ble_eq_true rfl) rfl ?_
                exact ih2 (nx (by rw [e, eb]; simp; omega)) _
        · try first | contradiction | omega
          all_goals
            refine e_iload_n dX9_isSound_35 rfl rfl ?_
            refine e_aload_n dX9_isSound_36 rfl rfl ?_
            refine e_getR dX9_isSound_37 fl_X9_21 rfl (cm_map cm) ?_
            refine e_getR dX9_isSound_40 fl_X9_79 rfl (by first | exact cm_tow cm | exact cm_ctow cm (by omega) | assumption) ?_
            refine e_iload_n dX9_isSound_43 rfl rfl ?_
            refine e_iadE _ dX9_isSound_44 ⟨by decide, by decide⟩ rfl rfl (by simp only [lenK]; omega) (by first | exact k_ow hK (by first | omega | (simp (disch := omega) only [upN_n, upN_s]; omega)) | exact k_cow hK (by omega) (by first | omega | (simp (disch := omega) only [upN_n, upN_s]; omega)) | assumption) ?_
            first | ((with_reducible refine mk_mo ?_); refine p_icmp_eq (tgt := 79) dX9_isSound_45 (by decide) (fun h45 => ?_) (fun h45 => ?_)) | ((with_reducible refine mk_ms ?_); refine s_icmp_eq (tgt := 79) dX9_isSound_45 (by decide) (by omega) (fun h45 => ?_) (fun h45 => ?_)) | ((with_reducible refine mk_mn ?_); refine q_icmp_eq (tgt := 79) dX9_isSound_45 (by decide) (by omega) (fun h45 => ?_) (fun h45 => ?_)) | ((with_reducible refine mk_nn ?_); refine n_icmp_eq (tgt := 79) dX9_isSound_45 (by decide) (by omega) (by omega) (fun h45 => ?_) (fun h45 => ?_)) | refine e_icmp_eq (tgt := 79) dX9_isSound_45 (by decide) (fun h45 => ?_) (fun h45 => ?_)
            · try first | contradiction | omega
              all_goals
                refine e_iconst (v := nI 1) dX9_isSound_79 rfl ?_
                refine e_goto (tgt := 84) dX9_isSound_80 (by decide) ?_
                refine e_istore dX9_isSound_84 (Nat.le_of_ble_eq_true rfl) rfl ?_
                refine e_iload dX9_isSound_86 rfl ?_
                first | ((with_reducible refine mk_b ?_); refine b_if_ne (tgt := 118) dX9_isSound_88 (by decide) (fun h88 => ?_) (fun h88 => ?_)) | ((with_reducible refine mk_ll ?_); refine m_if_ne (tgt := 118) dX9_isSound_88 (by decide) (by omega) (by omega) (fun h88 => ?_) (fun h88 => ?_)) | ((with_reducible refine mk_lc ?_); refine l_if_ne (tgt := 118) dX9_isSound_88 (by decide) (fun h88 => ?_) (fun h88 => ?_)) | ((with_reducible refine mk_n ?_); refine n_if_ne (tgt := 118) dX9_isSound_88 (by decide) (by omega) (fun h88 => ?_) (fun h88 => ?_)) | refine e_if_ne (tgt := 118) dX9_isSound_88 (by decide) (fun h88 => ?_) (fun h88 => ?_)
                · try first | contradiction | omega | (simp only [decide_eq_true_eq, decide_eq_false_iff_not] at h88; omega)
                  all_goals
                    first | refine n_inc dX9_isSound_118 rfl (Nat.le_of_ble_eq_true rfl) rfl ?_ | refine e_iinc dX9_isSound_118 rfl rfl (Nat.le_of_ble_eq_true rfl) rfl ?_
                    refine e_goto (tgt := 29) dX9_isSound_121 (by decide) ?_
                    exact ih2 (nx (by rw [e, eb]; simp; omega)) _
                · try first | contradiction | omega | (simp only [decide_eq_true_eq, decide_eq_false_iff_not] at h88; omega)
                  all_goals
                    refine e_aload_n dX9_isSound_91 rfl rfl ?_
                    refine e_iload_n dX9_isSound_92 rfl rfl ?_
                    refine e_aload_n dX9_isSound_93 rfl rfl ?_
                    refine e_getR dX9_isSound_94 fl_X9_21 rfl (cm_map cm) ?_
                    refine e_getR dX9_isSound_97 fl_X9_82 rfl (by first | exact cm_tlo cm | exact cm_ctlo cm (by omega) | assumption) ?_
                    refine e_iload_n dX9_isSound_100 rfl rfl ?_
                    refine e_iadE _ dX9_isSound_101 ⟨by decide, by decide⟩ rfl rfl (by simp only [lenK]; omega) (by first | exact k_lo hK (by first | omega | (simp (disch := omega) only [upN_n, upN_s]; omega)) | exact k_clo hK (by omega) (by first | omega | (simp (disch := omega) only [upN_n, upN_s]; omega)) | assumption) ?_
                    refine e_aload_n dX9_isSound_102 rfl rfl ?_
                    refine e_getR dX9_isSound_103 fl_X9_21 rfl (cm_map cm) ?_
                    refine e_iload_n dX9_isSound_106 rfl rfl ?_
                    refine x_V1 (M' := mX8_endOf) dX9_isSound_107 ml_X9_85 ok_X8_endOf (by decide) rfl im_X8_endOf se_X8_endOf (ct_X8_endOf cm iv hK (by omega)) (Nat.le_of_ble_eq_true rfl) (by decide) (Nat.le_of_ble_eq_true rfl) ?_
                    refine x_V3 (M' := mX9_valuesIn) dX9_isSound_110 ml_X9_89 ok_X9_valuesIn (by decide) rfl im_X9_valuesIn se_X9_valuesIn (ct_X9_valuesIn cm iv hK (by omega) (by omega) (by omega)) (Nat.le_of_ble_eq_true rfl) (by decide) (Nat.le_of_ble_eq_true rfl) ?_
                    first | ((with_reducible refine mk_ll ?_); refine m_if_le (tgt := 118) dX9_isSound_113 (by decide) (by omega) (by omega) (fun h113 => ?_) (fun h113 => ?_)) | ((with_reducible refine mk_lc ?_); refine l_if_le (tgt := 118) dX9_isSound_113 (by decide) (fun h113 => ?_) (fun h113 => ?_)) | ((with_reducible refine mk_n ?_); refine n_if_le (tgt := 118) dX9_isSound_113 (by decide) (by omega) (fun h113 => ?_) (fun h113 => ?_)) | refine e_if_le (tgt := 118) dX9_isSound_113 (by decide) (fun h113 => ?_) (fun h113 => ?_)
                    · try first | contradiction | omega
                      all_goals
                        first | refine n_inc dX9_isSound_118 rfl (Nat.le_of_ble_eq_true rfl) rfl ?_ | refine e_iinc dX9_isSound_118 rfl rfl (Nat.le_of_ble_eq_true rfl) rfl ?_
                        refine e_goto (tgt := 29) dX9_isSound_121 (by decide) ?_
                        exact ih2 (nx (by rw [e, eb]; simp; omega)) _
                    · try first | contradiction | omega
                      all_goals
                        refine e_iconst (v := nI 0) dX9_isSound_116 rfl ?_
                        first | ((with_reducible refine mk_b ?_); refine e_ret (some _) rfl (r_bool dX9_isSound_117 rfl) ?_) | ((with_reducible refine mk_n1 ?_); refine e_ret (some _) rfl (r_b1 dX9_isSound_117 rfl) ?_) | ((with_reducible refine mk_n0 ?_); refine e_ret (some _) rfl (r_b0 dX9_isSound_117 rfl) ?_)
                        refine xq ?_ rfl rfl rfl rfl rfl
                        unfold soC
                        rw [fO_eq (i := i) (fun q hq => hn q hq) (by show (fO (sdS w i) 6).isSome = true; rw [fO_eq (i := s) hn2 (by rw [e, eb]; simp; omega) hs]; rfl) hi]
                        rfl
            · try first | contradiction | omega
              all_goals
                refine e_iload_n dX9_isSound_48 rfl rfl ?_
                refine e_iconst (v := -1) dX9_isSound_49 rfl ?_
                first | ((with_reducible refine mk_mo ?_); refine p_icmp_eq (tgt := 83) dX9_isSound_50 (by decide) (fun h50 => ?_) (fun h50 => ?_)) | ((with_reducible refine mk_ms ?_); refine s_icmp_eq (tgt := 83) dX9_isSound_50 (by decide) (by omega) (fun h50 => ?_) (fun h50 => ?_)) | ((with_reducible refine mk_mn ?_); refine q_icmp_eq (tgt := 83) dX9_isSound_50 (by decide) (by omega) (fun h50 => ?_) (fun h50 => ?_)) | ((with_reducible refine mk_nn ?_); refine n_icmp_eq (tgt := 83) dX9_isSound_50 (by decide) (by omega) (by omega) (fun h50 => ?_) (fun h50 => ?_)) | refine e_icmp_eq (tgt := 83) dX9_isSound_50 (by decide) (fun h50 => ?_) (fun h50 => ?_)
                · try first | contradiction | omega
                  all_goals
                    refine e_iconst (v := nI 0) dX9_isSound_83 rfl ?_
                    refine e_istore dX9_isSound_84 (Nat.le_of_ble_eq_true rfl) rfl ?_
                    refine e_iload dX9_isSound_86 rfl ?_
                    first | ((with_reducible refine mk_b ?_); refine b_if_ne (tgt := 118) dX9_isSound_88 (by decide) (fun h88 => ?_) (fun h88 => ?_)) | ((with_reducible refine mk_ll ?_); refine m_if_ne (tgt := 118) dX9_isSound_88 (by decide) (by omega) (by omega) (fun h88 => ?_) (fun h88 => ?_)) | ((with_reducible refine mk_lc ?_); refine l_if_ne (tgt := 118) dX9_isSound_88 (by decide) (fun h88 => ?_) (fun h88 => ?_)) | ((with_reducible refine mk_n ?_); refine n_if_ne (tgt := 118) dX9_isSound_88 (by decide) (by omega) (fun h88 => ?_) (fun h88 => ?_)) | refine e_if_ne (tgt := 118) dX9_isSound_88 (by decide) (fun h88 => ?_) (fun h88 => ?_)
                    · try first | contradiction | omega | (simp only [decide_eq_true_eq, decide_eq_false_iff_not] at h88; omega)
                      all_goals
                        first | refine n_inc dX9_isSound_118 rfl (Nat.le_of_ble_eq_true rfl) rfl ?_ | refine e_iinc dX9_isSound_118 rfl rfl (Nat.le_of_ble_eq_true rfl) rfl ?_
                        refine e_goto (tgt := 29) dX9_isSound_121 (by decide) ?_
                        exact ih2 (nx (by rw [e, eb]; simp; omega)) _
                    · try first | contradiction | omega | (simp only [decide_eq_true_eq, decide_eq_false_iff_not] at h88; omega)
                      all_goals
                        refine e_aload_n dX9_isSound_91 rfl rfl ?_
                        refine e_iload_n dX9_isSound_92 rfl rfl ?_
                        refine e_aload_n dX9_isSound_93 rfl rfl ?_
                        refine e_getR dX9_isSound_94 fl_X9_21 rfl (cm_map cm) ?_
                        refine e_getR dX9_isSound_97 fl_X9_82 rfl (by first | exact cm_tlo cm | exact cm_ctlo cm (by omega) | assumption) ?_
                        refine e_iload_n dX9_isSound_100 rfl rfl ?_
                        refine e_iadE _ dX9_isSound_101 ⟨by decide, by decide⟩ rfl rfl (by simp only [lenK]; omega) (by first | exact k_lo hK (by first | omega | (simp (disch := omega) only [upN_n, upN_s]; omega)) | exact k_clo hK (by omega) (by first | omega | (simp (disch := omega) only [upN_n, upN_s]; omega)) | assumption) ?_
                        refine e_aload_n dX9_isSound_102 rfl rfl ?_
                        refine e_getR dX9_isSound_103 fl_X9_21 rfl (cm_map cm) ?_
                        refine e_iload_n dX9_isSound_106 rfl rfl ?_
                        refine x_V1 (M' := mX8_endOf) dX9_isSound_107 ml_X9_85 ok_X8_endOf (by decide) rfl im_X8_endOf se_X8_endOf (ct_X8_endOf cm iv hK (by omega)) (Nat.le_of_ble_eq_true rfl) (by decide) (Nat.le_of_ble_eq_true rfl) ?_
                        refine x_V3 (M' := mX9_valuesIn) dX9_isSound_110 ml_X9_89 ok_X9_valuesIn (by decide) rfl im_X9_valuesIn se_X9_valuesIn (ct_X9_valuesIn cm iv hK (by omega) (by omega) (by omega)) (Nat.le_of_ble_eq_true rfl) (by decide) (Nat.le_of_ble_eq_true rfl) ?_
                        first | ((with_reducible refine mk_ll ?_); refine m_if_le (tgt := 118) dX9_isSound_113 (by decide) (by omega) (by omega) (fun h113 => ?_) (fun h113 => ?_)) | ((with_reducible refine mk_lc ?_); refine l_if_le (tgt := 118) dX9_isSound_113 (by decide) (fun h113 => ?_) (fun h113 => ?_)) | ((with_reducible refine mk_n ?_); refine n_if_le (tgt := 118) dX9_isSound_113 (by decide) (by omega) (fun h113 => ?_) (fun h113 => ?_)) | refine e_if_le (tgt := 118) dX9_isSound_113 (by decide) (fun h113 => ?_) (fun h113 => ?_)
                        · try first | contradiction | omega
                          all_goals
                            first | refine n_inc dX9_isSound_118 rfl (Nat.le_of_ble_eq_true rfl) rfl ?_ | refine e_iinc dX9_isSound_118 rfl rfl (Nat.le_of_ble_eq_true rfl) rfl ?_
                            refine e_goto (tgt := 29) dX9_isSound_121 (by decide) ?_
                            exact ih2 (nx (by rw [e, eb]; simp; omega)) _
                        · try first | contradiction | omega
                          all_goals
                            refine e_iconst (v := nI 0) dX9_isSound_116 rfl ?_
                            first | ((with_reducible refine mk_b ?_); refine e_ret (some _) rfl (r_bool dX9_isSound_117 rfl) ?_) | ((with_reducible refine mk_n1 ?_); refine e_ret (some _) rfl (r_b1 dX9_isSound_117 rfl) ?_) | ((with_reducible refine mk_n0 ?_); refine e_ret (some _) rfl (r_b0 dX9_isSound_117 rfl) ?_)
                            refine xq ?_ rfl rfl rfl rfl rfl
                            unfold soC
                            rw [fO_eq (i := i) (fun q hq => hn q hq) (by show (fO (sdS w i) 6).isSome = true; rw [fO_eq (i := s) hn2 (by rw [e, eb]; simp; omega) hs]; rfl) hi]
                            rfl
                · try first | contradiction | omega
                  all_goals
                    refine e_iload_n dX9_isSound_53 rfl rfl ?_
                    refine e_aload_n dX9_isSound_54 rfl rfl ?_
                    refine e_getR dX9_isSound_55 fl_X9_31 rfl (cm_mvs cm) ?_
                    refine e_iload_n dX9_isSound_58 rfl rfl ?_
                    refine e_aald _ dX9_isSound_59 ⟨by decide, by decide⟩ rfl rfl (by simp only [lenK]; omega) (cm_mo cm (by omega)) ?_
                    refine e_getE dX9_isSound_60 fl_X9_96 rfl (k_m5 hK (by first | omega | (simp (disch := omega) only [upN_n, upN_s]; omega))) ?_
                    first | ((with_reducible refine mk_mo ?_); refine p_icmp_eq (tgt := 79) dX9_isSound_63 (by decide) (fun h63 => ?_) (fun h63 => ?_)) | ((with_reducible refine mk_ms ?_); refine s_icmp_eq (tgt := 79) dX9_isSound_63 (by decide) (by omega) (fun h63 => ?_) (fun h63 => ?_)) | ((with_reducible refine mk_mn ?_); refine q_icmp_eq (tgt := 79) dX9_isSound_63 (by decide) (by omega) (fun h63 => ?_) (fun h63 => ?_)) | ((with_reducible refine mk_nn ?_); refine n_icmp_eq (tgt := 79) dX9_isSound_63 (by decide) (by omega) (by omega) (fun h63 => ?_) (fun h63 => ?_)) | refine e_icmp_eq (tgt := 79) dX9_isSound_63 (by decide) (fun h63 => ?_) (fun h63 => ?_)
                    · try first | contradiction | omega
                      all_goals
                        refine e_iconst (v := nI 1) dX9_isSound_79 rfl ?_
                        refine e_goto (tgt := 84) dX9_isSound_80 (by decide) ?_
                        refine e_istore dX9_isSound_84 (Nat.le_of_ble_eq_true rfl) rfl ?_
                        refine e_iload dX9_isSound_86 rfl ?_
                        first | ((with_reducible refine mk_b ?_); refine b_if_ne (tgt := 118) dX9_isSound_88 (by decide) (fun h88 => ?_) (fun h88 => ?_)) | ((with_reducible refine mk_ll ?_); refine m_if_ne (tgt := 118) dX9_isSound_88 (by decide) (by omega) (by omega) (fun h88 => ?_) (fun h88 => ?_)) | ((with_reducible refine mk_lc ?_); refine l_if_ne (tgt := 118) dX9_isSound_88 (by decide) (fun h88 => ?_) (fun h88 => ?_)) | ((with_reducible refine mk_n ?_); refine n_if_ne (tgt := 118) dX9_isSound_88 (by decide) (by omega) (fun h88 => ?_) (fun h88 => ?_)) | refine e_if_ne (tgt := 118) dX9_isSound_88 (by decide) (fun h88 => ?_) (fun h88 => ?_)
                        · try first | contradiction | omega | (simp only [decide_eq_true_eq, decide_eq_false_iff_not] at h88; omega)
                          all_goals
                            first | refine n_inc dX9_isSound_118 rfl (Nat.le_of_ble_eq_true rfl) rfl ?_ | refine e_iinc dX9_isSound_118 rfl rfl (Nat.le_of_ble_eq_true rfl) rfl ?_
                            refine e_goto (tgt := 29) dX9_isSound_121 (by decide) ?_
                            exact ih2 (nx (by rw [e, eb]; simp; omega)) _
                        · try first | contradiction | omega | (simp only [decide_eq_true_eq, decide_eq_false_iff_not] at h88; omega)
                          all_goals
                            refine e_aload_n dX9_isSound_91 rfl rfl ?_
                            refine e_iload_n dX9_isSound_92 rfl rfl ?_
                            refine e_aload_n dX9_isSound_93 rfl rfl ?_
                            refine e_getR dX9_isSound_94 fl_X9_21 rfl (cm_map cm) ?_
                            refine e_getR dX9_isSound_97 fl_X9_82 rfl (by first | exact cm_tlo cm | exact cm_ctlo cm (by omega) | assumption) ?_
                            refine e_iload_n dX9_isSound_100 rfl rfl ?_
                            refine e_iadE _ dX9_isSound_101 ⟨by decide, by decide⟩ rfl rfl (by simp only [lenK]; omega) (by first | exact k_lo hK (by first | omega | (simp (disch := omega) only [upN_n, upN_s]; omega)) | exact k_clo hK (by omega) (by first | omega | (simp (disch := omega) only [upN_n, upN_s]; omega)) | assumption) ?_
                            refine e_aload_n dX9_isSound_102 rfl rfl ?_
                            refine e_getR dX9_isSound_103 fl_X9_21 rfl (cm_map cm) ?_
                            refine e_iload_n dX9_isSound_106 rfl rfl ?_
                            refine x_V1 (M' := mX8_endOf) dX9_isSound_107 ml_X9_85 ok_X8_endOf (by decide) rfl im_X8_endOf se_X8_endOf (ct_X8_endOf cm iv hK (by omega)) (Nat.le_of_ble_eq_true rfl) (by decide) (Nat.le_of_ble_eq_true rfl) ?_
                            refine x_V3 (M' := mX9_valuesIn) dX9_isSound_110 ml_X9_89 ok_X9_valuesIn (by decide) rfl im_X9_valuesIn se_X9_valuesIn (ct_X9_valuesIn cm iv hK (by omega) (by omega) (by omega)) (Nat.le_of_ble_eq_true rfl) (by decide) (Nat.le_of_ble_eq_true rfl) ?_
                            first | ((with_reducible refine mk_ll ?_); refine m_if_le (tgt := 118) dX9_isSound_113 (by decide) (by omega) (by omega) (fun h113 => ?_) (fun h113 => ?_)) | ((with_reducible refine mk_lc ?_); refine l_if_le (tgt := 118) dX9_isSound_113 (by decide) (fun h113 => ?_) (fun h113 => ?_)) | ((with_reducible refine mk_n ?_); refine n_if_le (tgt := 118) dX9_isSound_113 (by decide) (by omega) (fun h113 => ?_) (fun h113 => ?_)) | refine e_if_le (tgt := 118) dX9_isSound_113 (by decide) (fun h113 => ?_) (fun h113 => ?_)
                            · try first | contradiction | omega
                              all_goals
                                first | refine n_inc dX9_isSound_118 rfl (Nat.le_of_ble_eq_true rfl) rfl ?_ | refine e_iinc dX9_isSound_118 rfl rfl (Nat.le_of_ble_eq_true rfl) rfl ?_
                                refine e_goto (tgt := 29) dX9_isSound_121 (by decide) ?_
                                exact ih2 (nx (by rw [e, eb]; simp; omega)) _
                            · try first | contradiction | omega
                              all_goals
                                refine e_iconst (v := nI 0) dX9_isSound_116 rfl ?_
                                first | ((with_reducible refine mk_b ?_); refine e_ret (some _) rfl (r_bool dX9_isSound_117 rfl) ?_) | ((with_reducible refine mk_n1 ?_); refine e_ret (some _) rfl (r_b1 dX9_isSound_117 rfl) ?_) | ((with_reducible refine mk_n0 ?_); refine e_ret (some _) rfl (r_b0 dX9_isSound_117 rfl) ?_)
                                refine xq ?_ rfl rfl rfl rfl rfl
                                unfold soC
                                rw [fO_eq (i := i) (fun q hq => hn q hq) (by show (fO (sdS w i) 6).isSome = true; rw [fO_eq (i := s) hn2 (by rw [e, eb]; simp; omega) hs]; rfl) hi]
                                rfl
                    · try first | contradiction | omega
                      all_goals
                        refine e_iload_n dX9_isSound_66 rfl rfl ?_
                        refine e_aload_n dX9_isSound_67 rfl rfl ?_
                        refine e_getR dX9_isSound_68 fl_X9_31 rfl (cm_mvs cm) ?_
                        refine e_iload_n dX9_isSound_71 rfl rfl ?_
                        refine e_aald _ dX9_isSound_72 ⟨by decide, by decide⟩ rfl rfl (by simp only [lenK]; omega) (cm_mo cm (by omega)) ?_
                        refine e_getE dX9_isSound_73 fl_X9_99 rfl (k_m6 hK (by first | omega | (simp (disch := omega) only [upN_n, upN_s]; omega))) ?_
                        first | ((with_reducible refine mk_mo ?_); refine p_icmp_ne (tgt := 83) dX9_isSound_76 (by decide) (fun h76 => ?_) (fun h76 => ?_)) | ((with_reducible refine mk_ms ?_); refine s_icmp_ne (tgt := 83) dX9_isSound_76 (by decide) (by omega) (fun h76 => ?_) (fun h76 => ?_)) | ((with_reducible refine mk_mn ?_); refine q_icmp_ne (tgt := 83) dX9_isSound_76 (by decide) (by omega) (fun h76 => ?_) (fun h76 => ?_)) | ((with_reducible refine mk_nn ?_); refine n_icmp_ne (tgt := 83) dX9_isSound_76 (by decide) (by omega) (by omega) (fun h76 => ?_) (fun h76 => ?_)) | refine e_icmp_ne (tgt := 83) dX9_isSound_76 (by decide) (fun h76 => ?_) (fun h76 => ?_)
                        · try first | contradiction | omega
                          all_goals
                            refine e_iconst (v := nI 0) dX9_isSound_83 rfl ?_
                            refine e_istore dX9_isSound_84 (Nat.le_of_ble_eq_true rfl) rfl ?_
                            refine e_iload dX9_isSound_86 rfl ?_
                            first | ((with_reducible refine mk_b ?_); refine b_if_ne (tgt := 118) dX9_isSound_88 (by decide) (fun h88 => ?_) (fun h88 => ?_)) | ((with_reducible refine mk_ll ?_); refine m_if_ne (tgt := 118) dX9_isSound_88 (by decide) (by omega) (by omega) (fun h88 => ?_) (fun h88 => ?_)) | ((with_reducible refine mk_lc ?_); refine l_if_ne (tgt := 118) dX9_isSound_88 (by decide) (fun h88 => ?_) (fun h88 => ?_)) | ((with_reducible refine mk_n ?_); refine n_if_ne (tgt := 118) dX9_isSound_88 (by decide) (by omega) (fun h88 => ?_) (fun h88 => ?_)) | refine e_if_ne (tgt := 118) dX9_isSound_88 (by decide) (fun h88 => ?_) (fun h88 => ?_)
                            · try first | contradiction | omega | (simp only [decide_eq_true_eq, decide_eq_false_iff_not] at h88; omega)
                              all_goals
                                first | refine n_inc dX9_isSound_118 rfl (Nat.le_of_ble_eq_true rfl) rfl ?_ | refine e_iinc dX9_isSound_118 rfl rfl (Nat.le_of_ble_eq_true rfl) rfl ?_
                                refine e_goto (tgt := 29) dX9_isSound_121 (by decide) ?_
                                exact ih2 (nx (by rw [e, eb]; simp; omega)) _
                            · try first | contradiction | omega | (simp only [decide_eq_true_eq, decide_eq_false_iff_not] at h88; omega)
                              all_goals
                                refine e_aload_n dX9_isSound_91 rfl rfl ?_
                                refine e_iload_n dX9_isSound_92 rfl rfl ?_
                                refine e_aload_n dX9_isSound_93 rfl rfl ?_
                                refine e_getR dX9_isSound_94 fl_X9_21 rfl (cm_map cm) ?_
                                refine e_getR dX9_isSound_97 fl_X9_82 rfl (by first | exact cm_tlo cm | exact cm_ctlo cm (by omega) | assumption) ?_
                                refine e_iload_n dX9_isSound_100 rfl rfl ?_
                                refine e_iadE _ dX9_isSound_101 ⟨by decide, by decide⟩ rfl rfl (by simp only [lenK]; omega) (by first | exact k_lo hK (by first | omega | (simp (disch := omega) only [upN_n, upN_s]; omega)) | exact k_clo hK (by omega) (by first | omega | (simp (disch := omega) only [upN_n, upN_s]; omega)) | assumption) ?_
                                refine e_aload_n dX9_isSound_102 rfl rfl ?_
                                refine e_getR dX9_isSound_103 fl_X9_21 rfl (cm_map cm) ?_
                                refine e_iload_n dX9_isSound_106 rfl rfl ?_
                                refine x_V1 (M' := mX8_endOf) dX9_isSound_107 ml_X9_85 ok_X8_endOf (by decide) rfl im_X8_endOf se_X8_endOf (ct_X8_endOf cm iv hK (by omega)) (Nat.le_of_ble_eq_true rfl) (by decide) (Nat.le_of_ble_eq_true rfl) ?_
                                refine x_V3 (M' := mX9_valuesIn) dX9_isSound_110 ml_X9_89 ok_X9_valuesIn (by decide) rfl im_X9_valuesIn se_X9_valuesIn (ct_X9_valuesIn cm iv hK (by omega) (by omega) (by omega)) (Nat.le_of_ble_eq_true rfl) (by decide) (Nat.le_of_ble_eq_true rfl) ?_
                                first | ((with_reducible refine mk_ll ?_); refine m_if_le (tgt := 118) dX9_isSound_113 (by decide) (by omega) (by omega) (fun h113 => ?_) (fun h113 => ?_)) | ((with_reducible refine mk_lc ?_); refine l_if_le (tgt := 118) dX9_isSound_113 (by decide) (fun h113 => ?_) (fun h113 => ?_)) | ((with_reducible refine mk_n ?_); refine n_if_le (tgt := 118) dX9_isSound_113 (by decide) (by omega) (fun h113 => ?_) (fun h113 => ?_)) | refine e_if_le (tgt := 118) dX9_isSound_113 (by decide) (fun h113 => ?_) (fun h113 => ?_)
                                · try first | contradiction | omega
                                  all_goals
                                    first | refine n_inc dX9_isSound_118 rfl (Nat.le_of_ble_eq_true rfl) rfl ?_ | refine e_iinc dX9_isSound_118 rfl rfl (Nat.le_of_ble_eq_true rfl) rfl ?_
                                    refine e_goto (tgt := 29) dX9_isSound_121 (by decide) ?_
                                    exact ih2 (nx (by rw [e, eb]; simp; omega)) _
                                · try first | contradiction | omega
                                  all_goals
                                    refine e_iconst (v := nI 0) dX9_isSound_116 rfl ?_
                                    first | ((with_reducible refine mk_b ?_); refine e_ret (some _) rfl (r_bool dX9_isSound_117 rfl) ?_) | ((with_reducible refine mk_n1 ?_); refine e_ret (some _) rfl (r_b1 dX9_isSound_117 rfl) ?_) | ((with_reducible refine mk_n0 ?_); refine e_ret (some _) rfl (r_b0 dX9_isSound_117 rfl) ?_)
                                    refine xq ?_ rfl rfl rfl rfl rfl
                                    unfold soC
                                    rw [fO_eq (i := i) (fun q hq => hn q hq) (by show (fO (sdS w i) 6).isSome = true; rw [fO_eq (i := s) hn2 (by rw [e, eb]; simp; omega) hs]; rfl) hi]
                                    rfl
                        · try first | contradiction | omega
                          all_goals
                            refine e_iconst (v := nI 1) dX9_isSound_79 rfl ?_
                            refine e_goto (tgt := 84) dX9_isSound_80 (by decide) ?_
                            refine e_istore dX9_isSound_84 (Nat.le_of_ble_eq_true rfl) rfl ?_
                            refine e_iload dX9_isSound_86 rfl ?_
                            first | ((with_reducible refine mk_b ?_); refine b_if_ne (tgt := 118) dX9_isSound_88 (by decide) (fun h88 => ?_) (fun h88 => ?_)) | ((with_reducible refine mk_ll ?_); refine m_if_ne (tgt := 118) dX9_isSound_88 (by decide) (by omega) (by omega) (fun h88 => ?_) (fun h88 => ?_)) | ((with_reducible refine mk_lc ?_); refine l_if_ne (tgt := 118) dX9_isSound_88 (by decide) (fun h88 => ?_) (fun h88 => ?_)) | ((with_reducible refine mk_n ?_); refine n_if_ne (tgt := 118) dX9_isSound_88 (by decide) (by omega) (fun h88 => ?_) (fun h88 => ?_)) | refine e_if_ne (tgt := 118) dX9_isSound_88 (by decide) (fun h88 => ?_) (fun h88 => ?_)
                            · try first | contradiction | omega | (simp only [decide_eq_true_eq, decide_eq_false_iff_not] at h88; omega)
                              all_goals
                                first | refine n_inc dX9_isSound_118 rfl (Nat.le_of_ble_eq_true rfl) rfl ?_ | refine e_iinc dX9_isSound_118 rfl rfl (Nat.le_of_ble_eq_true rfl) rfl ?_
                                refine e_goto (tgt := 29) dX9_isSound_121 (by decide) ?_
                                exact ih2 (nx (by rw [e, eb]; simp; omega)) _
                            · try first | contradiction | omega | (simp only [decide_eq_true_eq, decide_eq_false_iff_not] at h88; omega)
                              all_goals
                                refine e_aload_n dX9_isSound_91 rfl rfl ?_
                                refine e_iload_n dX9_isSound_92 rfl rfl ?_
                                refine e_aload_n dX9_isSound_93 rfl rfl ?_
                                refine e_getR dX9_isSound_94 fl_X9_21 rfl (cm_map cm) ?_
                                refine e_getR dX9_isSound_97 fl_X9_82 rfl (by first | exact cm_tlo cm | exact cm_ctlo cm (by omega) | assumption) ?_
                                refine e_iload_n dX9_isSound_100 rfl rfl ?_
                                refine e_iadE _ dX9_isSound_101 ⟨by decide, by decide⟩ rfl rfl (by simp only [lenK]; omega) (by first | exact k_lo hK (by first | omega | (simp (disch := omega) only [upN_n, upN_s]; omega)) | exact k_clo hK (by omega) (by first | omega | (simp (disch := omega) only [upN_n, upN_s]; omega)) | assumption) ?_
                                refine e_aload_n dX9_isSound_102 rfl rfl ?_
                                refine e_getR dX9_isSound_103 fl_X9_21 rfl (cm_map cm) ?_
                                refine e_iload_n dX9_isSound_106 rfl rfl ?_
                                refine x_V1 (M' := mX8_endOf) dX9_isSound_107 ml_X9_85 ok_X8_endOf (by decide) rfl im_X8_endOf se_X8_endOf (ct_X8_endOf cm iv hK (by omega)) (Nat.le_of_ble_eq_true rfl) (by decide) (Nat.le_of_ble_eq_true rfl) ?_
                                refine x_V3 (M' := mX9_valuesIn) dX9_isSound_110 ml_X9_89 ok_X9_valuesIn (by decide) rfl im_X9_valuesIn se_X9_valuesIn (ct_X9_valuesIn cm iv hK (by omega) (by omega) (by omega)) (Nat.le_of_ble_eq_true rfl) (by decide) (Nat.le_of_ble_eq_true rfl) ?_
                                first | ((with_reducible refine mk_ll ?_); refine m_if_le (tgt := 118) dX9_isSound_113 (by decide) (by omega) (by omega) (fun h113 => ?_) (fun h113 => ?_)) | ((with_reducible refine mk_lc ?_); refine l_if_le (tgt := 118) dX9_isSound_113 (by decide) (fun h113 => ?_) (fun h113 => ?_)) | ((with_reducible refine mk_n ?_); refine n_if_le (tgt := 118) dX9_isSound_113 (by decide) (by omega) (fun h113 => ?_) (fun h113 => ?_)) | refine e_if_le (tgt := 118) dX9_isSound_113 (by decide) (fun h113 => ?_) (fun h113 => ?_)
                                · try first | contradiction | omega
                                  all_goals
                                    first | refine n_inc dX9_isSound_118 rfl (Nat.le_of_ble_eq_true rfl) rfl ?_ | refine e_iinc dX9_isSound_118 rfl rfl (Nat.le_of_ble_eq_true rfl) rfl ?_
                                    refine e_goto (tgt := 29) dX9_isSound_121 (by decide) ?_
                                    exact ih2 (nx (by rw [e, eb]; simp; omega)) _
                                · try first | contradiction | omega
                                  all_goals
                                    refine e_iconst (v := nI 0) dX9_isSound_116 rfl ?_
                                    first | ((with_reducible refine mk_b ?_); refine e_ret (some _) rfl (r_bool dX9_isSound_117 rfl) ?_) | ((with_reducible refine mk_n1 ?_); refine e_ret (some _) rfl (r_b1 dX9_isSound_117 rfl) ?_) | ((with_reducible refine mk_n0 ?_); refine e_ret (some _) rfl (r_b0 dX9_isSound_117 rfl) ?_)
                                    refine xq ?_ rfl rfl rfl rfl rfl
                                    unfold soC
                                    rw [fO_eq (i := i) (fun q hq => hn q hq) (by show (fO (sdS w i) 6).isSome = true; rw [fO_eq (i := s) hn2 (by rw [e, eb]; simp; omega) hs]; rfl) hi]
                                    rfl
      ) (fun hn2 z => by
      refine e_iload_n dX9_isSound_29 rfl rfl ?_
      refine e_bipush (v := nI 6) dX9_isSound_30 rfl ?_
      first | ((with_reducible refine mk_nn ?_); refine n_icmp_ge (tgt := 124) dX9_isSound_32 (by decide) (by omega) (by omega) (fun h32 => ?_) (fun h32 => ?_)) | refine e_icmp_ge (tgt := 124) dX9_isSound_32 (by decide) (fun h32 => ?_) (fun h32 => ?_)
      · try first | contradiction | omega
        all_goals
          first | refine n_inc dX9_isSound_124 rfl (Nat.le_of_ble_eq_true rfl) rfl ?_ | refine e_iinc dX9_isSound_124 rfl rfl (Nat.le_of_ble_eq_true rfl) rfl ?_
          refine e_goto (tgt := 2) dX9_isSound_127 (by decide) ?_
          refine ih (fun q hq => ?_) _ _ _
          by_cases e2 : q = i
          · rw [e2, fO_no hn2]; rfl
          · exact hn q (by omega)
      · try first | contradiction | omega
        all_goals
          refine e_iload_n dX9_isSound_35 rfl rfl ?_
          refine e_aload_n dX9_isSound_36 rfl rfl ?_
          refine e_getR dX9_isSound_37 fl_X9_21 rfl (cm_map cm) ?_
          refine e_getR dX9_isSound_40 fl_X9_79 rfl (by first | exact cm_tow cm | exact cm_ctow cm (by omega) | assumption) ?_
          refine e_iload_n dX9_isSound_43 rfl rfl ?_
          refine e_iadE _ dX9_isSound_44 ⟨by decide, by decide⟩ rfl rfl (by simp only [lenK]; omega) (by first | exact k_ow hK (by first | omega | (simp (disch := omega) only [upN_n, upN_s]; omega)) | exact k_cow hK (by omega) (by first | omega | (simp (disch := omega) only [upN_n, upN_s]; omega)) | assumption) ?_
          first | ((with_reducible refine mk_mo ?_); refine p_icmp_eq (tgt := 79) dX9_isSound_45 (by decide) (fun h45 => ?_) (fun h45 => ?_)) | ((with_reducible refine mk_ms ?_); refine s_icmp_eq (tgt := 79) dX9_isSound_45 (by decide) (by omega) (fun h45 => ?_) (fun h45 => ?_)) | ((with_reducible refine mk_mn ?_); refine q_icmp_eq (tgt := 79) dX9_isSound_45 (by decide) (by omega) (fun h45 => ?_) (fun h45 => ?_)) | ((with_reducible refine mk_nn ?_); refine n_icmp_eq (tgt := 79) dX9_isSound_45 (by decide) (by omega) (by omega) (fun h45 => ?_) (fun h45 => ?_)) | refine e_icmp_eq (tgt := 79) dX9_isSound_45 (by decide) (fun h45 => ?_) (fun h45 => ?_)
          · try first | contradiction | omega
            all_goals
              refine e_iconst (v := nI 1) dX9_isSound_79 rfl ?_
              refine e_goto (tgt := 84) dX9_isSound_80 (by decide) ?_
              refine e_istore dX9_isSound_84 (Nat.le_of_ble_eq_true rfl) rfl ?_
              refine e_iload dX9_isSound_86 rfl ?_
              first | ((with_reducible refine mk_b ?_); refine b_if_ne (tgt := 118) dX9_isSound_88 (by decide) (fun h88 => ?_) (fun h88 => ?_)) | ((with_reducible refine mk_ll ?_); refine m_if_ne (tgt := 118) dX9_isSound_88 (by decide) (by omega) (by omega) (fun h88 => ?_) (fun h88 => ?_)) | ((with_reducible refine mk_lc ?_); refine l_if_ne (tgt := 118) dX9_isSound_88 (by decide) (fun h88 => ?_) (fun h88 => ?_)) | ((with_reducible refine mk_n ?_); refine n_if_ne (tgt := 118) dX9_isSound_88 (by decide) (by omega) (fun h88 => ?_) (fun h88 => ?_)) | refine e_if_ne (tgt := 118) dX9_isSound_88 (by decide) (fun h88 => ?_) (fun h88 => ?_)
              · try first | contradiction | omega | (simp only [decide_eq_true_eq, decide_eq_false_iff_not] at h88; omega)
                all_goals
                  first | refine n_inc dX9_isSound_118 rfl (Nat.le_of_ble_eq_true rfl) rfl ?_ | refine e_iinc dX9_isSound_118 rfl rfl (Nat.le_of_ble_eq_true rfl) rfl ?_
                  refine e_goto (tgt := 29) dX9_isSound_121 (by decide) ?_
                  contradiction
              · try first | contradiction | omega | (simp only [decide_eq_true_eq, decide_eq_false_iff_not] at h88; omega)
                all_goals
                  refine e_aload_n dX9_isSound_91 rfl rfl ?_
                  refine e_iload_n dX9_isSound_92 rfl rfl ?_
                  refine e_aload_n dX9_isSound_93 rfl rfl ?_
                  refine e_getR dX9_isSound_94 fl_X9_21 rfl (cm_map cm) ?_
                  refine e_getR dX9_isSound_97 fl_X9_82 rfl (by first | exact cm_tlo cm | exact cm_ctlo cm (by omega) | assumption) ?_
                  refine e_iload_n dX9_isSound_100 rfl rfl ?_
                  refine e_iadE _ dX9_isSound_101 ⟨by decide, by decide⟩ rfl rfl (by simp only [lenK]; omega) (by first | exact k_lo hK (by first | omega | (simp (disch := omega) only [upN_n, upN_s]; omega)) | exact k_clo hK (by omega) (by first | omega | (simp (disch := omega) only [upN_n, upN_s]; omega)) | assumption) ?_
                  refine e_aload_n dX9_isSound_102 rfl rfl ?_
                  refine e_getR dX9_isSound_103 fl_X9_21 rfl (cm_map cm) ?_
                  refine e_iload_n dX9_isSound_106 rfl rfl ?_
                  refine x_V1 (M' := mX8_endOf) dX9_isSound_107 ml_X9_85 ok_X8_endOf (by decide) rfl im_X8_endOf se_X8_endOf (ct_X8_endOf cm iv hK (by omega)) (Nat.le_of_ble_eq_true rfl) (by decide) (Nat.le_of_ble_eq_true rfl) ?_
                  refine x_V3 (M' := mX9_valuesIn) dX9_isSound_110 ml_X9_89 ok_X9_valuesIn (by decide) rfl im_X9_valuesIn se_X9_valuesIn (ct_X9_valuesIn cm iv hK (by omega) (by omega) (by omega)) (Nat.le_of_ble_eq_true rfl) (by decide) (Nat.le_of_ble_eq_true rfl) ?_
                  first | ((with_reducible refine mk_ll ?_); refine m_if_le (tgt := 118) dX9_isSound_113 (by decide) (by omega) (by omega) (fun h113 => ?_) (fun h113 => ?_)) | ((with_reducible refine mk_lc ?_); refine l_if_le (tgt := 118) dX9_isSound_113 (by decide) (fun h113 => ?_) (fun h113 => ?_)) | ((with_reducible refine mk_n ?_); refine n_if_le (tgt := 118) dX9_isSound_113 (by decide) (by omega) (fun h113 => ?_) (fun h113 => ?_)) | refine e_if_le (tgt := 118) dX9_isSound_113 (by decide) (fun h113 => ?_) (fun h113 => ?_)
                  · try first | contradiction | omega
                    all_goals
                      first | refine n_inc dX9_isSound_118 rfl (Nat.le_of_ble_eq_true rfl) rfl ?_ | refine e_iinc dX9_isSound_118 rfl rfl (Nat.le_of_ble_eq_true rfl) rfl ?_
                      refine e_goto (tgt := 29) dX9_isSound_121 (by decide) ?_
                      contradiction
                  · try first | contradiction | omega
                    all_goals
                      refine e_iconst (v := nI 0) dX9_isSound_116 rfl ?_
                      first | ((with_reducible refine mk_b ?_); refine e_ret (some _) rfl (r_bool dX9_isSound_117 rfl) ?_) | ((with_reducible refine mk_n1 ?_); refine e_ret (some _) rfl (r_b1 dX9_isSound_117 rfl) ?_) | ((with_reducible refine mk_n0 ?_); refine e_ret (some _) rfl (r_b0 dX9_isSound_117 rfl) ?_)
                      refine xq ?_ rfl rfl rfl rfl rfl
                      unfold soC
                      rw [fO_eq (i := i) (fun q hq => hn q hq) (by show (fO (sdS w i) 6).isSome = true; rw [fO_eq (i := s) hn2 (by rw [e, eb]; simp; omega) hs]; rfl) hi]
                      rfl
          · try first | contradiction | omega
            all_goals
              refine e_iload_n dX9_isSound_48 rfl rfl ?_
              refine e_iconst (v := -1) dX9_isSound_49 rfl ?_
              first | ((with_reducible refine mk_mo ?_); refine p_icmp_eq (tgt := 83) dX9_isSound_50 (by decide) (fun h50 => ?_) (fun h50 => ?_)) | ((with_reducible refine mk_ms ?_); refine s_icmp_eq (tgt := 83) dX9_isSound_50 (by decide) (by omega) (fun h50 => ?_) (fun h50 => ?_)) | ((with_reducible refine mk_mn ?_); refine q_icmp_eq (tgt := 83) dX9_isSound_50 (by decide) (by omega) (fun h50 => ?_) (fun h50 => ?_)) | ((with_reducible refine mk_nn ?_); refine n_icmp_eq (tgt := 83) dX9_isSound_50 (by decide) (by omega) (by omega) (fun h50 => ?_) (fun h50 => ?_)) | refine e_icmp_eq (tgt := 83) dX9_isSound_50 (by decide) (fun h50 => ?_) (fun h50 => ?_)
              · try first | contradiction | omega
                all_goals
                  refine e_iconst (v := nI 0) dX9_isSound_83 rfl ?_
                  refine e_istore dX9_isSound_84 (Nat.le_of_ble_eq_true rfl) rfl ?_
                  refine e_iload dX9_isSound_86 rfl ?_
                  first | ((with_reducible refine mk_b ?_); refine b_if_ne (tgt := 118) dX9_isSound_88 (by decide) (fun h88 => ?_) (fun h88 => ?_)) | ((with_reducible refine mk_ll ?_); refine m_if_ne (tgt := 118) dX9_isSound_88 (by decide) (by omega) (by omega) (fun h88 => ?_) (fun h88 => ?_)) | ((with_reducible refine mk_lc ?_); refine l_if_ne (tgt := 118) dX9_isSound_88 (by decide) (fun h88 => ?_) (fun h88 => ?_)) | ((with_reducible refine mk_n ?_); refine n_if_ne (tgt := 118) dX9_isSound_88 (by decide) (by omega) (fun h88 => ?_) (fun h88 => ?_)) | refine e_if_ne (tgt := 118) dX9_isSound_88 (by decide) (fun h88 => ?_) (fun h88 => ?_)
                  · try first | contradiction | omega | (simp only [decide_eq_true_eq, decide_eq_false_iff_not] at h88; omega)
                    all_goals
                      first | refine n_inc dX9_isSound_118 rfl (Nat.le_of_ble_eq_true rfl) rfl ?_ | refine e_iinc dX9_isSound_118 rfl rfl (Nat.le_of_ble_eq_true rfl) rfl ?_
                      refine e_goto (tgt := 29) dX9_isSound_121 (by decide) ?_
                      contradiction
                  · try first | contradiction | omega | (simp only [decide_eq_true_eq, decide_eq_false_iff_not] at h88; omega)
                    all_goals
                      refine e_aload_n dX9_isSound_91 rfl rfl ?_
                      refine e_iload_n dX9_isSound_92 rfl rfl ?_
                      refine e_aload_n dX9_isSound_93 rfl rfl ?_
                      refine e_getR dX9_isSound_94 fl_X9_21 rfl (cm_map cm) ?_
                      refine e_getR dX9_isSound_97 fl_X9_82 rfl (by first | exact cm_tlo cm | exact cm_ctlo cm (by omega) | assumption) ?_
                      refine e_iload_n dX9_isSound_100 rfl rfl ?_
                      refine e_iadE _ dX9_isSound_101 ⟨by decide, by decide⟩ rfl rfl (by simp only [lenK]; omega) (by first | exact k_lo hK (by first | omega | (simp (disch := omega) only [upN_n, upN_s]; omega)) | exact k_clo hK (by omega) (by first | omega | (simp (disch := omega) only [upN_n, upN_s]; omega)) | assumption) ?_
                      refine e_aload_n dX9_isSound_102 rfl rfl ?_
                      refine e_getR dX9_isSound_103 fl_X9_21 rfl (cm_map cm) ?_
                      refine e_iload_n dX9_isSound_106 rfl rfl ?_
                      refine x_V1 (M' := mX8_endOf) dX9_isSound_107 ml_X9_85 ok_X8_endOf (by decide) rfl im_X8_endOf se_X8_endOf (ct_X8_endOf cm iv hK (by omega)) (Nat.le_of_ble_eq_true rfl) (by decide) (Nat.le_of_ble_eq_true rfl) ?_
                      refine x_V3 (M' := mX9_valuesIn) dX9_isSound_110 ml_X9_89 ok_X9_valuesIn (by decide) rfl im_X9_valuesIn se_X9_valuesIn (ct_X9_valuesIn cm iv hK (by omega) (by omega) (by omega)) (Nat.le_of_ble_eq_true rfl) (by decide) (Nat.le_of_ble_eq_true rfl) ?_
                      first | ((with_reducible refine mk_ll ?_); refine m_if_le (tgt := 118) dX9_isSound_113 (by decide) (by omega) (by omega) (fun h113 => ?_) (fun h113 => ?_)) | ((with_reducible refine mk_lc ?_); refine l_if_le (tgt := 118) dX9_isSound_113 (by decide) (fun h113 => ?_) (fun h113 => ?_)) | ((with_reducible refine mk_n ?_); refine n_if_le (tgt := 118) dX9_isSound_113 (by decide) (by omega) (fun h113 => ?_) (fun h113 => ?_)) | refine e_if_le (tgt := 118) dX9_isSound_113 (by decide) (fun h113 => ?_) (fun h113 => ?_)
                      · try first | contradiction | omega
                        all_goals
                          first | refine n_inc dX9_isSound_118 rfl (Nat.le_of_ble_eq_true rfl) rfl ?_ | refine e_iinc dX9_isSound_118 rfl rfl (Nat.le_of_ble_eq_true rfl) rfl ?_
                          refine e_goto (tgt := 29) dX9_isSound_121 (by decide) ?_
                          contradiction
                      · try first | contradiction | omega
                        all_goals
                          refine e_iconst (v := nI 0) dX9_isSound_116 rfl ?_
                          first | ((with_reducible refine mk_b ?_); refine e_ret (some _) rfl (r_bool dX9_isSound_117 rfl) ?_) | ((with_reducible refine mk_n1 ?_); refine e_ret (some _) rfl (r_b1 dX9_isSound_117 rfl) ?_) | ((with_reducible refine mk_n0 ?_); refine e_ret (some _) rfl (r_b0 dX9_isSound_117 rfl) ?_)
                          refine xq ?_ rfl rfl rfl rfl rfl
                          unfold soC
                          rw [fO_eq (i := i) (fun q hq => hn q hq) (by show (fO (sdS w i) 6).isSome = true; rw [fO_eq (i := s) hn2 (by rw [e, eb]; simp; omega) hs]; rfl) hi]
                          rfl
              · try first | contradiction | omega
                all_goals
                  refine e_iload_n dX9_isSound_53 rfl rfl ?_
                  refine e_aload_n dX9_isSound_54 rfl rfl ?_
                  refine e_getR dX9_isSound_55 fl_X9_31 rfl (cm_mvs cm) ?_
                  refine e_iload_n dX9_isSound_58 rfl rfl ?_
                  refine e_aald _ dX9_isSound_59 ⟨by decide, by decide⟩ rfl rfl (by simp only [lenK]; omega) (cm_mo cm (by omega)) ?_
                  refine e_getE dX9_isSound_60 fl_X9_96 rfl (k_m5 hK (by first | omega | (simp (disch := omega) only [upN_n, upN_s]; omega))) ?_
                  first | ((with_reducible refine mk_mo ?_); refine p_icmp_eq (tgt := 79) dX9_isSound_63 (by decide) (fun h63 => ?_) (fun h63 => ?_)) | ((with_reducible refine mk_ms ?_); refine s_icmp_eq (tgt := 79) dX9_isSound_63 (by decide) (by omega) (fun h63 => ?_) (fun h63 => ?_)) | ((with_reducible refine mk_mn ?_); refine q_icmp_eq (tgt := 79) dX9_isSound_63 (by decide) (by omega) (fun h63 => ?_) (fun h63 => ?_)) | ((with_reducible refine mk_nn ?_); refine n_icmp_eq (tgt := 79) dX9_isSound_63 (by decide) (by omega) (by omega) (fun h63 => ?_) (fun h63 => ?_)) | refine e_icmp_eq (tgt := 79) dX9_isSound_63 (by decide) (fun h63 => ?_) (fun h63 => ?_)
                  · try first | contradiction | omega
                    all_goals
                      refine e_iconst (v := nI 1) dX9_isSound_79 rfl ?_
                      refine e_goto (tgt := 84) dX9_isSound_80 (by decide) ?_
                      refine e_istore dX9_isSound_84 (Nat.le_of_ble_eq_true rfl) rfl ?_
                      refine e_iload dX9_isSound_86 rfl ?_
                      first | ((with_reducible refine mk_b ?_); refine b_if_ne (tgt := 118) dX9_isSound_88 (by decide) (fun h88 => ?_) (fun h88 => ?_)) | ((with_reducible refine mk_ll ?_); refine m_if_ne (tgt := 118) dX9_isSound_88 (by decide) (by omega) (by omega) (fun h88 => ?_) (fun h88 => ?_)) | ((with_reducible refine mk_lc ?_); refine l_if_ne (tgt := 118) dX9_isSound_88 (by decide) (fun h88 => ?_) (fun h88 => ?_)) | ((with_reducible refine mk_n ?_); refine n_if_ne (tgt := 118) dX9_isSound_88 (by decide) (by omega) (fun h88 => ?_) (fun h88 => ?_)) | refine e_if_ne (tgt := 118) dX9_isSound_88 (by decide) (fun h88 => ?_) (fun h88 => ?_)
                      · try first | contradiction | omega | (simp only [decide_eq_true_eq, decide_eq_false_iff_not] at h88; omega)
                        all_goals
                          first | refine n_inc dX9_isSound_118 rfl (Nat.le_of_ble_eq_true rfl) rfl ?_ | refine e_iinc dX9_isSound_118 rfl rfl (Nat.le_of_ble_eq_true rfl) rfl ?_
                          refine e_goto (tgt := 29) dX9_isSound_121 (by decide) ?_
                          contradiction
                      · try first | contradiction | omega | (simp only [decide_eq_true_eq, decide_eq_false_iff_not] at h88; omega)
                        all_goals
                          refine e_aload_n dX9_isSound_91 rfl rfl ?_
                          refine e_iload_n dX9_isSound_92 rfl rfl ?_
                          refine e_aload_n dX9_isSound_93 rfl rfl ?_
                          refine e_getR dX9_isSound_94 fl_X9_21 rfl (cm_map cm) ?_
                          refine e_getR dX9_isSound_97 fl_X9_82 rfl (by first | exact cm_tlo cm | exact cm_ctlo cm (by omega) | assumption) ?_
                          refine e_iload_n dX9_isSound_100 rfl rfl ?_
                          refine e_iadE _ dX9_isSound_101 ⟨by decide, by decide⟩ rfl rfl (by simp only [lenK]; omega) (by first | exact k_lo hK (by first | omega | (simp (disch := omega) only [upN_n, upN_s]; omega)) | exact k_clo hK (by omega) (by first | omega | (simp (disch := omega) only [upN_n, upN_s]; omega)) | assumption) ?_
                          refine e_aload_n dX9_isSound_102 rfl rfl ?_
                          refine e_getR dX9_isSound_103 fl_X9_21 rfl (cm_map cm) ?_
                          refine e_iload_n dX9_isSound_106 rfl rfl ?_
                          refine x_V1 (M' := mX8_endOf) dX9_isSound_107 ml_X9_85 ok_X8_endOf (by decide) rfl im_X8_endOf se_X8_endOf (ct_X8_endOf cm iv hK (by omega)) (Nat.le_of_ble_eq_true rfl) (by decide) (Nat.le_of_ble_eq_true rfl) ?_
                          refine x_V3 (M' := mX9_valuesIn) dX9_isSound_110 ml_X9_89 ok_X9_valuesIn (by decide) rfl im_X9_valuesIn se_X9_valuesIn (ct_X9_valuesIn cm iv hK (by omega) (by omega) (by omega)) (Nat.le_of_ble_eq_true rfl) (by decide) (Nat.le_of_ble_eq_true rfl) ?_
                          first | ((with_reducible refine mk_ll ?_); refine m_if_le (tgt := 118) dX9_isSound_113 (by decide) (by omega) (by omega) (fun h113 => ?_) (fun h113 => ?_)) | ((with_reducible refine mk_lc ?_); refine l_if_le (tgt := 118) dX9_isSound_113 (by decide) (fun h113 => ?_) (fun h113 => ?_)) | ((with_reducible refine mk_n ?_); refine n_if_le (tgt := 118) dX9_isSound_113 (by decide) (by omega) (fun h113 => ?_) (fun h113 => ?_)) | refine e_if_le (tgt := 118) dX9_isSound_113 (by decide) (fun h113 => ?_) (fun h113 => ?_)
                          · try first | contradiction | omega
                            all_goals
                              first | refine n_inc dX9_isSound_118 rfl (Nat.le_of_ble_eq_true rfl) rfl ?_ | refine e_iinc dX9_isSound_118 rfl rfl (Nat.le_of_ble_eq_true rfl) rfl ?_
                              refine e_goto (tgt := 29) dX9_isSound_121 (by decide) ?_
                              contradiction
                          · try first | contradiction | omega
                            all_goals
                              refine e_iconst (v := nI 0) dX9_isSound_116 rfl ?_
                              first | ((with_reducible refine mk_b ?_); refine e_ret (some _) rfl (r_bool dX9_isSound_117 rfl) ?_) | ((with_reducible refine mk_n1 ?_); refine e_ret (some _) rfl (r_b1 dX9_isSound_117 rfl) ?_) | ((with_reducible refine mk_n0 ?_); refine e_ret (some _) rfl (r_b0 dX9_isSound_117 rfl) ?_)
                              refine xq ?_ rfl rfl rfl rfl rfl
                              unfold soC
                              rw [fO_eq (i := i) (fun q hq => hn q hq) (by show (fO (sdS w i) 6).isSome = true; rw [fO_eq (i := s) hn2 (by rw [e, eb]; simp; omega) hs]; rfl) hi]
                              rfl
                  · try first | contradiction | omega
                    all_goals
                      refine e_iload_n dX9_isSound_66 rfl rfl ?_
                      refine e_aload_n dX9_isSound_67 rfl rfl ?_
                      refine e_getR dX9_isSound_68 fl_X9_31 rfl (cm_mvs cm) ?_
                      refine e_iload_n dX9_isSound_71 rfl rfl ?_
                      refine e_aald _ dX9_isSound_72 ⟨by decide, by decide⟩ rfl rfl (by simp only [lenK]; omega) (cm_mo cm (by omega)) ?_
                      refine e_getE dX9_isSound_73 fl_X9_99 rfl (k_m6 hK (by first | omega | (simp (disch := omega) only [upN_n, upN_s]; omega))) ?_
                      first | ((with_reducible refine mk_mo ?_); refine p_icmp_ne (tgt := 83) dX9_isSound_76 (by decide) (fun h76 => ?_) (fun h76 => ?_)) | ((with_reducible refine mk_ms ?_); refine s_icmp_ne (tgt := 83) dX9_isSound_76 (by decide) (by omega) (fun h76 => ?_) (fun h76 => ?_)) | ((with_reducible refine mk_mn ?_); refine q_icmp_ne (tgt := 83) dX9_isSound_76 (by decide) (by omega) (fun h76 => ?_) (fun h76 => ?_)) | ((with_reducible refine mk_nn ?_); refine n_icmp_ne (tgt := 83) dX9_isSound_76 (by decide) (by omega) (by omega) (fun h76 => ?_) (fun h76 => ?_)) | refine e_icmp_ne (tgt := 83) dX9_isSound_76 (by decide) (fun h76 => ?_) (fun h76 => ?_)
                      · try first | contradiction | omega
                        all_goals
                          refine e_iconst (v := nI 0) dX9_isSound_83 rfl ?_
                          refine e_istore dX9_isSound_84 (Nat.le_of_ble_eq_true rfl) rfl ?_
                          refine e_iload dX9_isSound_86 rfl ?_
                          first | ((with_reducible refine mk_b ?_); refine b_if_ne (tgt := 118) dX9_isSound_88 (by decide) (fun h88 => ?_) (fun h88 => ?_)) | ((with_reducible refine mk_ll ?_); refine m_if_ne (tgt := 118) dX9_isSound_88 (by decide) (by omega) (by omega) (fun h88 => ?_) (fun h88 => ?_)) | ((with_reducible refine mk_lc ?_); refine l_if_ne (tgt := 118) dX9_isSound_88 (by decide) (fun h88 => ?_) (fun h88 => ?_)) | ((with_reducible refine mk_n ?_); refine n_if_ne (tgt := 118) dX9_isSound_88 (by decide) (by omega) (fun h88 => ?_) (fun h88 => ?_)) | refine e_if_ne (tgt := 118) dX9_isSound_88 (by decide) (fun h88 => ?_) (fun h88 => ?_)
                          · try first | contradiction | omega | (simp only [decide_eq_true_eq, decide_eq_false_iff_not] at h88; omega)
                            all_goals
                              first | refine n_inc dX9_isSound_118 rfl (Nat.le_of_ble_eq_true rfl) rfl ?_ | refine e_iinc dX9_isSound_118 rfl rfl (Nat.le_of_ble_eq_true rfl) rfl ?_
                              refine e_goto (tgt := 29) dX9_isSound_121 (by decide) ?_
                              contradiction
                          · try first | contradiction | omega | (simp only [decide_eq_true_eq, decide_eq_false_iff_not] at h88; omega)
                            all_goals
                              refine e_aload_n dX9_isSound_91 rfl rfl ?_
                              refine e_iload_n dX9_isSound_92 rfl rfl ?_
                              refine e_aload_n dX9_isSound_93 rfl rfl ?_
                              refine e_getR dX9_isSound_94 fl_X9_21 rfl (cm_map cm) ?_
                              refine e_getR dX9_isSound_97 fl_X9_82 rfl (by first | exact cm_tlo cm | exact cm_ctlo cm (by omega) | assumption) ?_
                              refine e_iload_n dX9_isSound_100 rfl rfl ?_
                              refine e_iadE _ dX9_isSound_101 ⟨by decide, by decide⟩ rfl rfl (by simp only [lenK]; omega) (by first | exact k_lo hK (by first | omega | (simp (disch := omega) only [upN_n, upN_s]; omega)) | exact k_clo hK (by omega) (by first | omega | (simp (disch := omega) only [upN_n, upN_s]; omega)) | assumption) ?_
                              refine e_aload_n dX9_isSound_102 rfl rfl ?_
                              refine e_getR dX9_isSound_103 fl_X9_21 rfl (cm_map cm) ?_
                              refine e_iload_n dX9_isSound_106 rfl rfl ?_
                              refine x_V1 (M' := mX8_endOf) dX9_isSound_107 ml_X9_85 ok_X8_endOf (by decide) rfl im_X8_endOf se_X8_endOf (ct_X8_endOf cm iv hK (by omega)) (Nat.le_of_ble_eq_true rfl) (by decide) (Nat.le_of_ble_eq_true rfl) ?_
                              refine x_V3 (M' := mX9_valuesIn) dX9_isSound_110 ml_X9_89 ok_X9_valuesIn (by decide) rfl im_X9_valuesIn se_X9_valuesIn (ct_X9_valuesIn cm iv hK (by omega) (by omega) (by omega)) (Nat.le_of_ble_eq_true rfl) (by decide) (Nat.le_of_ble_eq_true rfl) ?_
                              first | ((with_reducible refine mk_ll ?_); refine m_if_le (tgt := 118) dX9_isSound_113 (by decide) (by omega) (by omega) (fun h113 => ?_) (fun h113 => ?_)) | ((with_reducible refine mk_lc ?_); refine l_if_le (tgt := 118) dX9_isSound_113 (by decide) (fun h113 => ?_) (fun h113 => ?_)) | ((with_reducible refine mk_n ?_); refine n_if_le (tgt := 118) dX9_isSound_113 (by decide) (by omega) (fun h113 => ?_) (fun h113 => ?_)) | refine e_if_le (tgt := 118) dX9_isSound_113 (by decide) (fun h113 => ?_) (fun h113 => ?_)
                              · try first | contradiction | omega
                                all_goals
                                  first | refine n_inc dX9_isSound_118 rfl (Nat.le_of_ble_eq_true rfl) rfl ?_ | refine e_iinc dX9_isSound_118 rfl rfl (Nat.le_of_ble_eq_true rfl) rfl ?_
                                  refine e_goto (tgt := 29) dX9_isSound_121 (by decide) ?_
                                  contradiction
                              · try first | contradiction | omega
                                all_goals
                                  refine e_iconst (v := nI 0) dX9_isSound_116 rfl ?_
                                  first | ((with_reducible refine mk_b ?_); refine e_ret (some _) rfl (r_bool dX9_isSound_117 rfl) ?_) | ((with_reducible refine mk_n1 ?_); refine e_ret (some _) rfl (r_b1 dX9_isSound_117 rfl) ?_) | ((with_reducible refine mk_n0 ?_); refine e_ret (some _) rfl (r_b0 dX9_isSound_117 rfl) ?_)
                                  refine xq ?_ rfl rfl rfl rfl rfl
                                  unfold soC
                                  rw [fO_eq (i := i) (fun q hq => hn q hq) (by show (fO (sdS w i) 6).isSome = true; rw [fO_eq (i := s) hn2 (by rw [e, eb]; simp; omega) hs]; rfl) hi]
                                  rfl
                      · try first | contradiction | omega
                        all_goals
                          refine e_iconst (v := nI 1) dX9_isSound_79 rfl ?_
                          refine e_goto (tgt := 84) dX9_isSound_80 (by decide) ?_
                          refine e_istore dX9_isSound_84 (Nat.le_of_ble_eq_true rfl) rfl ?_
                          refine e_iload dX9_isSound_86 rfl ?_
                          first | ((with_reducible refine mk_b ?_); refine b_if_ne (tgt := 118) dX9_isSound_88 (by decide) (fun h88 => ?_) (fun h88 => ?_)) | ((with_reducible refine mk_ll ?_); refine m_if_ne (tgt := 118) dX9_isSound_88 (by decide) (by omega) (by omega) (fun h88 => ?_) (fun h88 => ?_)) | ((with_reducible refine mk_lc ?_); refine l_if_ne (tgt := 118) dX9_isSound_88 (by decide) (fun h88 => ?_) (fun h88 => ?_)) | ((with_reducible refine mk_n ?_); refine n_if_ne (tgt := 118) dX9_isSound_88 (by decide) (by omega) (fun h88 => ?_) (fun h88 => ?_)) | refine e_if_ne (tgt := 118) dX9_isSound_88 (by decide) (fun h88 => ?_) (fun h88 => ?_)
                          · try first | contradiction | omega | (simp only [decide_eq_true_eq, decide_eq_false_iff_not] at h88; omega)
                            all_goals
                              first | refine n_inc dX9_isSound_118 rfl (Nat.le_of_ble_eq_true rfl) rfl ?_ | refine e_iinc dX9_isSound_118 rfl rfl (Nat.le_of_ble_eq_true rfl) rfl ?_
                              refine e_goto (tgt := 29) dX9_isSound_121 (by decide) ?_
                              contradiction
                          · try first | contradiction | omega | (simp only [decide_eq_true_eq, decide_eq_false_iff_not] at h88; omega)
                            all_goals
                              refine e_aload_n dX9_isSound_91 rfl rfl ?_
                              refine e_iload_n dX9_isSound_92 rfl rfl ?_
                              refine e_aload_n dX9_isSound_93 rfl rfl ?_
                              refine e_getR dX9_isSound_94 fl_X9_21 rfl (cm_map cm) ?_
                              refine e_getR dX9_isSound_97 fl_X9_82 rfl (by first | exact cm_tlo cm | exact cm_ctlo cm (by omega) | assumption) ?_
                              refine e_iload_n dX9_isSound_100 rfl rfl ?_
                              refine e_iadE _ dX9_isSound_101 ⟨by decide, by decide⟩ rfl rfl (by simp only [lenK]; omega) (by first | exact k_lo hK (by first | omega | (simp (disch := omega) only [upN_n, upN_s]; omega)) | exact k_clo hK (by omega) (by first | omega | (simp (disch := omega) only [upN_n, upN_s]; omega)) | assumption) ?_
                              refine e_aload_n dX9_isSound_102 rfl rfl ?_
                              refine e_getR dX9_isSound_103 fl_X9_21 rfl (cm_map cm) ?_
                              refine e_iload_n dX9_isSound_106 rfl rfl ?_
                              refine x_V1 (M' := mX8_endOf) dX9_isSound_107 ml_X9_85 ok_X8_endOf (by decide) rfl im_X8_endOf se_X8_endOf (ct_X8_endOf cm iv hK (by omega)) (Nat.le_of_ble_eq_true rfl) (by decide) (Nat.le_of_ble_eq_true rfl) ?_
                              refine x_V3 (M' := mX9_valuesIn) dX9_isSound_110 ml_X9_89 ok_X9_valuesIn (by decide) rfl im_X9_valuesIn se_X9_valuesIn (ct_X9_valuesIn cm iv hK (by omega) (by omega) (by omega)) (Nat.le_of_ble_eq_true rfl) (by decide) (Nat.le_of_ble_eq_true rfl) ?_
                              first | ((with_reducible refine mk_ll ?_); refine m_if_le (tgt := 118) dX9_isSound_113 (by decide) (by omega) (by omega) (fun h113 => ?_) (fun h113 => ?_)) | ((with_reducible refine mk_lc ?_); refine l_if_le (tgt := 118) dX9_isSound_113 (by decide) (fun h113 => ?_) (fun h113 => ?_)) | ((with_reducible refine mk_n ?_); refine n_if_le (tgt := 118) dX9_isSound_113 (by decide) (by omega) (fun h113 => ?_) (fun h113 => ?_)) | refine e_if_le (tgt := 118) dX9_isSound_113 (by decide) (fun h113 => ?_) (fun h113 => ?_)
                              · try first | contradiction | omega
                                all_goals
                                  first | refine n_inc dX9_isSound_118 rfl (Nat.le_of_ble_eq_true rfl) rfl ?_ | refine e_iinc dX9_isSound_118 rfl rfl (Nat.le_of_ble_eq_true rfl) rfl ?_
                                  refine e_goto (tgt := 29) dX9_isSound_121 (by decide) ?_
                                  contradiction
                              · try first | contradiction | omega
                                all_goals
                                  refine e_iconst (v := nI 0) dX9_isSound_116 rfl ?_
                                  first | ((with_reducible refine mk_b ?_); refine e_ret (some _) rfl (r_bool dX9_isSound_117 rfl) ?_) | ((with_reducible refine mk_n1 ?_); refine e_ret (some _) rfl (r_b1 dX9_isSound_117 rfl) ?_) | ((with_reducible refine mk_n0 ?_); refine e_ret (some _) rfl (r_b0 dX9_isSound_117 rfl) ?_)
                                  refine xq ?_ rfl rfl rfl rfl rfl
                                  unfold soC
                                  rw [fO_eq (i := i) (fun q hq => hn q hq) (by show (fO (sdS w i) 6).isSome = true; rw [fO_eq (i := s) hn2 (by rw [e, eb]; simp; omega) hs]; rfl) hi]
                                  rfl
      )
    refine e_iload_n dX9_isSound_2 rfl rfl ?_
    refine e_aload_n dX9_isSound_3 rfl rfl ?_
    refine e_getR dX9_isSound_4 fl_X9_21 rfl (cm_map cm) ?_
    refine e_getE dX9_isSound_7 fl_X9_39 rfl (by first | exact k_n hK | exact k_cn hK (by first | omega | (simp (disch := omega) only [upN_n, upN_s]; omega)) | assumption) ?_
    first | ((with_reducible refine mk_nn ?_); refine n_icmp_ge (tgt := 130) dX9_isSound_10 (by decide) (by omega) (by omega) (fun h10 => ?_) (fun h10 => ?_)) | refine e_icmp_ge (tgt := 130) dX9_isSound_10 (by decide) (fun h10 => ?_) (fun h10 => ?_)
    · try first | contradiction | omega
      all_goals
        refine e_iconst (v := nI 1) dX9_isSound_130 rfl ?_
        first | ((with_reducible refine mk_b ?_); refine e_ret (some _) rfl (r_bool dX9_isSound_131 rfl) ?_) | ((with_reducible refine mk_n1 ?_); refine e_ret (some _) rfl (r_b1 dX9_isSound_131 rfl) ?_) | ((with_reducible refine mk_n0 ?_); refine e_ret (some _) rfl (r_b0 dX9_isSound_131 rfl) ?_)
        refine xq ?_ rfl rfl rfl rfl rfl
        unfold soC
        rw [fO_eq (i := i) (fun q hq => hn q hq) (by show (fO (sdS w i) 6).isSome = true; rw [fO_eq (i := s) hn2 (by rw [e, eb]; simp; omega) hs]; rfl) hi]
        rfl
    · try first | contradiction | omega
      all_goals
        refine e_aload_n dX9_isSound_13 rfl rfl ?_
        refine e_aload_n dX9_isSound_14 rfl rfl ?_
        refine e_getR dX9_isSound_15 fl_X9_21 rfl (cm_map cm) ?_
        refine e_getR dX9_isSound_18 fl_X9_82 rfl (by first | exact cm_tlo cm | exact cm_ctlo cm (by omega) | assumption) ?_
        refine e_iload_n dX9_isSound_21 rfl rfl ?_
        refine e_iadE _ dX9_isSound_22 ⟨by decide, by decide⟩ rfl rfl (by simp only [lenK]; omega) (by first | exact k_lo hK (by first | omega | (simp (disch := omega) only [upN_n, upN_s]; omega)) | exact k_clo hK (by omega) (by first | omega | (simp (disch := omega) only [upN_n, upN_s]; omega)) | assumption) ?_
        refine x_V1 (M' := mX9_moveAt) dX9_isSound_23 ml_X9_93 ok_X9_moveAt (by decide) rfl im_X9_moveAt se_X9_moveAt (ct_X9_moveAt cm iv hK (by omega)) (Nat.le_of_ble_eq_true rfl) (by decide) (Nat.le_of_ble_eq_true rfl) ?_
        refine e_istore_n dX9_isSound_26 rfl (Nat.le_of_ble_eq_true rfl) rfl ?_
        refine e_iconst (v := nI 0) dX9_isSound_27 rfl ?_
        refine e_istore_n dX9_isSound_28 rfl (Nat.le_of_ble_eq_true rfl) rfl ?_
        exact kin 0 (by omega) (fun q hq => absurd hq (by omega)) _
    ) (fun hn x y z => by
    refine e_iload_n dX9_isSound_2 rfl rfl ?_
    refine e_aload_n dX9_isSound_3 rfl rfl ?_
    refine e_getR dX9_isSound_4 fl_X9_21 rfl (cm_map cm) ?_
    refine e_getE dX9_isSound_7 fl_X9_39 rfl (by first | exact k_n hK | exact k_cn hK (by first | omega | (simp (disch := omega) only [upN_n, upN_s]; omega)) | assumption) ?_
    first | ((with_reducible refine mk_nn ?_); refine n_icmp_ge (tgt := 130) dX9_isSound_10 (by decide) (by omega) (by omega) (fun h10 => ?_) (fun h10 => ?_)) | refine e_icmp_ge (tgt := 130) dX9_isSound_10 (by decide) (fun h10 => ?_) (fun h10 => ?_)
    · try first | contradiction | omega
      all_goals
        refine e_iconst (v := nI 1) dX9_isSound_130 rfl ?_
        first | ((with_reducible refine mk_b ?_); refine e_ret (some _) rfl (r_bool dX9_isSound_131 rfl) ?_) | ((with_reducible refine mk_n1 ?_); refine e_ret (some _) rfl (r_b1 dX9_isSound_131 rfl) ?_) | ((with_reducible refine mk_n0 ?_); refine e_ret (some _) rfl (r_b0 dX9_isSound_131 rfl) ?_)
        refine xq ?_ rfl rfl rfl rfl rfl
        unfold soC
        rw [fO_no hn]
        rfl
    · try first | contradiction | omega
      all_goals
        refine e_aload_n dX9_isSound_13 rfl rfl ?_
        refine e_aload_n dX9_isSound_14 rfl rfl ?_
        refine e_getR dX9_isSound_15 fl_X9_21 rfl (cm_map cm) ?_
        refine e_getR dX9_isSound_18 fl_X9_82 rfl (by first | exact cm_tlo cm | exact cm_ctlo cm (by omega) | assumption) ?_
        refine e_iload_n dX9_isSound_21 rfl rfl ?_
        refine e_iadE _ dX9_isSound_22 ⟨by decide, by decide⟩ rfl rfl (by simp only [lenK]; omega) (by first | exact k_lo hK (by first | omega | (simp (disch := omega) only [upN_n, upN_s]; omega)) | exact k_clo hK (by omega) (by first | omega | (simp (disch := omega) only [upN_n, upN_s]; omega)) | assumption) ?_
        refine x_V1 (M' := mX9_moveAt) dX9_isSound_23 ml_X9_93 ok_X9_moveAt (by decide) rfl im_X9_moveAt se_X9_moveAt (ct_X9_moveAt cm iv hK (by omega)) (Nat.le_of_ble_eq_true rfl) (by decide) (Nat.le_of_ble_eq_true rfl) ?_
        refine e_istore_n dX9_isSound_26 rfl (Nat.le_of_ble_eq_true rfl) rfl ?_
        refine e_iconst (v := nI 0) dX9_isSound_27 rfl ?_
        refine e_istore_n dX9_isSound_28 rfl (Nat.le_of_ble_eq_true rfl) rfl ?_
        refine e_iload_n dX9_isSound_29 rfl rfl ?_
        refine e_bipush (v := nI 6) dX9_isSound_30 rfl ?_
        first | ((with_reducible refine mk_nn ?_); refine n_icmp_ge (tgt := 124) dX9_isSound_32 (by decide) (by omega) (by omega) (fun h32 => ?_) (fun h32 => ?_)) | refine e_icmp_ge (tgt := 124) dX9_isSound_32 (by decide) (fun h32 => ?_) (fun h32 => ?_)
        · try first | contradiction | omega
          all_goals
            first | refine n_inc dX9_isSound_124 rfl (Nat.le_of_ble_eq_true rfl) rfl ?_ | refine e_iinc dX9_isSound_124 rfl rfl (Nat.le_of_ble_eq_true rfl) rfl ?_
            refine e_goto (tgt := 2) dX9_isSound_127 (by decide) ?_
            contradiction
        · try first | contradiction | omega
          all_goals
            refine e_iload_n dX9_isSound_35 rfl rfl ?_
            refine e_aload_n dX9_isSound_36 rfl rfl ?_
            refine e_getR dX9_isSound_37 fl_X9_21 rfl (cm_map cm) ?_
            refine e_getR dX9_isSound_40 fl_X9_79 rfl (by first | exact cm_tow cm | exact cm_ctow cm (by omega) | assumption) ?_
            refine e_iload_n dX9_isSound_43 rfl rfl ?_
            refine e_iadE _ dX9_isSound_44 ⟨by decide, by decide⟩ rfl rfl (by simp only [lenK]; omega) (by first | exact k_ow hK (by first | omega | (simp (disch := omega) only [upN_n, upN_s]; omega)) | exact k_cow hK (by omega) (by first | omega | (simp (disch := omega) only [upN_n, upN_s]; omega)) | assumption) ?_
            first | ((with_reducible refine mk_mo ?_); refine p_icmp_eq (tgt := 79) dX9_isSound_45 (by decide) (fun h45 => ?_) (fun h45 => ?_)) | ((with_reducible refine mk_ms ?_); refine s_icmp_eq (tgt := 79) dX9_isSound_45 (by decide) (by omega) (fun h45 => ?_) (fun h45 => ?_)) | ((with_reducible refine mk_mn ?_); refine q_icmp_eq (tgt := 79) dX9_isSound_45 (by decide) (by omega) (fun h45 => ?_) (fun h45 => ?_)) | ((with_reducible refine mk_nn ?_); refine n_icmp_eq (tgt := 79) dX9_isSound_45 (by decide) (by omega) (by omega) (fun h45 => ?_) (fun h45 => ?_)) | refine e_icmp_eq (tgt := 79) dX9_isSound_45 (by decide) (fun h45 => ?_) (fun h45 => ?_)
            · try first | contradiction | omega
              all_goals
                refine e_iconst (v := nI 1) dX9_isSound_79 rfl ?_
                refine e_goto (tgt := 84) dX9_isSound_80 (by decide) ?_
                refine e_istore dX9_isSound_84 (Nat.le_of_ble_eq_true rfl) rfl ?_
                refine e_iload dX9_isSound_86 rfl ?_
                first | ((with_reducible refine mk_b ?_); refine b_if_ne (tgt := 118) dX9_isSound_88 (by decide) (fun h88 => ?_) (fun h88 => ?_)) | ((with_reducible refine mk_ll ?_); refine m_if_ne (tgt := 118) dX9_isSound_88 (by decide) (by omega) (by omega) (fun h88 => ?_) (fun h88 => ?_)) | ((with_reducible refine mk_lc ?_); refine l_if_ne (tgt := 118) dX9_isSound_88 (by decide) (fun h88 => ?_) (fun h88 => ?_)) | ((with_reducible refine mk_n ?_); refine n_if_ne (tgt := 118) dX9_isSound_88 (by decide) (by omega) (fun h88 => ?_) (fun h88 => ?_)) | refine e_if_ne (tgt := 118) dX9_isSound_88 (by decide) (fun h88 => ?_) (fun h88 => ?_)
                · try first | contradiction | omega | (simp only [decide_eq_true_eq, decide_eq_false_iff_not] at h88; omega)
                  all_goals
                    first | refine n_inc dX9_isSound_118 rfl (Nat.le_of_ble_eq_true rfl) rfl ?_ | refine e_iinc dX9_isSound_118 rfl rfl (Nat.le_of_ble_eq_true rfl) rfl ?_
                    refine e_goto (tgt := 29) dX9_isSound_121 (by decide) ?_
                    refine e_iload_n dX9_isSound_29 rfl rfl ?_
                    refine e_bipush (v := nI 6) dX9_isSound_30 rfl ?_
                    contradiction
                · try first | contradiction | omega | (simp only [decide_eq_true_eq, decide_eq_false_iff_not] at h88; omega)
                  all_goals
                    refine e_aload_n dX9_isSound_91 rfl rfl ?_
                    refine e_iload_n dX9_isSound_92 rfl rfl ?_
                    refine e_aload_n dX9_isSound_93 rfl rfl ?_
                    refine e_getR dX9_isSound_94 fl_X9_21 rfl (cm_map cm) ?_
                    refine e_getR dX9_isSound_97 fl_X9_82 rfl (by first | exact cm_tlo cm | exact cm_ctlo cm (by omega) | assumption) ?_
                    refine e_iload_n dX9_isSound_100 rfl rfl ?_
                    refine e_iadE _ dX9_isSound_101 ⟨by decide, by decide⟩ rfl rfl (by simp only [lenK]; omega) (by first | exact k_lo hK (by first | omega | (simp (disch := omega) only [upN_n, upN_s]; omega)) | exact k_clo hK (by omega) (by first | omega | (simp (disch := omega) only [upN_n, upN_s]; omega)) | assumption) ?_
                    refine e_aload_n dX9_isSound_102 rfl rfl ?_
                    refine e_getR dX9_isSound_103 fl_X9_21 rfl (cm_map cm) ?_
                    refine e_iload_n dX9_isSound_106 rfl rfl ?_
                    refine x_V1 (M' := mX8_endOf) dX9_isSound_107 ml_X9_85 ok_X8_endOf (by decide) rfl im_X8_endOf se_X8_endOf (ct_X8_endOf cm iv hK (by omega)) (Nat.le_of_ble_eq_true rfl) (by decide) (Nat.le_of_ble_eq_true rfl) ?_
                    refine x_V3 (M' := mX9_valuesIn) dX9_isSound_110 ml_X9_89 ok_X9_valuesIn (by decide) rfl im_X9_valuesIn se_X9_valuesIn (ct_X9_valuesIn cm iv hK (by omega) (by omega) (by omega)) (Nat.le_of_ble_eq_true rfl) (by decide) (Nat.le_of_ble_eq_true rfl) ?_
                    first | ((with_reducible refine mk_ll ?_); refine m_if_le (tgt := 118) dX9_isSound_113 (by decide) (by omega) (by omega) (fun h113 => ?_) (fun h113 => ?_)) | ((with_reducible refine mk_lc ?_); refine l_if_le (tgt := 118) dX9_isSound_113 (by decide) (fun h113 => ?_) (fun h113 => ?_)) | ((with_reducible refine mk_n ?_); refine n_if_le (tgt := 118) dX9_isSound_113 (by decide) (by omega) (fun h113 => ?_) (fun h113 => ?_)) | refine e_if_le (tgt := 118) dX9_isSound_113 (by decide) (fun h113 => ?_) (fun h113 => ?_)
                    · try first | contradiction | omega
                      all_goals
                        first | refine n_inc dX9_isSound_118 rfl (Nat.le_of_ble_eq_true rfl) rfl ?_ | refine e_iinc dX9_isSound_118 rfl rfl (Nat.le_of_ble_eq_true rfl) rfl ?_
                        refine e_goto (tgt := 29) dX9_isSound_121 (by decide) ?_
                        refine e_iload_n dX9_isSound_29 rfl rfl ?_
                        refine e_bipush (v := nI 6) dX9_isSound_30 rfl ?_
                        contradiction
                    · try first | contradiction | omega
                      all_goals
                        refine e_iconst (v := nI 0) dX9_isSound_116 rfl ?_
                        first | ((with_reducible refine mk_b ?_); refine e_ret (some _) rfl (r_bool dX9_isSound_117 rfl) ?_) | ((with_reducible refine mk_n1 ?_); refine e_ret (some _) rfl (r_b1 dX9_isSound_117 rfl) ?_) | ((with_reducible refine mk_n0 ?_); refine e_ret (some _) rfl (r_b0 dX9_isSound_117 rfl) ?_)
                        refine xq ?_ rfl rfl rfl rfl rfl
                        unfold soC
                        rw [fO_no hn]
                        rfl
            · try first | contradiction | omega
              all_goals
                refine e_iload_n dX9_isSound_48 rfl rfl ?_
                refine e_iconst (v := -1) dX9_isSound_49 rfl ?_
                first | ((with_reducible refine mk_mo ?_); refine p_icmp_eq (tgt := 83) dX9_isSound_50 (by decide) (fun h50 => ?_) (fun h50 => ?_)) | ((with_reducible refine mk_ms ?_); refine s_icmp_eq (tgt := 83) dX9_isSound_50 (by decide) (by omega) (fun h50 => ?_) (fun h50 => ?_)) | ((with_reducible refine mk_mn ?_); refine q_icmp_eq (tgt := 83) dX9_isSound_50 (by decide) (by omega) (fun h50 => ?_) (fun h50 => ?_)) | ((with_reducible refine mk_nn ?_); refine n_icmp_eq (tgt := 83) dX9_isSound_50 (by decide) (by omega) (by omega) (fun h50 => ?_) (fun h50 => ?_)) | refine e_icmp_eq (tgt := 83) dX9_isSound_50 (by decide) (fun h50 => ?_) (fun h50 => ?_)
                · try first | contradiction | omega
                  all_goals
                    refine e_iconst (v := nI 0) dX9_isSound_83 rfl ?_
                    refine e_istore dX9_isSound_84 (Nat.le_of_ble_eq_true rfl) rfl ?_
                    refine e_iload dX9_isSound_86 rfl ?_
                    first | ((with_reducible refine mk_b ?_); refine b_if_ne (tgt := 118) dX9_isSound_88 (by decide) (fun h88 => ?_) (fun h88 => ?_)) | ((with_reducible refine mk_ll ?_); refine m_if_ne (tgt := 118) dX9_isSound_88 (by decide) (by omega) (by omega) (fun h88 => ?_) (fun h88 => ?_)) | ((with_reducible refine mk_lc ?_); refine l_if_ne (tgt := 118) dX9_isSound_88 (by decide) (fun h88 => ?_) (fun h88 => ?_)) | ((with_reducible refine mk_n ?_); refine n_if_ne (tgt := 118) dX9_isSound_88 (by decide) (by omega) (fun h88 => ?_) (fun h88 => ?_)) | refine e_if_ne (tgt := 118) dX9_isSound_88 (by decide) (fun h88 => ?_) (fun h88 => ?_)
                    · try first | contradiction | omega | (simp only [decide_eq_true_eq, decide_eq_false_iff_not] at h88; omega)
                      all_goals
                        first | refine n_inc dX9_isSound_118 rfl (Nat.le_of_ble_eq_true rfl) rfl ?_ | refine e_iinc dX9_isSound_118 rfl rfl (Nat.le_of_ble_eq_true rfl) rfl ?_
                        refine e_goto (tgt := 29) dX9_isSound_121 (by decide) ?_
                        refine e_iload_n dX9_isSound_29 rfl rfl ?_
                        refine e_bipush (v := nI 6) dX9_isSound_30 rfl ?_
                        contradiction
                    · try first | contradiction | omega | (simp only [decide_eq_true_eq, decide_eq_false_iff_not] at h88; omega)
                      all_goals
                        refine e_aload_n dX9_isSound_91 rfl rfl ?_
                        refine e_iload_n dX9_isSound_92 rfl rfl ?_
                        refine e_aload_n dX9_isSound_93 rfl rfl ?_
                        refine e_getR dX9_isSound_94 fl_X9_21 rfl (cm_map cm) ?_
                        refine e_getR dX9_isSound_97 fl_X9_82 rfl (by first | exact cm_tlo cm | exact cm_ctlo cm (by omega) | assumption) ?_
                        refine e_iload_n dX9_isSound_100 rfl rfl ?_
                        refine e_iadE _ dX9_isSound_101 ⟨by decide, by decide⟩ rfl rfl (by simp only [lenK]; omega) (by first | exact k_lo hK (by first | omega | (simp (disch := omega) only [upN_n, upN_s]; omega)) | exact k_clo hK (by omega) (by first | omega | (simp (disch := omega) only [upN_n, upN_s]; omega)) | assumption) ?_
                        refine e_aload_n dX9_isSound_102 rfl rfl ?_
                        refine e_getR dX9_isSound_103 fl_X9_21 rfl (cm_map cm) ?_
                        refine e_iload_n dX9_isSound_106 rfl rfl ?_
                        refine x_V1 (M' := mX8_endOf) dX9_isSound_107 ml_X9_85 ok_X8_endOf (by decide) rfl im_X8_endOf se_X8_endOf (ct_X8_endOf cm iv hK (by omega)) (Nat.le_of_ble_eq_true rfl) (by decide) (Nat.le_of_ble_eq_true rfl) ?_
                        refine x_V3 (M' := mX9_valuesIn) dX9_isSound_110 ml_X9_89 ok_X9_valuesIn (by decide) rfl im_X9_valuesIn se_X9_valuesIn (ct_X9_valuesIn cm iv hK (by omega) (by omega) (by omega)) (Nat.le_of_ble_eq_true rfl) (by decide) (Nat.le_of_ble_eq_true rfl) ?_
                        first | ((with_reducible refine mk_ll ?_); refine m_if_le (tgt := 118) dX9_isSound_113 (by decide) (by omega) (by omega) (fun h113 => ?_) (fun h113 => ?_)) | ((with_reducible refine mk_lc ?_); refine l_if_le (tgt := 118) dX9_isSound_113 (by decide) (fun h113 => ?_) (fun h113 => ?_)) | ((with_reducible refine mk_n ?_); refine n_if_le (tgt := 118) dX9_isSound_113 (by decide) (by omega) (fun h113 => ?_) (fun h113 => ?_)) | refine e_if_le (tgt := 118) dX9_isSound_113 (by decide) (fun h113 => ?_) (fun h113 => ?_)
                        · try first | contradiction | omega
                          all_goals
                            first | refine n_inc dX9_isSound_118 rfl (Nat.le_of_ble_eq_true rfl) rfl ?_ | refine e_iinc dX9_isSound_118 rfl rfl (Nat.le_of_ble_eq_true rfl) rfl ?_
                            refine e_goto (tgt := 29) dX9_isSound_121 (by decide) ?_
                            refine e_iload_n dX9_isSound_29 rfl rfl ?_
                            refine e_bipush (v := nI 6) dX9_isSound_30 rfl ?_
                            contradiction
                        · try first | contradiction | omega
                          all_goals
                            refine e_iconst (v := nI 0) dX9_isSound_116 rfl ?_
                            first | ((with_reducible refine mk_b ?_); refine e_ret (some _) rfl (r_bool dX9_isSound_117 rfl) ?_) | ((with_reducible refine mk_n1 ?_); refine e_ret (some _) rfl (r_b1 dX9_isSound_117 rfl) ?_) | ((with_reducible refine mk_n0 ?_); refine e_ret (some _) rfl (r_b0 dX9_isSound_117 rfl) ?_)
                            refine xq ?_ rfl rfl rfl rfl rfl
                            unfold soC
                            rw [fO_no hn]
                            rfl
                · try first | contradiction | omega
                  all_goals
                    refine e_iload_n dX9_isSound_53 rfl rfl ?_
                    refine e_aload_n dX9_isSound_54 rfl rfl ?_
                    refine e_getR dX9_isSound_55 fl_X9_31 rfl (cm_mvs cm) ?_
                    refine e_iload_n dX9_isSound_58 rfl rfl ?_
                    refine e_aald _ dX9_isSound_59 ⟨by decide, by decide⟩ rfl rfl (by simp only [lenK]; omega) (cm_mo cm (by omega)) ?_
                    refine e_getE dX9_isSound_60 fl_X9_96 rfl (k_m5 hK (by first | omega | (simp (disch := omega) only [upN_n, upN_s]; omega))) ?_
                    first | ((with_reducible refine mk_mo ?_); refine p_icmp_eq (tgt := 79) dX9_isSound_63 (by decide) (fun h63 => ?_) (fun h63 => ?_)) | ((with_reducible refine mk_ms ?_); refine s_icmp_eq (tgt := 79) dX9_isSound_63 (by decide) (by omega) (fun h63 => ?_) (fun h63 => ?_)) | ((with_reducible refine mk_mn ?_); refine q_icmp_eq (tgt := 79) dX9_isSound_63 (by decide) (by omega) (fun h63 => ?_) (fun h63 => ?_)) | ((with_reducible refine mk_nn ?_); refine n_icmp_eq (tgt := 79) dX9_isSound_63 (by decide) (by omega) (by omega) (fun h63 => ?_) (fun h63 => ?_)) | refine e_icmp_eq (tgt := 79) dX9_isSound_63 (by decide) (fun h63 => ?_) (fun h63 => ?_)
                    · try first | contradiction | omega
                      all_goals
                        refine e_iconst (v := nI 1) dX9_isSound_79 rfl ?_
                        refine e_goto (tgt := 84) dX9_isSound_80 (by decide) ?_
                        refine e_istore dX9_isSound_84 (Nat.le_of_ble_eq_true rfl) rfl ?_
                        refine e_iload dX9_isSound_86 rfl ?_
                        first | ((with_reducible refine mk_b ?_); refine b_if_ne (tgt := 118) dX9_isSound_88 (by decide) (fun h88 => ?_) (fun h88 => ?_)) | ((with_reducible refine mk_ll ?_); refine m_if_ne (tgt := 118) dX9_isSound_88 (by decide) (by omega) (by omega) (fun h88 => ?_) (fun h88 => ?_)) | ((with_reducible refine mk_lc ?_); refine l_if_ne (tgt := 118) dX9_isSound_88 (by decide) (fun h88 => ?_) (fun h88 => ?_)) | ((with_reducible refine mk_n ?_); refine n_if_ne (tgt := 118) dX9_isSound_88 (by decide) (by omega) (fun h88 => ?_) (fun h88 => ?_)) | refine e_if_ne (tgt := 118) dX9_isSound_88 (by decide) (fun h88 => ?_) (fun h88 => ?_)
                        · try first | contradiction | omega | (simp only [decide_eq_true_eq, decide_eq_false_iff_not] at h88; omega)
                          all_goals
                            first | refine n_inc dX9_isSound_118 rfl (Nat.le_of_ble_eq_true rfl) rfl ?_ | refine e_iinc dX9_isSound_118 rfl rfl (Nat.le_of_ble_eq_true rfl) rfl ?_
                            refine e_goto (tgt := 29) dX9_isSound_121 (by decide) ?_
                            refine e_iload_n dX9_isSound_29 rfl rfl ?_
                            refine e_bipush (v := nI 6) dX9_isSound_30 rfl ?_
                            contradiction
                        · try first | contradiction | omega | (simp only [decide_eq_true_eq, decide_eq_false_iff_not] at h88; omega)
                          all_goals
                            refine e_aload_n dX9_isSound_91 rfl rfl ?_
                            refine e_iload_n dX9_isSound_92 rfl rfl ?_
                            refine e_aload_n dX9_isSound_93 rfl rfl ?_
                            refine e_getR dX9_isSound_94 fl_X9_21 rfl (cm_map cm) ?_
                            refine e_getR dX9_isSound_97 fl_X9_82 rfl (by first | exact cm_tlo cm | exact cm_ctlo cm (by omega) | assumption) ?_
                            refine e_iload_n dX9_isSound_100 rfl rfl ?_
                            refine e_iadE _ dX9_isSound_101 ⟨by decide, by decide⟩ rfl rfl (by simp only [lenK]; omega) (by first | exact k_lo hK (by first | omega | (simp (disch := omega) only [upN_n, upN_s]; omega)) | exact k_clo hK (by omega) (by first | omega | (simp (disch := omega) only [upN_n, upN_s]; omega)) | assumption) ?_
                            refine e_aload_n dX9_isSound_102 rfl rfl ?_
                            refine e_getR dX9_isSound_103 fl_X9_21 rfl (cm_map cm) ?_
                            refine e_iload_n dX9_isSound_106 rfl rfl ?_
                            refine x_V1 (M' := mX8_endOf) dX9_isSound_107 ml_X9_85 ok_X8_endOf (by decide) rfl im_X8_endOf se_X8_endOf (ct_X8_endOf cm iv hK (by omega)) (Nat.le_of_ble_eq_true rfl) (by decide) (Nat.le_of_ble_eq_true rfl) ?_
                            refine x_V3 (M' := mX9_valuesIn) dX9_isSound_110 ml_X9_89 ok_X9_valuesIn (by decide) rfl im_X9_valuesIn se_X9_valuesIn (ct_X9_valuesIn cm iv hK (by omega) (by omega) (by omega)) (Nat.le_of_ble_eq_true rfl) (by decide) (Nat.le_of_ble_eq_true rfl) ?_
                            first | ((with_reducible refine mk_ll ?_); refine m_if_le (tgt := 118) dX9_isSound_113 (by decide) (by omega) (by omega) (fun h113 => ?_) (fun h113 => ?_)) | ((with_reducible refine mk_lc ?_); refine l_if_le (tgt := 118) dX9_isSound_113 (by decide) (fun h113 => ?_) (fun h113 => ?_)) | ((with_reducible refine mk_n ?_); refine n_if_le (tgt := 118) dX9_isSound_113 (by decide) (by omega) (fun h113 => ?_) (fun h113 => ?_)) | refine e_if_le (tgt := 118) dX9_isSound_113 (by decide) (fun h113 => ?_) (fun h113 => ?_)
                            · try first | contradiction | omega
                              all_goals
                                first | refine n_inc dX9_isSound_118 rfl (Nat.le_of_ble_eq_true rfl) rfl ?_ | refine e_iinc dX9_isSound_118 rfl rfl (Nat.le_of_ble_eq_true rfl) rfl ?_
                                refine e_goto (tgt := 29) dX9_isSound_121 (by decide) ?_
                                refine e_iload_n dX9_isSound_29 rfl rfl ?_
                                refine e_bipush (v := nI 6) dX9_isSound_30 rfl ?_
                                contradiction
                            · try first | contradiction | omega
                              all_goals
                                refine e_iconst (v := nI 0) dX9_isSound_116 rfl ?_
                                first | ((with_reducible refine mk_b ?_); refine e_ret (some _) rfl (r_bool dX9_isSound_117 rfl) ?_) | ((with_reducible refine mk_n1 ?_); refine e_ret (some _) rfl (r_b1 dX9_isSound_117 rfl) ?_) | ((with_reducible refine mk_n0 ?_); refine e_ret (some _) rfl (r_b0 dX9_isSound_117 rfl) ?_)
                                refine xq ?_ rfl rfl rfl rfl rfl
                                unfold soC
                                rw [fO_no hn]
                                rfl
                    · try first | contradiction | omega
                      all_goals
                        refine e_iload_n dX9_isSound_66 rfl rfl ?_
                        refine e_aload_n dX9_isSound_67 rfl rfl ?_
                        refine e_getR dX9_isSound_68 fl_X9_31 rfl (cm_mvs cm) ?_
                        refine e_iload_n dX9_isSound_71 rfl rfl ?_
                        refine e_aald _ dX9_isSound_72 ⟨by decide, by decide⟩ rfl rfl (by simp only [lenK]; omega) (cm_mo cm (by omega)) ?_
                        refine e_getE dX9_isSound_73 fl_X9_99 rfl (k_m6 hK (by first | omega | (simp (disch := omega) only [upN_n, upN_s]; omega))) ?_
                        first | ((with_reducible refine mk_mo ?_); refine p_icmp_ne (tgt := 83) dX9_isSound_76 (by decide) (fun h76 => ?_) (fun h76 => ?_)) | ((with_reducible refine mk_ms ?_); refine s_icmp_ne (tgt := 83) dX9_isSound_76 (by decide) (by omega) (fun h76 => ?_) (fun h76 => ?_)) | ((with_reducible refine mk_mn ?_); refine q_icmp_ne (tgt := 83) dX9_isSound_76 (by decide) (by omega) (fun h76 => ?_) (fun h76 => ?_)) | ((with_reducible refine mk_nn ?_); refine n_icmp_ne (tgt := 83) dX9_isSound_76 (by decide) (by omega) (by omega) (fun h76 => ?_) (fun h76 => ?_)) | refine e_icmp_ne (tgt := 83) dX9_isSound_76 (by decide) (fun h76 => ?_) (fun h76 => ?_)
                        · try first | contradiction | omega
                          all_goals
                            refine e_iconst (v := nI 0) dX9_isSound_83 rfl ?_
                            refine e_istore dX9_isSound_84 (Nat.le_of_ble_eq_true rfl) rfl ?_
                            refine e_iload dX9_isSound_86 rfl ?_
                            first | ((with_reducible refine mk_b ?_); refine b_if_ne (tgt := 118) dX9_isSound_88 (by decide) (fun h88 => ?_) (fun h88 => ?_)) | ((with_reducible refine mk_ll ?_); refine m_if_ne (tgt := 118) dX9_isSound_88 (by decide) (by omega) (by omega) (fun h88 => ?_) (fun h88 => ?_)) | ((with_reducible refine mk_lc ?_); refine l_if_ne (tgt := 118) dX9_isSound_88 (by decide) (fun h88 => ?_) (fun h88 => ?_)) | ((with_reducible refine mk_n ?_); refine n_if_ne (tgt := 118) dX9_isSound_88 (by decide) (by omega) (fun h88 => ?_) (fun h88 => ?_)) | refine e_if_ne (tgt := 118) dX9_isSound_88 (by decide) (fun h88 => ?_) (fun h88 => ?_)
                            · try first | contradiction | omega | (simp only [decide_eq_true_eq, decide_eq_false_iff_not] at h88; omega)
                              all_goals
                                first | refine n_inc dX9_isSound_118 rfl (Nat.le_of_ble_eq_true rfl) rfl ?_ | refine e_iinc dX9_isSound_118 rfl rfl (Nat.le_of_ble_eq_true rfl) rfl ?_
                                refine e_goto (tgt := 29) dX9_isSound_121 (by decide) ?_
                                refine e_iload_n dX9_isSound_29 rfl rfl ?_
                                refine e_bipush (v := nI 6) dX9_isSound_30 rfl ?_
                                contradiction
                            · try first | contradiction | omega | (simp only [decide_eq_true_eq, decide_eq_false_iff_not] at h88; omega)
                              all_goals
                                refine e_aload_n dX9_isSound_91 rfl rfl ?_
                                refine e_iload_n dX9_isSound_92 rfl rfl ?_
                                refine e_aload_n dX9_isSound_93 rfl rfl ?_
                                refine e_getR dX9_isSound_94 fl_X9_21 rfl (cm_map cm) ?_
                                refine e_getR dX9_isSound_97 fl_X9_82 rfl (by first | exact cm_tlo cm | exact cm_ctlo cm (by omega) | assumption) ?_
                                refine e_iload_n dX9_isSound_100 rfl rfl ?_
                                refine e_iadE _ dX9_isSound_101 ⟨by decide, by decide⟩ rfl rfl (by simp only [lenK]; omega) (by first | exact k_lo hK (by first | omega | (simp (disch := omega) only [upN_n, upN_s]; omega)) | exact k_clo hK (by omega) (by first | omega | (simp (disch := omega) only [upN_n, upN_s]; omega)) | assumption) ?_
                                refine e_aload_n dX9_isSound_102 rfl rfl ?_
                                refine e_getR dX9_isSound_103 fl_X9_21 rfl (cm_map cm) ?_
                                refine e_iload_n dX9_isSound_106 rfl rfl ?_
                                refine x_V1 (M' := mX8_endOf) dX9_isSound_107 ml_X9_85 ok_X8_endOf (by decide) rfl im_X8_endOf se_X8_endOf (ct_X8_endOf cm iv hK (by omega)) (Nat.le_of_ble_eq_true rfl) (by decide) (Nat.le_of_ble_eq_true rfl) ?_
                                refine x_V3 (M' := mX9_valuesIn) dX9_isSound_110 ml_X9_89 ok_X9_valuesIn (by decide) rfl im_X9_valuesIn se_X9_valuesIn (ct_X9_valuesIn cm iv hK (by omega) (by omega) (by omega)) (Nat.le_of_ble_eq_true rfl) (by decide) (Nat.le_of_ble_eq_true rfl) ?_
                                first | ((with_reducible refine mk_ll ?_); refine m_if_le (tgt := 118) dX9_isSound_113 (by decide) (by omega) (by omega) (fun h113 => ?_) (fun h113 => ?_)) | ((with_reducible refine mk_lc ?_); refine l_if_le (tgt := 118) dX9_isSound_113 (by decide) (fun h113 => ?_) (fun h113 => ?_)) | ((with_reducible refine mk_n ?_); refine n_if_le (tgt := 118) dX9_isSound_113 (by decide) (by omega) (fun h113 => ?_) (fun h113 => ?_)) | refine e_if_le (tgt := 118) dX9_isSound_113 (by decide) (fun h113 => ?_) (fun h113 => ?_)
                                · try first | contradiction | omega
                                  all_goals
                                    first | refine n_inc dX9_isSound_118 rfl (Nat.le_of_ble_eq_true rfl) rfl ?_ | refine e_iinc dX9_isSound_118 rfl rfl (Nat.le_of_ble_eq_true rfl) rfl ?_
                                    refine e_goto (tgt := 29) dX9_isSound_121 (by decide) ?_
                                    refine e_iload_n dX9_isSound_29 rfl rfl ?_
                                    refine e_bipush (v := nI 6) dX9_isSound_30 rfl ?_
                                    contradiction
                                · try first | contradiction | omega
                                  all_goals
                                    refine e_iconst (v := nI 0) dX9_isSound_116 rfl ?_
                                    first | ((with_reducible refine mk_b ?_); refine e_ret (some _) rfl (r_bool dX9_isSound_117 rfl) ?_) | ((with_reducible refine mk_n1 ?_); refine e_ret (some _) rfl (r_b1 dX9_isSound_117 rfl) ?_) | ((with_reducible refine mk_n0 ?_); refine e_ret (some _) rfl (r_b0 dX9_isSound_117 rfl) ?_)
                                    refine xq ?_ rfl rfl rfl rfl rfl
                                    unfold soC
                                    rw [fO_no hn]
                                    rfl
                        · try first | contradiction | omega
                          all_goals
                            refine e_iconst (v := nI 1) dX9_isSound_79 rfl ?_
                            refine e_goto (tgt := 84) dX9_isSound_80 (by decide) ?_
                            refine e_istore dX9_isSound_84 (Nat.le_of_ble_eq_true rfl) rfl ?_
                            refine e_iload dX9_isSound_86 rfl ?_
                            first | ((with_reducible refine mk_b ?_); refine b_if_ne (tgt := 118) dX9_isSound_88 (by decide) (fun h88 => ?_) (fun h88 => ?_)) | ((with_reducible refine mk_ll ?_); refine m_if_ne (tgt := 118) dX9_isSound_88 (by decide) (by omega) (by omega) (fun h88 => ?_) (fun h88 => ?_)) | ((with_reducible refine mk_lc ?_); refine l_if_ne (tgt := 118) dX9_isSound_88 (by decide) (fun h88 => ?_) (fun h88 => ?_)) | ((with_reducible refine mk_n ?_); refine n_if_ne (tgt := 118) dX9_isSound_88 (by decide) (by omega) (fun h88 => ?_) (fun h88 => ?_)) | refine e_if_ne (tgt := 118) dX9_isSound_88 (by decide) (fun h88 => ?_) (fun h88 => ?_)
                            · try first | contradiction | omega | (simp only [decide_eq_true_eq, decide_eq_false_iff_not] at h88; omega)
                              all_goals
                                first | refine n_inc dX9_isSound_118 rfl (Nat.le_of_ble_eq_true rfl) rfl ?_ | refine e_iinc dX9_isSound_118 rfl rfl (Nat.le_of_ble_eq_true rfl) rfl ?_
                                refine e_goto (tgt := 29) dX9_isSound_121 (by decide) ?_
                                refine e_iload_n dX9_isSound_29 rfl rfl ?_
                                refine e_bipush (v := nI 6) dX9_isSound_30 rfl ?_
                                contradiction
                            · try first | contradiction | omega | (simp only [decide_eq_true_eq, decide_eq_false_iff_not] at h88; omega)
                              all_goals
                                refine e_aload_n dX9_isSound_91 rfl rfl ?_
                                refine e_iload_n dX9_isSound_92 rfl rfl ?_
                                refine e_aload_n dX9_isSound_93 rfl rfl ?_
                                refine e_getR dX9_isSound_94 fl_X9_21 rfl (cm_map cm) ?_
                                refine e_getR dX9_isSound_97 fl_X9_82 rfl (by first | exact cm_tlo cm | exact cm_ctlo cm (by omega) | assumption) ?_
                                refine e_iload_n dX9_isSound_100 rfl rfl ?_
                                refine e_iadE _ dX9_isSound_101 ⟨by decide, by decide⟩ rfl rfl (by simp only [lenK]; omega) (by first | exact k_lo hK (by first | omega | (simp (disch := omega) only [upN_n, upN_s]; omega)) | exact k_clo hK (by omega) (by first | omega | (simp (disch := omega) only [upN_n, upN_s]; omega)) | assumption) ?_
                                refine e_aload_n dX9_isSound_102 rfl rfl ?_
                                refine e_getR dX9_isSound_103 fl_X9_21 rfl (cm_map cm) ?_
                                refine e_iload_n dX9_isSound_106 rfl rfl ?_
                                refine x_V1 (M' := mX8_endOf) dX9_isSound_107 ml_X9_85 ok_X8_endOf (by decide) rfl im_X8_endOf se_X8_endOf (ct_X8_endOf cm iv hK (by omega)) (Nat.le_of_ble_eq_true rfl) (by decide) (Nat.le_of_ble_eq_true rfl) ?_
                                refine x_V3 (M' := mX9_valuesIn) dX9_isSound_110 ml_X9_89 ok_X9_valuesIn (by decide) rfl im_X9_valuesIn se_X9_valuesIn (ct_X9_valuesIn cm iv hK (by omega) (by omega) (by omega)) (Nat.le_of_ble_eq_true rfl) (by decide) (Nat.le_of_ble_eq_true rfl) ?_
                                first | ((with_reducible refine mk_ll ?_); refine m_if_le (tgt := 118) dX9_isSound_113 (by decide) (by omega) (by omega) (fun h113 => ?_) (fun h113 => ?_)) | ((with_reducible refine mk_lc ?_); refine l_if_le (tgt := 118) dX9_isSound_113 (by decide) (fun h113 => ?_) (fun h113 => ?_)) | ((with_reducible refine mk_n ?_); refine n_if_le (tgt := 118) dX9_isSound_113 (by decide) (by omega) (fun h113 => ?_) (fun h113 => ?_)) | refine e_if_le (tgt := 118) dX9_isSound_113 (by decide) (fun h113 => ?_) (fun h113 => ?_)
                                · try first | contradiction | omega
                                  all_goals
                                    first | refine n_inc dX9_isSound_118 rfl (Nat.le_of_ble_eq_true rfl) rfl ?_ | refine e_iinc dX9_isSound_118 rfl rfl (Nat.le_of_ble_eq_true rfl) rfl ?_
                                    refine e_goto (tgt := 29) dX9_isSound_121 (by decide) ?_
                                    refine e_iload_n dX9_isSound_29 rfl rfl ?_
                                    refine e_bipush (v := nI 6) dX9_isSound_30 rfl ?_
                                    contradiction
                                · try first | contradiction | omega
                                  all_goals
                                    refine e_iconst (v := nI 0) dX9_isSound_116 rfl ?_
                                    first | ((with_reducible refine mk_b ?_); refine e_ret (some _) rfl (r_bool dX9_isSound_117 rfl) ?_) | ((with_reducible refine mk_n1 ?_); refine e_ret (some _) rfl (r_b1 dX9_isSound_117 rfl) ?_) | ((with_reducible refine mk_n0 ?_); refine e_ret (some _) rfl (r_b0 dX9_isSound_117 rfl) ?_)
                                    refine xq ?_ rfl rfl rfl rfl rfl
                                    unfold soC
                                    rw [fO_no hn]
                                    rfl
    )
  refine e_iconst (v := nI 0) dX9_isSound_0 rfl ?_
  refine e_istore_n dX9_isSound_1 rfl (Nat.le_of_ble_eq_true rfl) rfl ?_
  exact key 0 (by omega) (fun q hq => absurd hq (by omega)) _ _ _
theorem ct_X6_heaviestFree {fi : FI} {fr : FR} {ai : FI} {ar : FR} {N : Nat} {w : Nat → Nat} (cm : CM fr ar) (iv : Inv w) (hP : PL fi ai w) {s : Nat} (hs : s < 6) : CP mX6_heaviestFree 1 0 0 [.ref (rf 6 65), .int (nI s)] fi fr ai ar N (xQ (some (.int (oI (hvO w s)))) fi fr ai ar N) := by
  have h1 := iv_n iv
  have h3 := iv_mm iv
  have bd := Bd_iv iv
  have hF : FR1 fi ai fi ai := FR1_rf
  change EV mX6_heaviestFree 1 0 0 0 [some (.ref (rf 6 65)), some (.int (nI s)), none, none] [] fi fr ai ar N (xQ (some (.int (oI (hvO w s)))) fi fr ai ar N)
  have key := ev_up (P := (fun j => EV mX6_heaviestFree 1 0 0 4 [some (.ref (rf 6 65)), some (.int (nI s)), some (.int (oI (bst (fun i => decide (w (42 + i) = s) && (mvL w (w (10 + i))).isNone) (fun i q => decide (wtF w q < wtF w i)) j))), some (.int (nI j))] [] fi fr ai ar N (xQ (some (.int (oI (hvO w s)))) fi fr ai ar N))) (w 1) (fun j hj ih => by
    have ho := iv_own iv hj
    have hw := wtF_le iv hj
    have hnn : (mvL w (w (10 + j))).isNone = !(mvL w (w (10 + j))).isSome := by cases mvL w (w (10 + j)) <;> rfl
    cases hb : bst (fun i => decide (w (42 + i) = s) && (mvL w (w (10 + i))).isNone) (fun i q => decide (wtF w q < wtF w i)) j with
    | none =>
      refine e_iload_n dX6_heaviestFree_4 rfl rfl ?_
      refine e_aload_n dX6_heaviestFree_5 rfl rfl ?_
      refine e_getE dX6_heaviestFree_6 fl_X6_43 rfl (pl_n hP) ?_
      first | ((with_reducible refine mk_nn ?_); refine n_icmp_ge (tgt := 57) dX6_heaviestFree_9 (by decide) (by omega) (by omega) (fun h9 => ?_) (fun h9 => ?_)) | refine e_icmp_ge (tgt := 57) dX6_heaviestFree_9 (by decide) (fun h9 => ?_) (fun h9 => ?_)
      · try first | contradiction | omega
        all_goals
          refine e_iload_n dX6_heaviestFree_57 rfl rfl ?_
          refine e_ret (some _) rfl (r_int dX6_heaviestFree_58 rfl) ?_
          exact xq (by first | rfl | simp_all [bI_t, bI_f]) rfl rfl rfl rfl rfl
      · try first | contradiction | omega
        all_goals
          refine e_aload_n dX6_heaviestFree_12 rfl rfl ?_
          refine e_getR dX6_heaviestFree_13 fl_X6_18 rfl (cp_own cm) ?_
          refine e_iload_n dX6_heaviestFree_16 rfl rfl ?_
          refine e_iadE _ dX6_heaviestFree_17 ⟨by decide, by decide⟩ rfl rfl (by simp only [lenK]; omega) (pl_ow hP (by omega)) ?_
          refine e_iload_n dX6_heaviestFree_18 rfl rfl ?_
          first | ((with_reducible refine mk_mo ?_); refine p_icmp_ne (tgt := 51) dX6_heaviestFree_19 (by decide) (fun h19 => ?_) (fun h19 => ?_)) | ((with_reducible refine mk_ms ?_); refine s_icmp_ne (tgt := 51) dX6_heaviestFree_19 (by decide) (by omega) (fun h19 => ?_) (fun h19 => ?_)) | ((with_reducible refine mk_mn ?_); refine q_icmp_ne (tgt := 51) dX6_heaviestFree_19 (by decide) (by omega) (fun h19 => ?_) (fun h19 => ?_)) | ((with_reducible refine mk_nn ?_); refine n_icmp_ne (tgt := 51) dX6_heaviestFree_19 (by decide) (by omega) (by omega) (fun h19 => ?_) (fun h19 => ?_)) | refine e_icmp_ne (tgt := 51) dX6_heaviestFree_19 (by decide) (fun h19 => ?_) (fun h19 => ?_)
          · try first | contradiction | omega
            all_goals
              first | refine n_inc dX6_heaviestFree_51 rfl (Nat.le_of_ble_eq_true rfl) rfl ?_ | refine e_iinc dX6_heaviestFree_51 rfl rfl (Nat.le_of_ble_eq_true rfl) rfl ?_
              refine e_goto (tgt := 4) dX6_heaviestFree_54 (by decide) ?_
              first | (rw [bst_f (c := fun i => decide (w (42 + i) = s) && (mvL w (w (10 + i))).isNone) (b := fun i q => decide (wtF w q < wtF w i)) (n := j) (by grind), hb] at ih; exact ih) | (rw [bst_0 (c := fun i => decide (w (42 + i) = s) && (mvL w (w (10 + i))).isNone) (b := fun i q => decide (wtF w q < wtF w i)) (n := j) (by grind) hb] at ih; exact ih)
          · try first | contradiction | omega
            all_goals
              refine e_aload_n dX6_heaviestFree_22 rfl rfl ?_
              refine e_getR dX6_heaviestFree_23 fl_X6_21 rfl (cp_busy cm) ?_
              refine e_iload_n dX6_heaviestFree_26 rfl rfl ?_
              refine e_zadE _ dX6_heaviestFree_27 ⟨by decide, by decide⟩ rfl rfl (by simp only [lenK]; omega) (pl_bu hP (by omega)) ?_
              first | ((with_reducible refine mk_b ?_); refine b_if_ne (tgt := 51) dX6_heaviestFree_28 (by decide) (fun h28 => ?_) (fun h28 => ?_)) | ((with_reducible refine mk_ll ?_); refine m_if_ne (tgt := 51) dX6_heaviestFree_28 (by decide) (by omega) (by omega) (fun h28 => ?_) (fun h28 => ?_)) | ((with_reducible refine mk_lc ?_); refine l_if_ne (tgt := 51) dX6_heaviestFree_28 (by decide) (fun h28 => ?_) (fun h28 => ?_)) | ((with_reducible refine mk_n ?_); refine n_if_ne (tgt := 51) dX6_heaviestFree_28 (by decide) (by omega) (fun h28 => ?_) (fun h28 => ?_)) | refine e_if_ne (tgt := 51) dX6_heaviestFree_28 (by decide) (fun h28 => ?_) (fun h28 => ?_)
              · try first | contradiction | omega | (simp only [decide_eq_true_eq, decide_eq_false_iff_not] at h28; omega)
                all_goals
                  first | refine n_inc dX6_heaviestFree_51 rfl (Nat.le_of_ble_eq_true rfl) rfl ?_ | refine e_iinc dX6_heaviestFree_51 rfl rfl (Nat.le_of_ble_eq_true rfl) rfl ?_
                  refine e_goto (tgt := 4) dX6_heaviestFree_54 (by decide) ?_
                  first | (rw [bst_f (c := fun i => decide (w (42 + i) = s) && (mvL w (w (10 + i))).isNone) (b := fun i q => decide (wtF w q < wtF w i)) (n := j) (by grind), hb] at ih; exact ih) | (rw [bst_0 (c := fun i => decide (w (42 + i) = s) && (mvL w (w (10 + i))).isNone) (b := fun i q => decide (wtF w q < wtF w i)) (n := j) (by grind) hb] at ih; exact ih)
              · try first | contradiction | omega | (simp only [decide_eq_true_eq, decide_eq_false_iff_not] at h28; omega)
                all_goals
                  refine e_iload_n dX6_heaviestFree_31 rfl rfl ?_
                  refine e_iconst (v := -1) dX6_heaviestFree_32 rfl ?_
                  first | ((with_reducible refine mk_mo ?_); refine p_icmp_eq (tgt := 49) dX6_heaviestFree_33 (by decide) (fun h33 => ?_) (fun h33 => ?_)) | ((with_reducible refine mk_ms ?_); refine s_icmp_eq (tgt := 49) dX6_heaviestFree_33 (by decide) (by omega) (fun h33 => ?_) (fun h33 => ?_)) | ((with_reducible refine mk_mn ?_); refine q_icmp_eq (tgt := 49) dX6_heaviestFree_33 (by decide) (by omega) (fun h33 => ?_) (fun h33 => ?_)) | ((with_reducible refine mk_nn ?_); refine n_icmp_eq (tgt := 49) dX6_heaviestFree_33 (by decide) (by omega) (by omega) (fun h33 => ?_) (fun h33 => ?_)) | refine e_icmp_eq (tgt := 49) dX6_heaviestFree_33 (by decide) (fun h33 => ?_) (fun h33 => ?_)
                  · try first | contradiction | omega
                    all_goals
                      refine e_iload_n dX6_heaviestFree_49 rfl rfl ?_
                      refine e_istore_n dX6_heaviestFree_50 rfl (Nat.le_of_ble_eq_true rfl) rfl ?_
                      first | refine n_inc dX6_heaviestFree_51 rfl (Nat.le_of_ble_eq_true rfl) rfl ?_ | refine e_iinc dX6_heaviestFree_51 rfl rfl (Nat.le_of_ble_eq_true rfl) rfl ?_
                      refine e_goto (tgt := 4) dX6_heaviestFree_54 (by decide) ?_
                      first | (rw [bst_f (c := fun i => decide (w (42 + i) = s) && (mvL w (w (10 + i))).isNone) (b := fun i q => decide (wtF w q < wtF w i)) (n := j) (by grind), hb] at ih; exact ih) | (rw [bst_0 (c := fun i => decide (w (42 + i) = s) && (mvL w (w (10 + i))).isNone) (b := fun i q => decide (wtF w q < wtF w i)) (n := j) (by grind) hb] at ih; exact ih)
                  · try first | contradiction | omega
                    all_goals
                      refine e_aload_n dX6_heaviestFree_36 rfl rfl ?_
                      refine e_iload_n dX6_heaviestFree_37 rfl rfl ?_
                      refine x_V1 (M' := mX6_weightOf) dX6_heaviestFree_38 ml_X6_60 ok_X6_weightOf (by decide) rfl im_X6_weightOf se_X6_weightOf (ct_X6_weightOf cm iv hP (by omega)) (Nat.le_of_ble_eq_true rfl) (by decide) (Nat.le_of_ble_eq_true rfl) ?_
                      refine e_aload_n dX6_heaviestFree_41 rfl rfl ?_
                      refine e_iload_n dX6_heaviestFree_42 rfl rfl ?_
                      refine x_V1 (M' := mX6_weightOf) dX6_heaviestFree_43 ml_X6_60 ok_X6_weightOf (by decide) rfl im_X6_weightOf se_X6_weightOf (ct_X6_weightOf cm iv hP (by omega)) (Nat.le_of_ble_eq_true rfl) (by decide) (Nat.le_of_ble_eq_true rfl) ?_
                      first | ((with_reducible refine mk_nn ?_); refine n_icmp_le (tgt := 51) dX6_heaviestFree_46 (by decide) (by omega) (by omega) (fun h46 => ?_) (fun h46 => ?_)) | refine e_icmp_le (tgt := 51) dX6_heaviestFree_46 (by decide) (fun h46 => ?_) (fun h46 => ?_)
                      · try first | contradiction | omega
                        all_goals
                          first | refine n_inc dX6_heaviestFree_51 rfl (Nat.le_of_ble_eq_true rfl) rfl ?_ | refine e_iinc dX6_heaviestFree_51 rfl rfl (Nat.le_of_ble_eq_true rfl) rfl ?_
                          refine e_goto (tgt := 4) dX6_heaviestFree_54 (by decide) ?_
                          first | (rw [bst_f (c := fun i => decide (w (42 + i) = s) && (mvL w (w (10 + i))).isNone) (b := fun i q => decide (wtF w q < wtF w i)) (n := j) (by grind), hb] at ih; exact ih) | (rw [bst_0 (c := fun i => decide (w (42 + i) = s) && (mvL w (w (10 + i))).isNone) (b := fun i q => decide (wtF w q < wtF w i)) (n := j) (by grind) hb] at ih; exact ih)
                      · try first | contradiction | omega
                        all_goals
                          refine e_iload_n dX6_heaviestFree_49 rfl rfl ?_
                          refine e_istore_n dX6_heaviestFree_50 rfl (Nat.le_of_ble_eq_true rfl) rfl ?_
                          first | refine n_inc dX6_heaviestFree_51 rfl (Nat.le_of_ble_eq_true rfl) rfl ?_ | refine e_iinc dX6_heaviestFree_51 rfl rfl (Nat.le_of_ble_eq_true rfl) rfl ?_
                          refine e_goto (tgt := 4) dX6_heaviestFree_54 (by decide) ?_
                          first | (rw [bst_f (c := fun i => decide (w (42 + i) = s) && (mvL w (w (10 + i))).isNone) (b := fun i q => decide (wtF w q < wtF w i)) (n := j) (by grind), hb] at ih; exact ih) | (rw [bst_0 (c := fun i => decide (w (42 + i) = s) && (mvL w (w (10 + i))).isNone) (b := fun i q => decide (wtF w q < wtF w i)) (n := j) (by grind) hb] at ih; exact ih)
    | some q =>
      have hq := (bst_in hb).1
      have hqc := (bst_in hb).2
      rw [oI_s]
      have hw2 := wtF_le iv (Nat.lt_trans hq hj)
      refine e_iload_n dX6_heaviestFree_4 rfl rfl ?_
      refine e_aload_n dX6_heaviestFree_5 rfl rfl ?_
      refine e_getE dX6_heaviestFree_6 fl_X6_43 rfl (pl_n hP) ?_
      first | ((with_reducible refine mk_nn ?_); refine n_icmp_ge (tgt := 57) dX6_heaviestFree_9 (by decide) (by omega) (by omega) (fun h9 => ?_) (fun h9 => ?_)) | refine e_icmp_ge (tgt := 57) dX6_heaviestFree_9 (by decide) (fun h9 => ?_) (fun h9 => ?_)
      · try first | contradiction | omega
        all_goals
          refine e_iload_n dX6_heaviestFree_57 rfl rfl ?_
          refine e_ret (some _) rfl (r_int dX6_heaviestFree_58 rfl) ?_
          exact xq (by first | rfl | simp_all [bI_t, bI_f]) rfl rfl rfl rfl rfl
      · try first | contradiction | omega
        all_goals
          refine e_aload_n dX6_heaviestFree_12 rfl rfl ?_
          refine e_getR dX6_heaviestFree_13 fl_X6_18 rfl (cp_own cm) ?_
          refine e_iload_n dX6_heaviestFree_16 rfl rfl ?_
          refine e_iadE _ dX6_heaviestFree_17 ⟨by decide, by decide⟩ rfl rfl (by simp only [lenK]; omega) (pl_ow hP (by omega)) ?_
          refine e_iload_n dX6_heaviestFree_18 rfl rfl ?_
          first | ((with_reducible refine mk_mo ?_); refine p_icmp_ne (tgt := 51) dX6_heaviestFree_19 (by decide) (fun h19 => ?_) (fun h19 => ?_)) | ((with_reducible refine mk_ms ?_); refine s_icmp_ne (tgt := 51) dX6_heaviestFree_19 (by decide) (by omega) (fun h19 => ?_) (fun h19 => ?_)) | ((with_reducible refine mk_mn ?_); refine q_icmp_ne (tgt := 51) dX6_heaviestFree_19 (by decide) (by omega) (fun h19 => ?_) (fun h19 => ?_)) | ((with_reducible refine mk_nn ?_); refine n_icmp_ne (tgt := 51) dX6_heaviestFree_19 (by decide) (by omega) (by omega) (fun h19 => ?_) (fun h19 => ?_)) | refine e_icmp_ne (tgt := 51) dX6_heaviestFree_19 (by decide) (fun h19 => ?_) (fun h19 => ?_)
          · try first | contradiction | omega
            all_goals
              first | refine n_inc dX6_heaviestFree_51 rfl (Nat.le_of_ble_eq_true rfl) rfl ?_ | refine e_iinc dX6_heaviestFree_51 rfl rfl (Nat.le_of_ble_eq_true rfl) rfl ?_
              refine e_goto (tgt := 4) dX6_heaviestFree_54 (by decide) ?_
              first | (rw [bst_f (c := fun i => decide (w (42 + i) = s) && (mvL w (w (10 + i))).isNone) (b := fun i q => decide (wtF w q < wtF w i)) (n := j) (by grind), hb] at ih; exact ih) | (rw [bst_0 (c := fun i => decide (w (42 + i) = s) && (mvL w (w (10 + i))).isNone) (b := fun i q => decide (wtF w q < wtF w i)) (n := j) (by grind) hb] at ih; exact ih) | (rw [bst_1 (c := fun i => decide (w (42 + i) = s) && (mvL w (w (10 + i))).isNone) (b := fun i q => decide (wtF w q < wtF w i)) (n := j) (by grind) hb (by grind)] at ih; exact ih) | (rw [bst_2 (c := fun i => decide (w (42 + i) = s) && (mvL w (w (10 + i))).isNone) (b := fun i q => decide (wtF w q < wtF w i)) (n := j) (by grind) hb (by grind)] at ih; exact ih)
          · try first | contradiction | omega
            all_goals
              refine e_aload_n dX6_heaviestFree_22 rfl rfl ?_
              refine e_getR dX6_heaviestFree_23 fl_X6_21 rfl (cp_busy cm) ?_
              refine e_iload_n dX6_heaviestFree_26 rfl rfl ?_
              refine e_zadE _ dX6_heaviestFree_27 ⟨by decide, by decide⟩ rfl rfl (by simp only [lenK]; omega) (pl_bu hP (by omega)) ?_
              first | ((with_reducible refine mk_b ?_); refine b_if_ne (tgt := 51) dX6_heaviestFree_28 (by decide) (fun h28 => ?_) (fun h28 => ?_)) | ((with_reducible refine mk_ll ?_); refine m_if_ne (tgt := 51) dX6_heaviestFree_28 (by decide) (by omega) (by omega) (fun h28 => ?_) (fun h28 => ?_)) | ((with_reducible refine mk_lc ?_); refine l_if_ne (tgt := 51) dX6_heaviestFree_28 (by decide) (fun h28 => ?_) (fun h28 => ?_)) | ((with_reducible refine mk_n ?_); refine n_if_ne (tgt := 51) dX6_heaviestFree_28 (by decide) (by omega) (fun h28 => ?_) (fun h28 => ?_)) | refine e_if_ne (tgt := 51) dX6_heaviestFree_28 (by decide) (fun h28 => ?_) (fun h28 => ?_)
              · try first | contradiction | omega | (simp only [decide_eq_true_eq, decide_eq_false_iff_not] at h28; omega)
                all_goals
                  first | refine n_inc dX6_heaviestFree_51 rfl (Nat.le_of_ble_eq_true rfl) rfl ?_ | refine e_iinc dX6_heaviestFree_51 rfl rfl (Nat.le_of_ble_eq_true rfl) rfl ?_
                  refine e_goto (tgt := 4) dX6_heaviestFree_54 (by decide) ?_
                  first | (rw [bst_f (c := fun i => decide (w (42 + i) = s) && (mvL w (w (10 + i))).isNone) (b := fun i q => decide (wtF w q < wtF w i)) (n := j) (by grind), hb] at ih; exact ih) | (rw [bst_0 (c := fun i => decide (w (42 + i) = s) && (mvL w (w (10 + i))).isNone) (b := fun i q => decide (wtF w q < wtF w i)) (n := j) (by grind) hb] at ih; exact ih) | (rw [bst_1 (c := fun i => decide (w (42 + i) = s) && (mvL w (w (10 + i))).isNone) (b := fun i q => decide (wtF w q < wtF w i)) (n := j) (by grind) hb (by grind)] at ih; exact ih) | (rw [bst_2 (c := fun i => decide (w (42 + i) = s) && (mvL w (w (10 + i))).isNone) (b := fun i q => decide (wtF w q < wtF w i)) (n := j) (by grind) hb (by grind)] at ih; exact ih)
              · try first | contradiction | omega | (simp only [decide_eq_true_eq, decide_eq_false_iff_not] at h28; omega)
                all_goals
                  refine e_iload_n dX6_heaviestFree_31 rfl rfl ?_
                  refine e_iconst (v := -1) dX6_heaviestFree_32 rfl ?_
                  first | ((with_reducible refine mk_mo ?_); refine p_icmp_eq (tgt := 49) dX6_heaviestFree_33 (by decide) (fun h33 => ?_) (fun h33 => ?_)) | ((with_reducible refine mk_ms ?_); refine s_icmp_eq (tgt := 49) dX6_heaviestFree_33 (by decide) (by omega) (fun h33 => ?_) (fun h33 => ?_)) | ((with_reducible refine mk_mn ?_); refine q_icmp_eq (tgt := 49) dX6_heaviestFree_33 (by decide) (by omega) (fun h33 => ?_) (fun h33 => ?_)) | ((with_reducible refine mk_nn ?_); refine n_icmp_eq (tgt := 49) dX6_heaviestFree_33 (by decide) (by omega) (by omega) (fun h33 => ?_) (fun h33 => ?_)) | refine e_icmp_eq (tgt := 49) dX6_heaviestFree_33 (by decide) (fun h33 => ?_) (fun h33 => ?_)
                  · try first | contradiction | omega
                    all_goals
                      refine e_iload_n dX6_heaviestFree_49 rfl rfl ?_
                      refine e_istore_n dX6_heaviestFree_50 rfl (Nat.le_of_ble_eq_true rfl) rfl ?_
                      first | refine n_inc dX6_heaviestFree_51 rfl (Nat.le_of_ble_eq_true rfl) rfl ?_ | refine e_iinc dX6_heaviestFree_51 rfl rfl (Nat.le_of_ble_eq_true rfl) rfl ?_
                      refine e_goto (tgt := 4) dX6_heaviestFree_54 (by decide) ?_
                      first | (rw [bst_f (c := fun i => decide (w (42 + i) = s) && (mvL w (w (10 + i))).isNone) (b := fun i q => decide (wtF w q < wtF w i)) (n := j) (by grind), hb] at ih; exact ih) | (rw [bst_0 (c := fun i => decide (w (42 + i) = s) && (mvL w (w (10 + i))).isNone) (b := fun i q => decide (wtF w q < wtF w i)) (n := j) (by grind) hb] at ih; exact ih) | (rw [bst_1 (c := fun i => decide (w (42 + i) = s) && (mvL w (w (10 + i))).isNone) (b := fun i q => decide (wtF w q < wtF w i)) (n := j) (by grind) hb (by grind)] at ih; exact ih) | (rw [bst_2 (c := fun i => decide (w (42 + i) = s) && (mvL w (w (10 + i))).isNone) (b := fun i q => decide (wtF w q < wtF w i)) (n := j) (by grind) hb (by grind)] at ih; exact ih)
                  · try first | contradiction | omega
                    all_goals
                      refine e_aload_n dX6_heaviestFree_36 rfl rfl ?_
                      refine e_iload_n dX6_heaviestFree_37 rfl rfl ?_
                      refine x_V1 (M' := mX6_weightOf) dX6_heaviestFree_38 ml_X6_60 ok_X6_weightOf (by decide) rfl im_X6_weightOf se_X6_weightOf (ct_X6_weightOf cm iv hP (by omega)) (Nat.le_of_ble_eq_true rfl) (by decide) (Nat.le_of_ble_eq_true rfl) ?_
                      refine e_aload_n dX6_heaviestFree_41 rfl rfl ?_
                      refine e_iload_n dX6_heaviestFree_42 rfl rfl ?_
                      refine x_V1 (M' := mX6_weightOf) dX6_heaviestFree_43 ml_X6_60 ok_X6_weightOf (by decide) rfl im_X6_weightOf se_X6_weightOf (ct_X6_weightOf cm iv hP (by omega)) (Nat.le_of_ble_eq_true rfl) (by decide) (Nat.le_of_ble_eq_true rfl) ?_
                      first | ((with_reducible refine mk_nn ?_); refine n_icmp_le (tgt := 51) dX6_heaviestFree_46 (by decide) (by omega) (by omega) (fun h46 => ?_) (fun h46 => ?_)) | refine e_icmp_le (tgt := 51) dX6_heaviestFree_46 (by decide) (fun h46 => ?_) (fun h46 => ?_)
                      · try first | contradiction | omega
                        all_goals
                          first | refine n_inc dX6_heaviestFree_51 rfl (Nat.le_of_ble_eq_true rfl) rfl ?_ | refine e_iinc dX6_heaviestFree_51 rfl rfl (Nat.le_of_ble_eq_true rfl) rfl ?_
                          refine e_goto (tgt := 4) dX6_heaviestFree_54 (by decide) ?_
                          first | (rw [bst_f (c := fun i => decide (w (42 + i) = s) && (mvL w (w (10 + i))).isNone) (b := fun i q => decide (wtF w q < wtF w i)) (n := j) (by grind), hb] at ih; exact ih) | (rw [bst_0 (c := fun i => decide (w (42 + i) = s) && (mvL w (w (10 + i))).isNone) (b := fun i q => decide (wtF w q < wtF w i)) (n := j) (by grind) hb] at ih; exact ih) | (rw [bst_1 (c := fun i => decide (w (42 + i) = s) && (mvL w (w (10 + i))).isNone) (b := fun i q => decide (wtF w q < wtF w i)) (n := j) (by grind) hb (by grind)] at ih; exact ih) | (rw [bst_2 (c := fun i => decide (w (42 + i) = s) && (mvL w (w (10 + i))).isNone) (b := fun i q => decide (wtF w q < wtF w i)) (n := j) (by grind) hb (by grind)] at ih; exact ih)
                      · try first | contradiction | omega
                        all_goals
                          refine e_iload_n dX6_heaviestFree_49 rfl rfl ?_
                          refine e_istore_n dX6_heaviestFree_50 rfl (Nat.le_of_ble_eq_true rfl) rfl ?_
                          first | refine n_inc dX6_heaviestFree_51 rfl (Nat.le_of_ble_eq_true rfl) rfl ?_ | refine e_iinc dX6_heaviestFree_51 rfl rfl (Nat.le_of_ble_eq_true rfl) rfl ?_
                          refine e_goto (tgt := 4) dX6_heaviestFree_54 (by decide) ?_
                          first | (rw [bst_f (c := fun i => decide (w (42 + i) = s) && (mvL w (w (10 + i))).isNone) (b := fun i q => decide (wtF w q < wtF w i)) (n := j) (by grind), hb] at ih; exact ih) | (rw [bst_0 (c := fun i => decide (w (42 + i) = s) && (mvL w (w (10 + i))).isNone) (b := fun i q => decide (wtF w q < wtF w i)) (n := j) (by grind) hb] at ih; exact ih) | (rw [bst_1 (c := fun i => decide (w (42 + i) = s) && (mvL w (w (10 + i))).isNone) (b := fun i q => decide (wtF w q < wtF w i)) (n := j) (by grind) hb (by grind)] at ih; exact ih) | (rw [bst_2 (c := fun i => decide (w (42 + i) = s) && (mvL w (w (10 + i))).isNone) (b := fun i q => decide (wtF w q < wtF w i)) (n := j) (by grind) hb (by grind)] at ih; exact ih)
    ) (by
    refine e_iload_n dX6_heaviestFree_4 rfl rfl ?_
    refine e_aload_n dX6_heaviestFree_5 rfl rfl ?_
    refine e_getE dX6_heaviestFree_6 fl_X6_43 rfl (pl_n hP) ?_
    first | ((with_reducible refine mk_nn ?_); refine n_icmp_ge (tgt := 57) dX6_heaviestFree_9 (by decide) (by omega) (by omega) (fun h9 => ?_) (fun h9 => ?_)) | refine e_icmp_ge (tgt := 57) dX6_heaviestFree_9 (by decide) (fun h9 => ?_) (fun h9 => ?_)
    · try first | contradiction | omega
      all_goals
        refine e_iload_n dX6_heaviestFree_57 rfl rfl ?_
        refine e_ret (some _) rfl (r_int dX6_heaviestFree_58 rfl) ?_
        exact xq rfl rfl rfl rfl rfl rfl
    · try first | contradiction | omega
      all_goals
        refine e_aload_n dX6_heaviestFree_12 rfl rfl ?_
        refine e_getR dX6_heaviestFree_13 fl_X6_18 rfl (cp_own cm) ?_
        refine e_iload_n dX6_heaviestFree_16 rfl rfl ?_
        refine e_iadE _ dX6_heaviestFree_17 ⟨by decide, by decide⟩ rfl rfl (by simp only [lenK]; omega) (pl_ow hP (by omega)) ?_
        refine e_iload_n dX6_heaviestFree_18 rfl rfl ?_
        first | ((with_reducible refine mk_mo ?_); refine p_icmp_ne (tgt := 51) dX6_heaviestFree_19 (by decide) (fun h19 => ?_) (fun h19 => ?_)) | ((with_reducible refine mk_ms ?_); refine s_icmp_ne (tgt := 51) dX6_heaviestFree_19 (by decide) (by omega) (fun h19 => ?_) (fun h19 => ?_)) | ((with_reducible refine mk_mn ?_); refine q_icmp_ne (tgt := 51) dX6_heaviestFree_19 (by decide) (by omega) (fun h19 => ?_) (fun h19 => ?_)) | ((with_reducible refine mk_nn ?_); refine n_icmp_ne (tgt := 51) dX6_heaviestFree_19 (by decide) (by omega) (by omega) (fun h19 => ?_) (fun h19 => ?_)) | refine e_icmp_ne (tgt := 51) dX6_heaviestFree_19 (by decide) (fun h19 => ?_) (fun h19 => ?_)
        · try first | contradiction | omega
          all_goals
            first | refine n_inc dX6_heaviestFree_51 rfl (Nat.le_of_ble_eq_true rfl) rfl ?_ | refine e_iinc dX6_heaviestFree_51 rfl rfl (Nat.le_of_ble_eq_true rfl) rfl ?_
            refine e_goto (tgt := 4) dX6_heaviestFree_54 (by decide) ?_
            first | (rw [bst_f (c := fun i => decide (w (42 + i) = s) && (mvL w (w (10 + i))).isNone) (b := fun i q => decide (wtF w q < wtF w i)) (n := j) (by grind), hb] at ih; exact ih) | (rw [bst_0 (c := fun i => decide (w (42 + i) = s) && (mvL w (w (10 + i))).isNone) (b := fun i q => decide (wtF w q < wtF w i)) (n := j) (by grind) hb] at ih; exact ih) | (rw [bst_1 (c := fun i => decide (w (42 + i) = s) && (mvL w (w (10 + i))).isNone) (b := fun i q => decide (wtF w q < wtF w i)) (n := j) (by grind) hb (by grind)] at ih; exact ih) | (rw [bst_2 (c := fun i => decide (w (42 + i) = s) && (mvL w (w (10 + i))).isNone) (b := fun i q => decide (wtF w q < wtF w i)) (n := j) (by grind) hb (by grind)] at ih; exact ih)
        · try first | contradiction | omega
          all_goals
            refine e_aload_n dX6_heaviestFree_22 rfl rfl ?_
            refine e_getR dX6_heaviestFree_23 fl_X6_21 rfl (cp_busy cm) ?_
            refine e_iload_n dX6_heaviestFree_26 rfl rfl ?_
            refine e_zadE _ dX6_heaviestFree_27 ⟨by decide, by decide⟩ rfl rfl (by simp only [lenK]; omega) (pl_bu hP (by omega)) ?_
            first | ((with_reducible refine mk_b ?_); refine b_if_ne (tgt := 51) dX6_heaviestFree_28 (by decide) (fun h28 => ?_) (fun h28 => ?_)) | ((with_reducible refine mk_ll ?_); refine m_if_ne (tgt := 51) dX6_heaviestFree_28 (by decide) (by omega) (by omega) (fun h28 => ?_) (fun h28 => ?_)) | ((with_reducible refine mk_lc ?_); refine l_if_ne (tgt := 51) dX6_heaviestFree_28 (by decide) (fun h28 => ?_) (fun h28 => ?_)) | ((with_reducible refine mk_n ?_); refine n_if_ne (tgt := 51) dX6_heaviestFree_28 (by decide) (by omega) (fun h28 => ?_) (fun h28 => ?_)) | refine e_if_ne (tgt := 51) dX6_heaviestFree_28 (by decide) (fun h28 => ?_) (fun h28 => ?_)
            · try first | contradiction | omega | (simp only [decide_eq_true_eq, decide_eq_false_iff_not] at h28; omega)
              all_goals
                first | refine n_inc dX6_heaviestFree_51 rfl (Nat.le_of_ble_eq_true rfl) rfl ?_ | refine e_iinc dX6_heaviestFree_51 rfl rfl (Nat.le_of_ble_eq_true rfl) rfl ?_
                refine e_goto (tgt := 4) dX6_heaviestFree_54 (by decide) ?_
                first | (rw [bst_f (c := fun i => decide (w (42 + i) = s) && (mvL w (w (10 + i))).isNone) (b := fun i q => decide (wtF w q < wtF w i)) (n := j) (by grind), hb] at ih; exact ih) | (rw [bst_0 (c := fun i => decide (w (42 + i) = s) && (mvL w (w (10 + i))).isNone) (b := fun i q => decide (wtF w q < wtF w i)) (n := j) (by grind) hb] at ih; exact ih) | (rw [bst_1 (c := fun i => decide (w (42 + i) = s) && (mvL w (w (10 + i))).isNone) (b := fun i q => decide (wtF w q < wtF w i)) (n := j) (by grind) hb (by grind)] at ih; exact ih) | (rw [bst_2 (c := fun i => decide (w (42 + i) = s) && (mvL w (w (10 + i))).isNone) (b := fun i q => decide (wtF w q < wtF w i)) (n := j) (by grind) hb (by grind)] at ih; exact ih)
            · try first | contradiction | omega | (simp only [decide_eq_true_eq, decide_eq_false_iff_not] at h28; omega)
              all_goals
                refine e_iload_n dX6_heaviestFree_31 rfl rfl ?_
                refine e_iconst (v := -1) dX6_heaviestFree_32 rfl ?_
                first | ((with_reducible refine mk_mo ?_); refine p_icmp_eq (tgt := 49) dX6_heaviestFree_33 (by decide) (fun h33 => ?_) (fun h33 => ?_)) | ((with_reducible refine mk_ms ?_); refine s_icmp_eq (tgt := 49) dX6_heaviestFree_33 (by decide) (by omega) (fun h33 => ?_) (fun h33 => ?_)) | ((with_reducible refine mk_mn ?_); refine q_icmp_eq (tgt := 49) dX6_heaviestFree_33 (by decide) (by omega) (fun h33 => ?_) (fun h33 => ?_)) | ((with_reducible refine mk_nn ?_); refine n_icmp_eq (tgt := 49) dX6_heaviestFree_33 (by decide) (by omega) (by omega) (fun h33 => ?_) (fun h33 => ?_)) | refine e_icmp_eq (tgt := 49) dX6_heaviestFree_33 (by decide) (fun h33 => ?_) (fun h33 => ?_)
                · try first | contradiction | omega
                  all_goals
                    refine e_iload_n dX6_heaviestFree_49 rfl rfl ?_
                    refine e_istore_n dX6_heaviestFree_50 rfl (Nat.le_of_ble_eq_true rfl) rfl ?_
                    first | refine n_inc dX6_heaviestFree_51 rfl (Nat.le_of_ble_eq_true rfl) rfl ?_ | refine e_iinc dX6_heaviestFree_51 rfl rfl (Nat.le_of_ble_eq_true rfl) rfl ?_
                    refine e_goto (tgt := 4) dX6_heaviestFree_54 (by decide) ?_
                    first | (rw [bst_f (c := fun i => decide (w (42 + i) = s) && (mvL w (w (10 + i))).isNone) (b := fun i q => decide (wtF w q < wtF w i)) (n := j) (by grind), hb] at ih; exact ih) | (rw [bst_0 (c := fun i => decide (w (42 + i) = s) && (mvL w (w (10 + i))).isNone) (b := fun i q => decide (wtF w q < wtF w i)) (n := j) (by grind) hb] at ih; exact ih) | (rw [bst_1 (c := fun i => decide (w (42 + i) = s) && (mvL w (w (10 + i))).isNone) (b := fun i q => decide (wtF w q < wtF w i)) (n := j) (by grind) hb (by grind)] at ih; exact ih) | (rw [bst_2 (c := fun i => decide (w (42 + i) = s) && (mvL w (w (10 + i))).isNone) (b := fun i q => decide (wtF w q < wtF w i)) (n := j) (by grind) hb (by grind)] at ih; exact ih)
                · try first | contradiction | omega
                  all_goals
                    refine e_aload_n dX6_heaviestFree_36 rfl rfl ?_
                    refine e_iload_n dX6_heaviestFree_37 rfl rfl ?_
                    refine x_V1 (M' := mX6_weightOf) dX6_heaviestFree_38 ml_X6_60 ok_X6_weightOf (by decide) rfl im_X6_weightOf se_X6_weightOf (ct_X6_weightOf cm iv hP (by omega)) (Nat.le_of_ble_eq_true rfl) (by decide) (Nat.le_of_ble_eq_true rfl) ?_
                    refine e_aload_n dX6_heaviestFree_41 rfl rfl ?_
                    refine e_iload_n dX6_heaviestFree_42 rfl rfl ?_
                    refine x_V1 (M' := mX6_weightOf) dX6_heaviestFree_43 ml_X6_60 ok_X6_weightOf (by decide) rfl im_X6_weightOf se_X6_weightOf (ct_X6_weightOf cm iv hP (by omega)) (Nat.le_of_ble_eq_true rfl) (by decide) (Nat.le_of_ble_eq_true rfl) ?_
                    first | ((with_reducible refine mk_nn ?_); refine n_icmp_le (tgt := 51) dX6_heaviestFree_46 (by decide) (by omega) (by omega) (fun h46 => ?_) (fun h46 => ?_)) | refine e_icmp_le (tgt := 51) dX6_heaviestFree_46 (by decide) (fun h46 => ?_) (fun h46 => ?_)
                    · try first | contradiction | omega
                      all_goals
                        first | refine n_inc dX6_heaviestFree_51 rfl (Nat.le_of_ble_eq_true rfl) rfl ?_ | refine e_iinc dX6_heaviestFree_51 rfl rfl (Nat.le_of_ble_eq_true rfl) rfl ?_
                        refine e_goto (tgt := 4) dX6_heaviestFree_54 (by decide) ?_
                        first | (rw [bst_f (c := fun i => decide (w (42 + i) = s) && (mvL w (w (10 + i))).isNone) (b := fun i q => decide (wtF w q < wtF w i)) (n := j) (by grind), hb] at ih; exact ih) | (rw [bst_0 (c := fun i => decide (w (42 + i) = s) && (mvL w (w (10 + i))).isNone) (b := fun i q => decide (wtF w q < wtF w i)) (n := j) (by grind) hb] at ih; exact ih) | (rw [bst_1 (c := fun i => decide (w (42 + i) = s) && (mvL w (w (10 + i))).isNone) (b := fun i q => decide (wtF w q < wtF w i)) (n := j) (by grind) hb (by grind)] at ih; exact ih) | (rw [bst_2 (c := fun i => decide (w (42 + i) = s) && (mvL w (w (10 + i))).isNone) (b := fun i q => decide (wtF w q < wtF w i)) (n := j) (by grind) hb (by grind)] at ih; exact ih)
                    · try first | contradiction | omega
                      all_goals
                        refine e_iload_n dX6_heaviestFree_49 rfl rfl ?_
                        refine e_istore_n dX6_heaviestFree_50 rfl (Nat.le_of_ble_eq_true rfl) rfl ?_
                        first | refine n_inc dX6_heaviestFree_51 rfl (Nat.le_of_ble_eq_true rfl) rfl ?_ | refine e_iinc dX6_heaviestFree_51 rfl rfl (Nat.le_of_ble_eq_true rfl) rfl ?_
                        refine e_goto (tgt := 4) dX6_heaviestFree_54 (by decide) ?_
                        first | (rw [bst_f (c := fun i => decide (w (42 + i) = s) && (mvL w (w (10 + i))).isNone) (b := fun i q => decide (wtF w q < wtF w i)) (n := j) (by grind), hb] at ih; exact ih) | (rw [bst_0 (c := fun i => decide (w (42 + i) = s) && (mvL w (w (10 + i))).isNone) (b := fun i q => decide (wtF w q < wtF w i)) (n := j) (by grind) hb] at ih; exact ih) | (rw [bst_1 (c := fun i => decide (w (42 + i) = s) && (mvL w (w (10 + i))).isNone) (b := fun i q => decide (wtF w q < wtF w i)) (n := j) (by grind) hb (by grind)] at ih; exact ih) | (rw [bst_2 (c := fun i => decide (w (42 + i) = s) && (mvL w (w (10 + i))).isNone) (b := fun i q => decide (wtF w q < wtF w i)) (n := j) (by grind) hb (by grind)] at ih; exact ih)
    )
  refine e_iconst (v := -1) dX6_heaviestFree_0 rfl ?_
  refine e_istore_n dX6_heaviestFree_1 rfl (Nat.le_of_ble_eq_true rfl) rfl ?_
  refine e_iconst (v := nI 0) dX6_heaviestFree_2 rfl ?_
  refine e_istore_n dX6_heaviestFree_3 rfl (Nat.le_of_ble_eq_true rfl) rfl ?_
  exact key 0 (by omega)
theorem ct_X6_bestToSplit {fi : FI} {fr : FR} {ai : FI} {ar : FR} {N : Nat} {w : Nat → Nat} (cm : CM fr ar) (iv : Inv w) (hP : PL fi ai w) {s : Nat} (hs : s < 6) : CP mX6_bestToSplit 2 0 0 [.ref (rf 6 65), .int (nI s)] fi fr ai ar N (xQ (some (.int (oI (bst (fun i => decide (w (42 + i) = s) && (mvL w (w (10 + i))).isNone && (mdO w i).isSome) (fun i q => decide (wtF w q < wtF w i)) (w 1))))) fi fr ai ar N) := by
  have h1 := iv_n iv
  have h3 := iv_mm iv
  have bd := Bd_iv iv
  have hF : FR1 fi ai fi ai := FR1_rf
  change EV mX6_bestToSplit 2 0 0 0 [some (.ref (rf 6 65)), some (.int (nI s)), none, none, none] [] fi fr ai ar N (xQ (some (.int (oI (bst (fun i => decide (w (42 + i) = s) && (mvL w (w (10 + i))).isNone && (mdO w i).isSome) (fun i q => decide (wtF w q < wtF w i)) (w 1))))) fi fr ai ar N)
  have key := ev_up (P := fun j => ∀ x, EV mX6_bestToSplit 2 0 0 4 [some (.ref (rf 6 65)), some (.int (nI s)), some (.int (oI (bst (fun i => decide (w (42 + i) = s) && (mvL w (w (10 + i))).isNone && (mdO w i).isSome) (fun i q => decide (wtF w q < wtF w i)) j))), some (.int (nI j)), x] [] fi fr ai ar N (xQ (some (.int (oI (bst (fun i => decide (w (42 + i) = s) && (mvL w (w (10 + i))).isNone && (mdO w i).isSome) (fun i q => decide (wtF w q < wtF w i)) (w 1))))) fi fr ai ar N)) (w 1) (fun j hj ih x => by
    have ho := iv_own iv hj
    have hw := wtF_le iv hj
    have he := enF_le iv hj
    have hnn : (mvL w (w (10 + j))).isNone = !(mvL w (w (10 + j))).isSome := by cases mvL w (w (10 + j)) <;> rfl
    have hmd : ∀ k, mdO w j = some k → k < 1000 := fun k hk => by have := mdO_in iv hj hk; omega
    cases hm : mdO w j with
    | none =>
      have hms : (mdO w j).isSome = false := by rw [hm]; rfl
      cases hb : bst (fun i => decide (w (42 + i) = s) && (mvL w (w (10 + i))).isNone && (mdO w i).isSome) (fun i q => decide (wtF w q < wtF w i)) j with
      | none =>
        refine e_iload_n dX6_bestToSplit_4 rfl rfl ?_
        refine e_aload_n dX6_bestToSplit_5 rfl rfl ?_
        refine e_getE dX6_bestToSplit_6 fl_X6_43 rfl (pl_n hP) ?_
        first | ((with_reducible refine mk_nn ?_); refine n_icmp_ge (tgt := 78) dX6_bestToSplit_9 (by decide) (by omega) (by omega) (fun h9 => ?_) (fun h9 => ?_)) | refine e_icmp_ge (tgt := 78) dX6_bestToSplit_9 (by decide) (fun h9 => ?_) (fun h9 => ?_)
        · try first | contradiction | omega
          all_goals
            refine e_iload_n dX6_bestToSplit_78 rfl rfl ?_
            refine e_ret (some _) rfl (r_int dX6_bestToSplit_79 rfl) ?_
            exact xq (by first | rfl | simp_all [bI_t, bI_f]) rfl rfl rfl rfl rfl
        · try first | contradiction | omega
          all_goals
            refine e_iload_n dX6_bestToSplit_12 rfl rfl ?_
            refine e_iconst (v := -1) dX6_bestToSplit_13 rfl ?_
            first | ((with_reducible refine mk_mo ?_); refine p_icmp_eq (tgt := 30) dX6_bestToSplit_14 (by decide) (fun h14 => ?_) (fun h14 => ?_)) | ((with_reducible refine mk_ms ?_); refine s_icmp_eq (tgt := 30) dX6_bestToSplit_14 (by decide) (by omega) (fun h14 => ?_) (fun h14 => ?_)) | ((with_reducible refine mk_mn ?_); refine q_icmp_eq (tgt := 30) dX6_bestToSplit_14 (by decide) (by omega) (fun h14 => ?_) (fun h14 => ?_)) | ((with_reducible refine mk_nn ?_); refine n_icmp_eq (tgt := 30) dX6_bestToSplit_14 (by decide) (by omega) (by omega) (fun h14 => ?_) (fun h14 => ?_)) | refine e_icmp_eq (tgt := 30) dX6_bestToSplit_14 (by decide) (fun h14 => ?_) (fun h14 => ?_)
            · try first | contradiction | omega
              all_goals
                refine e_iconst (v := nI 1) dX6_bestToSplit_30 rfl ?_
                refine e_goto (tgt := 35) dX6_bestToSplit_31 (by decide) ?_
                refine e_istore dX6_bestToSplit_35 (Nat.le_of_ble_eq_true rfl) rfl ?_
                refine e_aload_n dX6_bestToSplit_37 rfl rfl ?_
                refine e_getR dX6_bestToSplit_38 fl_X6_18 rfl (cp_own cm) ?_
                refine e_iload_n dX6_bestToSplit_41 rfl rfl ?_
                refine e_iadE _ dX6_bestToSplit_42 ⟨by decide, by decide⟩ rfl rfl (by simp only [lenK]; omega) (pl_ow hP (by omega)) ?_
                refine e_iload_n dX6_bestToSplit_43 rfl rfl ?_
                first | ((with_reducible refine mk_mo ?_); refine p_icmp_ne (tgt := 72) dX6_bestToSplit_44 (by decide) (fun h44 => ?_) (fun h44 => ?_)) | ((with_reducible refine mk_ms ?_); refine s_icmp_ne (tgt := 72) dX6_bestToSplit_44 (by decide) (by omega) (fun h44 => ?_) (fun h44 => ?_)) | ((with_reducible refine mk_mn ?_); refine q_icmp_ne (tgt := 72) dX6_bestToSplit_44 (by decide) (by omega) (fun h44 => ?_) (fun h44 => ?_)) | ((with_reducible refine mk_nn ?_); refine n_icmp_ne (tgt := 72) dX6_bestToSplit_44 (by decide) (by omega) (by omega) (fun h44 => ?_) (fun h44 => ?_)) | refine e_icmp_ne (tgt := 72) dX6_bestToSplit_44 (by decide) (fun h44 => ?_) (fun h44 => ?_)
                · try first | contradiction | omega
                  all_goals
                    first | refine n_inc dX6_bestToSplit_72 rfl (Nat.le_of_ble_eq_true rfl) rfl ?_ | refine e_iinc dX6_bestToSplit_72 rfl rfl (Nat.le_of_ble_eq_true rfl) rfl ?_
                    refine e_goto (tgt := 4) dX6_bestToSplit_75 (by decide) ?_
                    first | (rw [bst_f (c := fun i => decide (w (42 + i) = s) && (mvL w (w (10 + i))).isNone && (mdO w i).isSome) (b := fun i q => decide (wtF w q < wtF w i)) (n := j) (by grind), hb] at ih; exact ih _) | (rw [bst_0 (c := fun i => decide (w (42 + i) = s) && (mvL w (w (10 + i))).isNone && (mdO w i).isSome) (b := fun i q => decide (wtF w q < wtF w i)) (n := j) (by grind) hb] at ih; exact ih _)
                · try first | contradiction | omega
                  all_goals
                    refine e_aload_n dX6_bestToSplit_47 rfl rfl ?_
                    refine e_getR dX6_bestToSplit_48 fl_X6_21 rfl (cp_busy cm) ?_
                    refine e_iload_n dX6_bestToSplit_51 rfl rfl ?_
                    refine e_zadE _ dX6_bestToSplit_52 ⟨by decide, by decide⟩ rfl rfl (by simp only [lenK]; omega) (pl_bu hP (by omega)) ?_
                    first | ((with_reducible refine mk_b ?_); refine b_if_ne (tgt := 72) dX6_bestToSplit_53 (by decide) (fun h53 => ?_) (fun h53 => ?_)) | ((with_reducible refine mk_ll ?_); refine m_if_ne (tgt := 72) dX6_bestToSplit_53 (by decide) (by omega) (by omega) (fun h53 => ?_) (fun h53 => ?_)) | ((with_reducible refine mk_lc ?_); refine l_if_ne (tgt := 72) dX6_bestToSplit_53 (by decide) (fun h53 => ?_) (fun h53 => ?_)) | ((with_reducible refine mk_n ?_); refine n_if_ne (tgt := 72) dX6_bestToSplit_53 (by decide) (by omega) (fun h53 => ?_) (fun h53 => ?_)) | refine e_if_ne (tgt := 72) dX6_bestToSplit_53 (by decide) (fun h53 => ?_) (fun h53 => ?_)
                    · try first | contradiction | omega | (simp only [decide_eq_true_eq, decide_eq_false_iff_not] at h53; omega)
                      all_goals
                        first | refine n_inc dX6_bestToSplit_72 rfl (Nat.le_of_ble_eq_true rfl) rfl ?_ | refine e_iinc dX6_bestToSplit_72 rfl rfl (Nat.le_of_ble_eq_true rfl) rfl ?_
                        refine e_goto (tgt := 4) dX6_bestToSplit_75 (by decide) ?_
                        first | (rw [bst_f (c := fun i => decide (w (42 + i) = s) && (mvL w (w (10 + i))).isNone && (mdO w i).isSome) (b := fun i q => decide (wtF w q < wtF w i)) (n := j) (by grind), hb] at ih; exact ih _) | (rw [bst_0 (c := fun i => decide (w (42 + i) = s) && (mvL w (w (10 + i))).isNone && (mdO w i).isSome) (b := fun i q => decide (wtF w q < wtF w i)) (n := j) (by grind) hb] at ih; exact ih _)
                    · try first | contradiction | omega | (simp only [decide_eq_true_eq, decide_eq_false_iff_not] at h53; omega)
                      all_goals
                        refine e_iload dX6_bestToSplit_56 rfl ?_
                        first | ((with_reducible refine mk_b ?_); refine b_if_eq (tgt := 72) dX6_bestToSplit_58 (by decide) (fun h58 => ?_) (fun h58 => ?_)) | ((with_reducible refine mk_ll ?_); refine m_if_eq (tgt := 72) dX6_bestToSplit_58 (by decide) (by omega) (by omega) (fun h58 => ?_) (fun h58 => ?_)) | ((with_reducible refine mk_lc ?_); refine l_if_eq (tgt := 72) dX6_bestToSplit_58 (by decide) (fun h58 => ?_) (fun h58 => ?_)) | ((with_reducible refine mk_n ?_); refine n_if_eq (tgt := 72) dX6_bestToSplit_58 (by decide) (by omega) (fun h58 => ?_) (fun h58 => ?_)) | refine e_if_eq (tgt := 72) dX6_bestToSplit_58 (by decide) (fun h58 => ?_) (fun h58 => ?_)
                        · try first | contradiction | omega | (simp only [decide_eq_true_eq, decide_eq_false_iff_not] at h58; omega)
                          all_goals
                            first | refine n_inc dX6_bestToSplit_72 rfl (Nat.le_of_ble_eq_true rfl) rfl ?_ | refine e_iinc dX6_bestToSplit_72 rfl rfl (Nat.le_of_ble_eq_true rfl) rfl ?_
                            refine e_goto (tgt := 4) dX6_bestToSplit_75 (by decide) ?_
                            first | (rw [bst_f (c := fun i => decide (w (42 + i) = s) && (mvL w (w (10 + i))).isNone && (mdO w i).isSome) (b := fun i q => decide (wtF w q < wtF w i)) (n := j) (by grind), hb] at ih; exact ih _) | (rw [bst_0 (c := fun i => decide (w (42 + i) = s) && (mvL w (w (10 + i))).isNone && (mdO w i).isSome) (b := fun i q => decide (wtF w q < wtF w i)) (n := j) (by grind) hb] at ih; exact ih _)
                        · try first | contradiction | omega | (simp only [decide_eq_true_eq, decide_eq_false_iff_not] at h58; omega)
                          all_goals
                            refine e_aload_n dX6_bestToSplit_61 rfl rfl ?_
                            refine e_iload_n dX6_bestToSplit_62 rfl rfl ?_
                            refine x_V1 (M' := mX6_middleIn) dX6_bestToSplit_63 ml_X6_92 ok_X6_middleIn (by decide) rfl im_X6_middleIn se_X6_middleIn (ct_X6_middleIn cm iv hP (by omega)) (Nat.le_of_ble_eq_true rfl) (by decide) (Nat.le_of_ble_eq_true rfl) ?_
                            rw [hm]
                            refine e_iconst (v := -1) dX6_bestToSplit_66 rfl ?_
                            first | ((with_reducible refine mk_mo ?_); refine p_icmp_eq (tgt := 72) dX6_bestToSplit_67 (by decide) (fun h67 => ?_) (fun h67 => ?_)) | ((with_reducible refine mk_ms ?_); refine s_icmp_eq (tgt := 72) dX6_bestToSplit_67 (by decide) (by omega) (fun h67 => ?_) (fun h67 => ?_)) | ((with_reducible refine mk_mn ?_); refine q_icmp_eq (tgt := 72) dX6_bestToSplit_67 (by decide) (by omega) (fun h67 => ?_) (fun h67 => ?_)) | ((with_reducible refine mk_nn ?_); refine n_icmp_eq (tgt := 72) dX6_bestToSplit_67 (by decide) (by omega) (by omega) (fun h67 => ?_) (fun h67 => ?_)) | refine e_icmp_eq (tgt := 72) dX6_bestToSplit_67 (by decide) (fun h67 => ?_) (fun h67 => ?_)
                            · try first | contradiction | omega
                              all_goals
                                first | refine n_inc dX6_bestToSplit_72 rfl (Nat.le_of_ble_eq_true rfl) rfl ?_ | refine e_iinc dX6_bestToSplit_72 rfl rfl (Nat.le_of_ble_eq_true rfl) rfl ?_
                                refine e_goto (tgt := 4) dX6_bestToSplit_75 (by decide) ?_
                                first | (rw [bst_f (c := fun i => decide (w (42 + i) = s) && (mvL w (w (10 + i))).isNone && (mdO w i).isSome) (b := fun i q => decide (wtF w q < wtF w i)) (n := j) (by grind), hb] at ih; exact ih _) | (rw [bst_0 (c := fun i => decide (w (42 + i) = s) && (mvL w (w (10 + i))).isNone && (mdO w i).isSome) (b := fun i q => decide (wtF w q < wtF w i)) (n := j) (by grind) hb] at ih; exact ih _)
                            · try first | contradiction | omega
                              all_goals
                                refine e_iload_n dX6_bestToSplit_70 rfl rfl ?_
                                refine e_istore_n dX6_bestToSplit_71 rfl (Nat.le_of_ble_eq_true rfl) rfl ?_
                                first | refine n_inc dX6_bestToSplit_72 rfl (Nat.le_of_ble_eq_true rfl) rfl ?_ | refine e_iinc dX6_bestToSplit_72 rfl rfl (Nat.le_of_ble_eq_true rfl) rfl ?_
                                refine e_goto (tgt := 4) dX6_bestToSplit_75 (by decide) ?_
                                first | (rw [bst_f (c := fun i => decide (w (42 + i) = s) && (mvL w (w (10 + i))).isNone && (mdO w i).isSome) (b := fun i q => decide (wtF w q < wtF w i)) (n := j) (by grind), hb] at ih; exact ih _) | (rw [bst_0 (c := fun i => decide (w (42 + i) = s) && (mvL w (w (10 + i))).isNone && (mdO w i).isSome) (b := fun i q => decide (wtF w q < wtF w i)) (n := j) (by grind) hb] at ih; exact ih _)
            · try first | contradiction | omega
              all_goals
                refine e_aload_n dX6_bestToSplit_17 rfl rfl ?_
                refine e_iload_n dX6_bestToSplit_18 rfl rfl ?_
                refine x_V1 (M' := mX6_weightOf) dX6_bestToSplit_19 ml_X6_60 ok_X6_weightOf (by decide) rfl im_X6_weightOf se_X6_weightOf (ct_X6_weightOf cm iv hP (by omega)) (Nat.le_of_ble_eq_true rfl) (by decide) (Nat.le_of_ble_eq_true rfl) ?_
                refine e_aload_n dX6_bestToSplit_22 rfl rfl ?_
                refine e_iload_n dX6_bestToSplit_23 rfl rfl ?_
                refine x_V1 (M' := mX6_weightOf) dX6_bestToSplit_24 ml_X6_60 ok_X6_weightOf (by decide) rfl im_X6_weightOf se_X6_weightOf (ct_X6_weightOf cm iv hP (by omega)) (Nat.le_of_ble_eq_true rfl) (by decide) (Nat.le_of_ble_eq_true rfl) ?_
                first | ((with_reducible refine mk_nn ?_); refine n_icmp_le (tgt := 34) dX6_bestToSplit_27 (by decide) (by omega) (by omega) (fun h27 => ?_) (fun h27 => ?_)) | refine e_icmp_le (tgt := 34) dX6_bestToSplit_27 (by decide) (fun h27 => ?_) (fun h27 => ?_)
                · try first | contradiction | omega
                  all_goals
                    refine e_iconst (v := nI 0) dX6_bestToSplit_34 rfl ?_
                    refine e_istore dX6_bestToSplit_35 (Nat.le_of_ble_eq_true rfl) rfl ?_
                    refine e_aload_n dX6_bestToSplit_37 rfl rfl ?_
                    refine e_getR dX6_bestToSplit_38 fl_X6_18 rfl (cp_own cm) ?_
                    refine e_iload_n dX6_bestToSplit_41 rfl rfl ?_
                    refine e_iadE _ dX6_bestToSplit_42 ⟨by decide, by decide⟩ rfl rfl (by simp only [lenK]; omega) (pl_ow hP (by omega)) ?_
                    refine e_iload_n dX6_bestToSplit_43 rfl rfl ?_
                    first | ((with_reducible refine mk_mo ?_); refine p_icmp_ne (tgt := 72) dX6_bestToSplit_44 (by decide) (fun h44 => ?_) (fun h44 => ?_)) | ((with_reducible refine mk_ms ?_); refine s_icmp_ne (tgt := 72) dX6_bestToSplit_44 (by decide) (by omega) (fun h44 => ?_) (fun h44 => ?_)) | ((with_reducible refine mk_mn ?_); refine q_icmp_ne (tgt := 72) dX6_bestToSplit_44 (by decide) (by omega) (fun h44 => ?_) (fun h44 => ?_)) | ((with_reducible refine mk_nn ?_); refine n_icmp_ne (tgt := 72) dX6_bestToSplit_44 (by decide) (by omega) (by omega) (fun h44 => ?_) (fun h44 => ?_)) | refine e_icmp_ne (tgt := 72) dX6_bestToSplit_44 (by decide) (fun h44 => ?_) (fun h44 => ?_)
                    · try first | contradiction | omega
                      all_goals
                        first | refine n_inc dX6_bestToSplit_72 rfl (Nat.le_of_ble_eq_true rfl) rfl ?_ | refine e_iinc dX6_bestToSplit_72 rfl rfl (Nat.le_of_ble_eq_true rfl) rfl ?_
                        refine e_goto (tgt := 4) dX6_bestToSplit_75 (by decide) ?_
                        first | (rw [bst_f (c := fun i => decide (w (42 + i) = s) && (mvL w (w (10 + i))).isNone && (mdO w i).isSome) (b := fun i q => decide (wtF w q < wtF w i)) (n := j) (by grind), hb] at ih; exact ih _) | (rw [bst_0 (c := fun i => decide (w (42 + i) = s) && (mvL w (w (10 + i))).isNone && (mdO w i).isSome) (b := fun i q => decide (wtF w q < wtF w i)) (n := j) (by grind) hb] at ih; exact ih _)
                    · try first | contradiction | omega
                      all_goals
                        refine e_aload_n dX6_bestToSplit_47 rfl rfl ?_
                        refine e_getR dX6_bestToSplit_48 fl_X6_21 rfl (cp_busy cm) ?_
                        refine e_iload_n dX6_bestToSplit_51 rfl rfl ?_
                        refine e_zadE _ dX6_bestToSplit_52 ⟨by decide, by decide⟩ rfl rfl (by simp only [lenK]; omega) (pl_bu hP (by omega)) ?_
                        first | ((with_reducible refine mk_b ?_); refine b_if_ne (tgt := 72) dX6_bestToSplit_53 (by decide) (fun h53 => ?_) (fun h53 => ?_)) | ((with_reducible refine mk_ll ?_); refine m_if_ne (tgt := 72) dX6_bestToSplit_53 (by decide) (by omega) (by omega) (fun h53 => ?_) (fun h53 => ?_)) | ((with_reducible refine mk_lc ?_); refine l_if_ne (tgt := 72) dX6_bestToSplit_53 (by decide) (fun h53 => ?_) (fun h53 => ?_)) | ((with_reducible refine mk_n ?_); refine n_if_ne (tgt := 72) dX6_bestToSplit_53 (by decide) (by omega) (fun h53 => ?_) (fun h53 => ?_)) | refine e_if_ne (tgt := 72) dX6_bestToSplit_53 (by decide) (fun h53 => ?_) (fun h53 => ?_)
                        · try first | contradiction | omega | (simp only [decide_eq_true_eq, decide_eq_false_iff_not] at h53; omega)
                          all_goals
                            first | refine n_inc dX6_bestToSplit_72 rfl (Nat.le_of_ble_eq_true rfl) rfl ?_ | refine e_iinc dX6_bestToSplit_72 rfl rfl (Nat.le_of_ble_eq_true rfl) rfl ?_
                            refine e_goto (tgt := 4) dX6_bestToSplit_75 (by decide) ?_
                            first | (rw [bst_f (c := fun i => decide (w (42 + i) = s) && (mvL w (w (10 + i))).isNone && (mdO w i).isSome) (b := fun i q => decide (wtF w q < wtF w i)) (n := j) (by grind), hb] at ih; exact ih _) | (rw [bst_0 (c := fun i => decide (w (42 + i) = s) && (mvL w (w (10 + i))).isNone && (mdO w i).isSome) (b := fun i q => decide (wtF w q < wtF w i)) (n := j) (by grind) hb] at ih; exact ih _)
                        · try first | contradiction | omega | (simp only [decide_eq_true_eq, decide_eq_false_iff_not] at h53; omega)
                          all_goals
                            refine e_iload dX6_bestToSplit_56 rfl ?_
                            first | ((with_reducible refine mk_b ?_); refine b_if_eq (tgt := 72) dX6_bestToSplit_58 (by decide) (fun h58 => ?_) (fun h58 => ?_)) | ((with_reducible refine mk_ll ?_); refine m_if_eq (tgt := 72) dX6_bestToSplit_58 (by decide) (by omega) (by omega) (fun h58 => ?_) (fun h58 => ?_)) | ((with_reducible refine mk_lc ?_); refine l_if_eq (tgt := 72) dX6_bestToSplit_58 (by decide) (fun h58 => ?_) (fun h58 => ?_)) | ((with_reducible refine mk_n ?_); refine n_if_eq (tgt := 72) dX6_bestToSplit_58 (by decide) (by omega) (fun h58 => ?_) (fun h58 => ?_)) | refine e_if_eq (tgt := 72) dX6_bestToSplit_58 (by decide) (fun h58 => ?_) (fun h58 => ?_)
                            · try first | contradiction | omega | (simp only [decide_eq_true_eq, decide_eq_false_iff_not] at h58; omega)
                              all_goals
                                first | refine n_inc dX6_bestToSplit_72 rfl (Nat.le_of_ble_eq_true rfl) rfl ?_ | refine e_iinc dX6_bestToSplit_72 rfl rfl (Nat.le_of_ble_eq_true rfl) rfl ?_
                                refine e_goto (tgt := 4) dX6_bestToSplit_75 (by decide) ?_
                                first | (rw [bst_f (c := fun i => decide (w (42 + i) = s) && (mvL w (w (10 + i))).isNone && (mdO w i).isSome) (b := fun i q => decide (wtF w q < wtF w i)) (n := j) (by grind), hb] at ih; exact ih _) | (rw [bst_0 (c := fun i => decide (w (42 + i) = s) && (mvL w (w (10 + i))).isNone && (mdO w i).isSome) (b := fun i q => decide (wtF w q < wtF w i)) (n := j) (by grind) hb] at ih; exact ih _)
                            · try first | contradiction | omega | (simp only [decide_eq_true_eq, decide_eq_false_iff_not] at h58; omega)
                              all_goals
                                refine e_aload_n dX6_bestToSplit_61 rfl rfl ?_
                                refine e_iload_n dX6_bestToSplit_62 rfl rfl ?_
                                refine x_V1 (M' := mX6_middleIn) dX6_bestToSplit_63 ml_X6_92 ok_X6_middleIn (by decide) rfl im_X6_middleIn se_X6_middleIn (ct_X6_middleIn cm iv hP (by omega)) (Nat.le_of_ble_eq_true rfl) (by decide) (Nat.le_of_ble_eq_true rfl) ?_
                                rw [hm]
                                refine e_iconst (v := -1) dX6_bestToSplit_66 rfl ?_
                                first | ((with_reducible refine mk_mo ?_); refine p_icmp_eq (tgt := 72) dX6_bestToSplit_67 (by decide) (fun h67 => ?_) (fun h67 => ?_)) | ((with_reducible refine mk_ms ?_); refine s_icmp_eq (tgt := 72) dX6_bestToSplit_67 (by decide) (by omega) (fun h67 => ?_) (fun h67 => ?_)) | ((with_reducible refine mk_mn ?_); refine q_icmp_eq (tgt := 72) dX6_bestToSplit_67 (by decide) (by omega) (fun h67 => ?_) (fun h67 => ?_)) | ((with_reducible refine mk_nn ?_); refine n_icmp_eq (tgt := 72) dX6_bestToSplit_67 (by decide) (by omega) (by omega) (fun h67 => ?_) (fun h67 => ?_)) | refine e_icmp_eq (tgt := 72) dX6_bestToSplit_67 (by decide) (fun h67 => ?_) (fun h67 => ?_)
                                · try first | contradiction | omega
                                  all_goals
                                    first | refine n_inc dX6_bestToSplit_72 rfl (Nat.le_of_ble_eq_true rfl) rfl ?_ | refine e_iinc dX6_bestToSplit_72 rfl rfl (Nat.le_of_ble_eq_true rfl) rfl ?_
                                    refine e_goto (tgt := 4) dX6_bestToSplit_75 (by decide) ?_
                                    first | (rw [bst_f (c := fun i => decide (w (42 + i) = s) && (mvL w (w (10 + i))).isNone && (mdO w i).isSome) (b := fun i q => decide (wtF w q < wtF w i)) (n := j) (by grind), hb] at ih; exact ih _) | (rw [bst_0 (c := fun i => decide (w (42 + i) = s) && (mvL w (w (10 + i))).isNone && (mdO w i).isSome) (b := fun i q => decide (wtF w q < wtF w i)) (n := j) (by grind) hb] at ih; exact ih _)
                                · try first | contradiction | omega
                                  all_goals
                                    refine e_iload_n dX6_bestToSplit_70 rfl rfl ?_
                                    refine e_istore_n dX6_bestToSplit_71 rfl (Nat.le_of_ble_eq_true rfl) rfl ?_
                                    first | refine n_inc dX6_bestToSplit_72 rfl (Nat.le_of_ble_eq_true rfl) rfl ?_ | refine e_iinc dX6_bestToSplit_72 rfl rfl (Nat.le_of_ble_eq_true rfl) rfl ?_
                                    refine e_goto (tgt := 4) dX6_bestToSplit_75 (by decide) ?_
                                    first | (rw [bst_f (c := fun i => decide (w (42 + i) = s) && (mvL w (w (10 + i))).isNone && (mdO w i).isSome) (b := fun i q => decide (wtF w q < wtF w i)) (n := j) (by grind), hb] at ih; exact ih _) | (rw [bst_0 (c := fun i => decide (w (42 + i) = s) && (mvL w (w (10 + i))).isNone && (mdO w i).isSome) (b := fun i q => decide (wtF w q < wtF w i)) (n := j) (by grind) hb] at ih; exact ih _)
                · try first | contradiction | omega
                  all_goals
                    refine e_iconst (v := nI 1) dX6_bestToSplit_30 rfl ?_
                    refine e_goto (tgt := 35) dX6_bestToSplit_31 (by decide) ?_
                    refine e_istore dX6_bestToSplit_35 (Nat.le_of_ble_eq_true rfl) rfl ?_
                    refine e_aload_n dX6_bestToSplit_37 rfl rfl ?_
                    refine e_getR dX6_bestToSplit_38 fl_X6_18 rfl (cp_own cm) ?_
                    refine e_iload_n dX6_bestToSplit_41 rfl rfl ?_
                    refine e_iadE _ dX6_bestToSplit_42 ⟨by decide, by decide⟩ rfl rfl (by simp only [lenK]; omega) (pl_ow hP (by omega)) ?_
                    refine e_iload_n dX6_bestToSplit_43 rfl rfl ?_
                    first | ((with_reducible refine mk_mo ?_); refine p_icmp_ne (tgt := 72) dX6_bestToSplit_44 (by decide) (fun h44 => ?_) (fun h44 => ?_)) | ((with_reducible refine mk_ms ?_); refine s_icmp_ne (tgt := 72) dX6_bestToSplit_44 (by decide) (by omega) (fun h44 => ?_) (fun h44 => ?_)) | ((with_reducible refine mk_mn ?_); refine q_icmp_ne (tgt := 72) dX6_bestToSplit_44 (by decide) (by omega) (fun h44 => ?_) (fun h44 => ?_)) | ((with_reducible refine mk_nn ?_); refine n_icmp_ne (tgt := 72) dX6_bestToSplit_44 (by decide) (by omega) (by omega) (fun h44 => ?_) (fun h44 => ?_)) | refine e_icmp_ne (tgt := 72) dX6_bestToSplit_44 (by decide) (fun h44 => ?_) (fun h44 => ?_)
                    · try first | contradiction | omega
                      all_goals
                        first | refine n_inc dX6_bestToSplit_72 rfl (Nat.le_of_ble_eq_true rfl) rfl ?_ | refine e_iinc dX6_bestToSplit_72 rfl rfl (Nat.le_of_ble_eq_true rfl) rfl ?_
                        refine e_goto (tgt := 4) dX6_bestToSplit_75 (by decide) ?_
                        first | (rw [bst_f (c := fun i => decide (w (42 + i) = s) && (mvL w (w (10 + i))).isNone && (mdO w i).isSome) (b := fun i q => decide (wtF w q < wtF w i)) (n := j) (by grind), hb] at ih; exact ih _) | (rw [bst_0 (c := fun i => decide (w (42 + i) = s) && (mvL w (w (10 + i))).isNone && (mdO w i).isSome) (b := fun i q => decide (wtF w q < wtF w i)) (n := j) (by grind) hb] at ih; exact ih _)
                    · try first | contradiction | omega
                      all_goals
                        refine e_aload_n dX6_bestToSplit_47 rfl rfl ?_
                        refine e_getR dX6_bestToSplit_48 fl_X6_21 rfl (cp_busy cm) ?_
                        refine e_iload_n dX6_bestToSplit_51 rfl rfl ?_
                        refine e_zadE _ dX6_bestToSplit_52 ⟨by decide, by decide⟩ rfl rfl (by simp only [lenK]; omega) (pl_bu hP (by omega)) ?_
                        first | ((with_reducible refine mk_b ?_); refine b_if_ne (tgt := 72) dX6_bestToSplit_53 (by decide) (fun h53 => ?_) (fun h53 => ?_)) | ((with_reducible refine mk_ll ?_); refine m_if_ne (tgt := 72) dX6_bestToSplit_53 (by decide) (by omega) (by omega) (fun h53 => ?_) (fun h53 => ?_)) | ((with_reducible refine mk_lc ?_); refine l_if_ne (tgt := 72) dX6_bestToSplit_53 (by decide) (fun h53 => ?_) (fun h53 => ?_)) | ((with_reducible refine mk_n ?_); refine n_if_ne (tgt := 72) dX6_bestToSplit_53 (by decide) (by omega) (fun h53 => ?_) (fun h53 => ?_)) | refine e_if_ne (tgt := 72) dX6_bestToSplit_53 (by decide) (fun h53 => ?_) (fun h53 => ?_)
                        · try first | contradiction | omega | (simp only [decide_eq_true_eq, decide_eq_false_iff_not] at h53; omega)
                          all_goals
                            first | refine n_inc dX6_bestToSplit_72 rfl (Nat.le_of_ble_eq_true rfl) rfl ?_ | refine e_iinc dX6_bestToSplit_72 rfl rfl (Nat.le_of_ble_eq_true rfl) rfl ?_
                            refine e_goto (tgt := 4) dX6_bestToSplit_75 (by decide) ?_
                            first | (rw [bst_f (c := fun i => decide (w (42 + i) = s) && (mvL w (w (10 + i))).isNone && (mdO w i).isSome) (b := fun i q => decide (wtF w q < wtF w i)) (n := j) (by grind), hb] at ih; exact ih _) | (rw [bst_0 (c := fun i => decide (w (42 + i) = s) && (mvL w (w (10 + i))).isNone && (mdO w i).isSome) (b := fun i q => decide (wtF w q < wtF w i)) (n := j) (by grind) hb] at ih; exact ih _)
                        · try first | contradiction | omega | (simp only [decide_eq_true_eq, decide_eq_false_iff_not] at h53; omega)
                          all_goals
                            refine e_iload dX6_bestToSplit_56 rfl ?_
                            first | ((with_reducible refine mk_b ?_); refine b_if_eq (tgt := 72) dX6_bestToSplit_58 (by decide) (fun h58 => ?_) (fun h58 => ?_)) | ((with_reducible refine mk_ll ?_); refine m_if_eq (tgt := 72) dX6_bestToSplit_58 (by decide) (by omega) (by omega) (fun h58 => ?_) (fun h58 => ?_)) | ((with_reducible refine mk_lc ?_); refine l_if_eq (tgt := 72) dX6_bestToSplit_58 (by decide) (fun h58 => ?_) (fun h58 => ?_)) | ((with_reducible refine mk_n ?_); refine n_if_eq (tgt := 72) dX6_bestToSplit_58 (by decide) (by omega) (fun h58 => ?_) (fun h58 => ?_)) | refine e_if_eq (tgt := 72) dX6_bestToSplit_58 (by decide) (fun h58 => ?_) (fun h58 => ?_)
                            · try first | contradiction | omega | (simp only [decide_eq_true_eq, decide_eq_false_iff_not] at h58; omega)
                              all_goals
                                first | refine n_inc dX6_bestToSplit_72 rfl (Nat.le_of_ble_eq_true rfl) rfl ?_ | refine e_iinc dX6_bestToSplit_72 rfl rfl (Nat.le_of_ble_eq_true rfl) rfl ?_
                                refine e_goto (tgt := 4) dX6_bestToSplit_75 (by decide) ?_
                                first | (rw [bst_f (c := fun i => decide (w (42 + i) = s) && (mvL w (w (10 + i))).isNone && (mdO w i).isSome) (b := fun i q => decide (wtF w q < wtF w i)) (n := j) (by grind), hb] at ih; exact ih _) | (rw [bst_0 (c := fun i => decide (w (42 + i) = s) && (mvL w (w (10 + i))).isNone && (mdO w i).isSome) (b := fun i q => decide (wtF w q < wtF w i)) (n := j) (by grind) hb] at ih; exact ih _)
                            · try first | contradiction | omega | (simp only [decide_eq_true_eq, decide_eq_false_iff_not] at h58; omega)
                              all_goals
                                refine e_aload_n dX6_bestToSplit_61 rfl rfl ?_
                                refine e_iload_n dX6_bestToSplit_62 rfl rfl ?_
                                refine x_V1 (M' := mX6_middleIn) dX6_bestToSplit_63 ml_X6_92 ok_X6_middleIn (by decide) rfl im_X6_middleIn se_X6_middleIn (ct_X6_middleIn cm iv hP (by omega)) (Nat.le_of_ble_eq_true rfl) (by decide) (Nat.le_of_ble_eq_true rfl) ?_
                                rw [hm]
                                refine e_iconst (v := -1) dX6_bestToSplit_66 rfl ?_
                                first | ((with_reducible refine mk_mo ?_); refine p_icmp_eq (tgt := 72) dX6_bestToSplit_67 (by decide) (fun h67 => ?_) (fun h67 => ?_)) | ((with_reducible refine mk_ms ?_); refine s_icmp_eq (tgt := 72) dX6_bestToSplit_67 (by decide) (by omega) (fun h67 => ?_) (fun h67 => ?_)) | ((with_reducible refine mk_mn ?_); refine q_icmp_eq (tgt := 72) dX6_bestToSplit_67 (by decide) (by omega) (fun h67 => ?_) (fun h67 => ?_)) | ((with_reducible refine mk_nn ?_); refine n_icmp_eq (tgt := 72) dX6_bestToSplit_67 (by decide) (by omega) (by omega) (fun h67 => ?_) (fun h67 => ?_)) | refine e_icmp_eq (tgt := 72) dX6_bestToSplit_67 (by decide) (fun h67 => ?_) (fun h67 => ?_)
                                · try first | contradiction | omega
                                  all_goals
                                    first | refine n_inc dX6_bestToSplit_72 rfl (Nat.le_of_ble_eq_true rfl) rfl ?_ | refine e_iinc dX6_bestToSplit_72 rfl rfl (Nat.le_of_ble_eq_true rfl) rfl ?_
                                    refine e_goto (tgt := 4) dX6_bestToSplit_75 (by decide) ?_
                                    first | (rw [bst_f (c := fun i => decide (w (42 + i) = s) && (mvL w (w (10 + i))).isNone && (mdO w i).isSome) (b := fun i q => decide (wtF w q < wtF w i)) (n := j) (by grind), hb] at ih; exact ih _) | (rw [bst_0 (c := fun i => decide (w (42 + i) = s) && (mvL w (w (10 + i))).isNone && (mdO w i).isSome) (b := fun i q => decide (wtF w q < wtF w i)) (n := j) (by grind) hb] at ih; exact ih _)
                                · try first | contradiction | omega
                                  all_goals
                                    refine e_iload_n dX6_bestToSplit_70 rfl rfl ?_
                                    refine e_istore_n dX6_bestToSplit_71 rfl (Nat.le_of_ble_eq_true rfl) rfl ?_
                                    first | refine n_inc dX6_bestToSplit_72 rfl (Nat.le_of_ble_eq_true rfl) rfl ?_ | refine e_iinc dX6_bestToSplit_72 rfl rfl (Nat.le_of_ble_eq_true rfl) rfl ?_
                                    refine e_goto (tgt := 4) dX6_bestToSplit_75 (by decide) ?_
                                    first | (rw [bst_f (c := fun i => decide (w (42 + i) = s) && (mvL w (w (10 + i))).isNone && (mdO w i).isSome) (b := fun i q => decide (wtF w q < wtF w i)) (n := j) (by grind), hb] at ih; exact ih _) | (rw [bst_0 (c := fun i => decide (w (42 + i) = s) && (mvL w (w (10 + i))).isNone && (mdO w i).isSome) (b := fun i q => decide (wtF w q < wtF w i)) (n := j) (by grind) hb] at ih; exact ih _)
      | some q =>
        have hq := (bst_in hb).1
        have hw2 := wtF_le iv (Nat.lt_trans hq hj)
        rw [oI_s]
        refine e_iload_n dX6_bestToSplit_4 rfl rfl ?_
        refine e_aload_n dX6_bestToSplit_5 rfl rfl ?_
        refine e_getE dX6_bestToSplit_6 fl_X6_43 rfl (pl_n hP) ?_
        first | ((with_reducible refine mk_nn ?_); refine n_icmp_ge (tgt := 78) dX6_bestToSplit_9 (by decide) (by omega) (by omega) (fun h9 => ?_) (fun h9 => ?_)) | refine e_icmp_ge (tgt := 78) dX6_bestToSplit_9 (by decide) (fun h9 => ?_) (fun h9 => ?_)
        · try first | contradiction | omega
          all_goals
            refine e_iload_n dX6_bestToSplit_78 rfl rfl ?_
            refine e_ret (some _) rfl (r_int dX6_bestToSplit_79 rfl) ?_
            exact xq (by first | rfl | simp_all [bI_t, bI_f]) rfl rfl rfl rfl rfl
        · try first | contradiction | omega
          all_goals
            refine e_iload_n dX6_bestToSplit_12 rfl rfl ?_
            refine e_iconst (v := -1) dX6_bestToSplit_13 rfl ?_
            first | ((with_reducible refine mk_mo ?_); refine p_icmp_eq (tgt := 30) dX6_bestToSplit_14 (by decide) (fun h14 => ?_) (fun h14 => ?_)) | ((with_reducible refine mk_ms ?_); refine s_icmp_eq (tgt := 30) dX6_bestToSplit_14 (by decide) (by omega) (fun h14 => ?_) (fun h14 => ?_)) | ((with_reducible refine mk_mn ?_); refine q_icmp_eq (tgt := 30) dX6_bestToSplit_14 (by decide) (by omega) (fun h14 => ?_) (fun h14 => ?_)) | ((with_reducible refine mk_nn ?_); refine n_icmp_eq (tgt := 30) dX6_bestToSplit_14 (by decide) (by omega) (by omega) (fun h14 => ?_) (fun h14 => ?_)) | refine e_icmp_eq (tgt := 30) dX6_bestToSplit_14 (by decide) (fun h14 => ?_) (fun h14 => ?_)
            · try first | contradiction | omega
              all_goals
                refine e_iconst (v := nI 1) dX6_bestToSplit_30 rfl ?_
                refine e_goto (tgt := 35) dX6_bestToSplit_31 (by decide) ?_
                refine e_istore dX6_bestToSplit_35 (Nat.le_of_ble_eq_true rfl) rfl ?_
                refine e_aload_n dX6_bestToSplit_37 rfl rfl ?_
                refine e_getR dX6_bestToSplit_38 fl_X6_18 rfl (cp_own cm) ?_
                refine e_iload_n dX6_bestToSplit_41 rfl rfl ?_
                refine e_iadE _ dX6_bestToSplit_42 ⟨by decide, by decide⟩ rfl rfl (by simp only [lenK]; omega) (pl_ow hP (by omega)) ?_
                refine e_iload_n dX6_bestToSplit_43 rfl rfl ?_
                first | ((with_reducible refine mk_mo ?_); refine p_icmp_ne (tgt := 72) dX6_bestToSplit_44 (by decide) (fun h44 => ?_) (fun h44 => ?_)) | ((with_reducible refine mk_ms ?_); refine s_icmp_ne (tgt := 72) dX6_bestToSplit_44 (by decide) (by omega) (fun h44 => ?_) (fun h44 => ?_)) | ((with_reducible refine mk_mn ?_); refine q_icmp_ne (tgt := 72) dX6_bestToSplit_44 (by decide) (by omega) (fun h44 => ?_) (fun h44 => ?_)) | ((with_reducible refine mk_nn ?_); refine n_icmp_ne (tgt := 72) dX6_bestToSplit_44 (by decide) (by omega) (by omega) (fun h44 => ?_) (fun h44 => ?_)) | refine e_icmp_ne (tgt := 72) dX6_bestToSplit_44 (by decide) (fun h44 => ?_) (fun h44 => ?_)
                · try first | contradiction | omega
                  all_goals
                    first | refine n_inc dX6_bestToSplit_72 rfl (Nat.le_of_ble_eq_true rfl) rfl ?_ | refine e_iinc dX6_bestToSplit_72 rfl rfl (Nat.le_of_ble_eq_true rfl) rfl ?_
                    refine e_goto (tgt := 4) dX6_bestToSplit_75 (by decide) ?_
                    first | (rw [bst_f (c := fun i => decide (w (42 + i) = s) && (mvL w (w (10 + i))).isNone && (mdO w i).isSome) (b := fun i q => decide (wtF w q < wtF w i)) (n := j) (by grind), hb] at ih; exact ih _) | (rw [bst_1 (c := fun i => decide (w (42 + i) = s) && (mvL w (w (10 + i))).isNone && (mdO w i).isSome) (b := fun i q => decide (wtF w q < wtF w i)) (n := j) (by grind) hb (by grind)] at ih; exact ih _) | (rw [bst_2 (c := fun i => decide (w (42 + i) = s) && (mvL w (w (10 + i))).isNone && (mdO w i).isSome) (b := fun i q => decide (wtF w q < wtF w i)) (n := j) (by grind) hb (by grind)] at ih; exact ih _)
                · try first | contradiction | omega
                  all_goals
                    refine e_aload_n dX6_bestToSplit_47 rfl rfl ?_
                    refine e_getR dX6_bestToSplit_48 fl_X6_21 rfl (cp_busy cm) ?_
                    refine e_iload_n dX6_bestToSplit_51 rfl rfl ?_
                    refine e_zadE _ dX6_bestToSplit_52 ⟨by decide, by decide⟩ rfl rfl (by simp only [lenK]; omega) (pl_bu hP (by omega)) ?_
                    first | ((with_reducible refine mk_b ?_); refine b_if_ne (tgt := 72) dX6_bestToSplit_53 (by decide) (fun h53 => ?_) (fun h53 => ?_)) | ((with_reducible refine mk_ll ?_); refine m_if_ne (tgt := 72) dX6_bestToSplit_53 (by decide) (by omega) (by omega) (fun h53 => ?_) (fun h53 => ?_)) | ((with_reducible refine mk_lc ?_); refine l_if_ne (tgt := 72) dX6_bestToSplit_53 (by decide) (fun h53 => ?_) (fun h53 => ?_)) | ((with_reducible refine mk_n ?_); refine n_if_ne (tgt := 72) dX6_bestToSplit_53 (by decide) (by omega) (fun h53 => ?_) (fun h53 => ?_)) | refine e_if_ne (tgt := 72) dX6_bestToSplit_53 (by decide) (fun h53 => ?_) (fun h53 => ?_)
                    · try first | contradiction | omega | (simp only [decide_eq_true_eq, decide_eq_false_iff_not] at h53; omega)
                      all_goals
                        first | refine n_inc dX6_bestToSplit_72 rfl (Nat.le_of_ble_eq_true rfl) rfl ?_ | refine e_iinc dX6_bestToSplit_72 rfl rfl (Nat.le_of_ble_eq_true rfl) rfl ?_
                        refine e_goto (tgt := 4) dX6_bestToSplit_75 (by decide) ?_
                        first | (rw [bst_f (c := fun i => decide (w (42 + i) = s) && (mvL w (w (10 + i))).isNone && (mdO w i).isSome) (b := fun i q => decide (wtF w q < wtF w i)) (n := j) (by grind), hb] at ih; exact ih _) | (rw [bst_1 (c := fun i => decide (w (42 + i) = s) && (mvL w (w (10 + i))).isNone && (mdO w i).isSome) (b := fun i q => decide (wtF w q < wtF w i)) (n := j) (by grind) hb (by grind)] at ih; exact ih _) | (rw [bst_2 (c := fun i => decide (w (42 + i) = s) && (mvL w (w (10 + i))).isNone && (mdO w i).isSome) (b := fun i q => decide (wtF w q < wtF w i)) (n := j) (by grind) hb (by grind)] at ih; exact ih _)
                    · try first | contradiction | omega | (simp only [decide_eq_true_eq, decide_eq_false_iff_not] at h53; omega)
                      all_goals
                        refine e_iload dX6_bestToSplit_56 rfl ?_
                        first | ((with_reducible refine mk_b ?_); refine b_if_eq (tgt := 72) dX6_bestToSplit_58 (by decide) (fun h58 => ?_) (fun h58 => ?_)) | ((with_reducible refine mk_ll ?_); refine m_if_eq (tgt := 72) dX6_bestToSplit_58 (by decide) (by omega) (by omega) (fun h58 => ?_) (fun h58 => ?_)) | ((with_reducible refine mk_lc ?_); refine l_if_eq (tgt := 72) dX6_bestToSplit_58 (by decide) (fun h58 => ?_) (fun h58 => ?_)) | ((with_reducible refine mk_n ?_); refine n_if_eq (tgt := 72) dX6_bestToSplit_58 (by decide) (by omega) (fun h58 => ?_) (fun h58 => ?_)) | refine e_if_eq (tgt := 72) dX6_bestToSplit_58 (by decide) (fun h58 => ?_) (fun h58 => ?_)
                        · try first | contradiction | omega | (simp only [decide_eq_true_eq, decide_eq_false_iff_not] at h58; omega)
                          all_goals
                            first | refine n_inc dX6_bestToSplit_72 rfl (Nat.le_of_ble_eq_true rfl) rfl ?_ | refine e_iinc dX6_bestToSplit_72 rfl rfl (Nat.le_of_ble_eq_true rfl) rfl ?_
                            refine e_goto (tgt := 4) dX6_bestToSplit_75 (by decide) ?_
                            first | (rw [bst_f (c := fun i => decide (w (42 + i) = s) && (mvL w (w (10 + i))).isNone && (mdO w i).isSome) (b := fun i q => decide (wtF w q < wtF w i)) (n := j) (by grind), hb] at ih; exact ih _) | (rw [bst_1 (c := fun i => decide (w (42 + i) = s) && (mvL w (w (10 + i))).isNone && (mdO w i).isSome) (b := fun i q => decide (wtF w q < wtF w i)) (n := j) (by grind) hb (by grind)] at ih; exact ih _) | (rw [bst_2 (c := fun i => decide (w (42 + i) = s) && (mvL w (w (10 + i))).isNone && (mdO w i).isSome) (b := fun i q => decide (wtF w q < wtF w i)) (n := j) (by grind) hb (by grind)] at ih; exact ih _)
                        · try first | contradiction | omega | (simp only [decide_eq_true_eq, decide_eq_false_iff_not] at h58; omega)
                          all_goals
                            refine e_aload_n dX6_bestToSplit_61 rfl rfl ?_
                            refine e_iload_n dX6_bestToSplit_62 rfl rfl ?_
                            refine x_V1 (M' := mX6_middleIn) dX6_bestToSplit_63 ml_X6_92 ok_X6_middleIn (by decide) rfl im_X6_middleIn se_X6_middleIn (ct_X6_middleIn cm iv hP (by omega)) (Nat.le_of_ble_eq_true rfl) (by decide) (Nat.le_of_ble_eq_true rfl) ?_
                            rw [hm]
                            refine e_iconst (v := -1) dX6_bestToSplit_66 rfl ?_
                            first | ((with_reducible refine mk_mo ?_); refine p_icmp_eq (tgt := 72) dX6_bestToSplit_67 (by decide) (fun h67 => ?_) (fun h67 => ?_)) | ((with_reducible refine mk_ms ?_); refine s_icmp_eq (tgt := 72) dX6_bestToSplit_67 (by decide) (by omega) (fun h67 => ?_) (fun h67 => ?_)) | ((with_reducible refine mk_mn ?_); refine q_icmp_eq (tgt := 72) dX6_bestToSplit_67 (by decide) (by omega) (fun h67 => ?_) (fun h67 => ?_)) | ((with_reducible refine mk_nn ?_); refine n_icmp_eq (tgt := 72) dX6_bestToSplit_67 (by decide) (by omega) (by omega) (fun h67 => ?_) (fun h67 => ?_)) | refine e_icmp_eq (tgt := 72) dX6_bestToSplit_67 (by decide) (fun h67 => ?_) (fun h67 => ?_)
                            · try first | contradiction | omega
                              all_goals
                                first | refine n_inc dX6_bestToSplit_72 rfl (Nat.le_of_ble_eq_true rfl) rfl ?_ | refine e_iinc dX6_bestToSplit_72 rfl rfl (Nat.le_of_ble_eq_true rfl) rfl ?_
                                refine e_goto (tgt := 4) dX6_bestToSplit_75 (by decide) ?_
                                first | (rw [bst_f (c := fun i => decide (w (42 + i) = s) && (mvL w (w (10 + i))).isNone && (mdO w i).isSome) (b := fun i q => decide (wtF w q < wtF w i)) (n := j) (by grind), hb] at ih; exact ih _) | (rw [bst_1 (c := fun i => decide (w (42 + i) = s) && (mvL w (w (10 + i))).isNone && (mdO w i).isSome) (b := fun i q => decide (wtF w q < wtF w i)) (n := j) (by grind) hb (by grind)] at ih; exact ih _) | (rw [bst_2 (c := fun i => decide (w (42 + i) = s) && (mvL w (w (10 + i))).isNone && (mdO w i).isSome) (b := fun i q => decide (wtF w q < wtF w i)) (n := j) (by grind) hb (by grind)] at ih; exact ih _)
                            · try first | contradiction | omega
                              all_goals
                                refine e_iload_n dX6_bestToSplit_70 rfl rfl ?_
                                refine e_istore_n dX6_bestToSplit_71 rfl (Nat.le_of_ble_eq_true rfl) rfl ?_
                                first | refine n_inc dX6_bestToSplit_72 rfl (Nat.le_of_ble_eq_true rfl) rfl ?_ | refine e_iinc dX6_bestToSplit_72 rfl rfl (Nat.le_of_ble_eq_true rfl) rfl ?_
                                refine e_goto (tgt := 4) dX6_bestToSplit_75 (by decide) ?_
                                first | (rw [bst_f (c := fun i => decide (w (42 + i) = s) && (mvL w (w (10 + i))).isNone && (mdO w i).isSome) (b := fun i q => decide (wtF w q < wtF w i)) (n := j) (by grind), hb] at ih; exact ih _) | (rw [bst_1 (c := fun i => decide (w (42 + i) = s) && (mvL w (w (10 + i))).isNone && (mdO w i).isSome) (b := fun i q => decide (wtF w q < wtF w i)) (n := j) (by grind) hb (by grind)] at ih; exact ih _) | (rw [bst_2 (c := fun i => decide (w (42 + i) = s) && (mvL w (w (10 + i))).isNone && (mdO w i).isSome) (b := fun i q => decide (wtF w q < wtF w i)) (n := j) (by grind) hb (by grind)] at ih; exact ih _)
            · try first | contradiction | omega
              all_goals
                refine e_aload_n dX6_bestToSplit_17 rfl rfl ?_
                refine e_iload_n dX6_bestToSplit_18 rfl rfl ?_
                refine x_V1 (M' := mX6_weightOf) dX6_bestToSplit_19 ml_X6_60 ok_X6_weightOf (by decide) rfl im_X6_weightOf se_X6_weightOf (ct_X6_weightOf cm iv hP (by omega)) (Nat.le_of_ble_eq_true rfl) (by decide) (Nat.le_of_ble_eq_true rfl) ?_
                refine e_aload_n dX6_bestToSplit_22 rfl rfl ?_
                refine e_iload_n dX6_bestToSplit_23 rfl rfl ?_
                refine x_V1 (M' := mX6_weightOf) dX6_bestToSplit_24 ml_X6_60 ok_X6_weightOf (by decide) rfl im_X6_weightOf se_X6_weightOf (ct_X6_weightOf cm iv hP (by omega)) (Nat.le_of_ble_eq_true rfl) (by decide) (Nat.le_of_ble_eq_true rfl) ?_
                first | ((with_reducible refine mk_nn ?_); refine n_icmp_le (tgt := 34) dX6_bestToSplit_27 (by decide) (by omega) (by omega) (fun h27 => ?_) (fun h27 => ?_)) | refine e_icmp_le (tgt := 34) dX6_bestToSplit_27 (by decide) (fun h27 => ?_) (fun h27 => ?_)
                · try first | contradiction | omega
                  all_goals
                    refine e_iconst (v := nI 0) dX6_bestToSplit_34 rfl ?_
                    refine e_istore dX6_bestToSplit_35 (Nat.le_of_ble_eq_true rfl) rfl ?_
                    refine e_aload_n dX6_bestToSplit_37 rfl rfl ?_
                    refine e_getR dX6_bestToSplit_38 fl_X6_18 rfl (cp_own cm) ?_
                    refine e_iload_n dX6_bestToSplit_41 rfl rfl ?_
                    refine e_iadE _ dX6_bestToSplit_42 ⟨by decide, by decide⟩ rfl rfl (by simp only [lenK]; omega) (pl_ow hP (by omega)) ?_
                    refine e_iload_n dX6_bestToSplit_43 rfl rfl ?_
                    first | ((with_reducible refine mk_mo ?_); refine p_icmp_ne (tgt := 72) dX6_bestToSplit_44 (by decide) (fun h44 => ?_) (fun h44 => ?_)) | ((with_reducible refine mk_ms ?_); refine s_icmp_ne (tgt := 72) dX6_bestToSplit_44 (by decide) (by omega) (fun h44 => ?_) (fun h44 => ?_)) | ((with_reducible refine mk_mn ?_); refine q_icmp_ne (tgt := 72) dX6_bestToSplit_44 (by decide) (by omega) (fun h44 => ?_) (fun h44 => ?_)) | ((with_reducible refine mk_nn ?_); refine n_icmp_ne (tgt := 72) dX6_bestToSplit_44 (by decide) (by omega) (by omega) (fun h44 => ?_) (fun h44 => ?_)) | refine e_icmp_ne (tgt := 72) dX6_bestToSplit_44 (by decide) (fun h44 => ?_) (fun h44 => ?_)
                    · try first | contradiction | omega
                      all_goals
                        first | refine n_inc dX6_bestToSplit_72 rfl (Nat.le_of_ble_eq_true rfl) rfl ?_ | refine e_iinc dX6_bestToSplit_72 rfl rfl (Nat.le_of_ble_eq_true rfl) rfl ?_
                        refine e_goto (tgt := 4) dX6_bestToSplit_75 (by decide) ?_
                        first | (rw [bst_f (c := fun i => decide (w (42 + i) = s) && (mvL w (w (10 + i))).isNone && (mdO w i).isSome) (b := fun i q => decide (wtF w q < wtF w i)) (n := j) (by grind), hb] at ih; exact ih _) | (rw [bst_1 (c := fun i => decide (w (42 + i) = s) && (mvL w (w (10 + i))).isNone && (mdO w i).isSome) (b := fun i q => decide (wtF w q < wtF w i)) (n := j) (by grind) hb (by grind)] at ih; exact ih _) | (rw [bst_2 (c := fun i => decide (w (42 + i) = s) && (mvL w (w (10 + i))).isNone && (mdO w i).isSome) (b := fun i q => decide (wtF w q < wtF w i)) (n := j) (by grind) hb (by grind)] at ih; exact ih _)
                    · try first | contradiction | omega
                      all_goals
                        refine e_aload_n dX6_bestToSplit_47 rfl rfl ?_
                        refine e_getR dX6_bestToSplit_48 fl_X6_21 rfl (cp_busy cm) ?_
                        refine e_iload_n dX6_bestToSplit_51 rfl rfl ?_
                        refine e_zadE _ dX6_bestToSplit_52 ⟨by decide, by decide⟩ rfl rfl (by simp only [lenK]; omega) (pl_bu hP (by omega)) ?_
                        first | ((with_reducible refine mk_b ?_); refine b_if_ne (tgt := 72) dX6_bestToSplit_53 (by decide) (fun h53 => ?_) (fun h53 => ?_)) | ((with_reducible refine mk_ll ?_); refine m_if_ne (tgt := 72) dX6_bestToSplit_53 (by decide) (by omega) (by omega) (fun h53 => ?_) (fun h53 => ?_)) | ((with_reducible refine mk_lc ?_); refine l_if_ne (tgt := 72) dX6_bestToSplit_53 (by decide) (fun h53 => ?_) (fun h53 => ?_)) | ((with_reducible refine mk_n ?_); refine n_if_ne (tgt := 72) dX6_bestToSplit_53 (by decide) (by omega) (fun h53 => ?_) (fun h53 => ?_)) | refine e_if_ne (tgt := 72) dX6_bestToSplit_53 (by decide) (fun h53 => ?_) (fun h53 => ?_)
                        · try first | contradiction | omega | (simp only [decide_eq_true_eq, decide_eq_false_iff_not] at h53; omega)
                          all_goals
                            first | refine n_inc dX6_bestToSplit_72 rfl (Nat.le_of_ble_eq_true rfl) rfl ?_ | refine e_iinc dX6_bestToSplit_72 rfl rfl (Nat.le_of_ble_eq_true rfl) rfl ?_
                            refine e_goto (tgt := 4) dX6_bestToSplit_75 (by decide) ?_
                            first | (rw [bst_f (c := fun i => decide (w (42 + i) = s) && (mvL w (w (10 + i))).isNone && (mdO w i).isSome) (b := fun i q => decide (wtF w q < wtF w i)) (n := j) (by grind), hb] at ih; exact ih _) | (rw [bst_1 (c := fun i => decide (w (42 + i) = s) && (mvL w (w (10 + i))).isNone && (mdO w i).isSome) (b := fun i q => decide (wtF w q < wtF w i)) (n := j) (by grind) hb (by grind)] at ih; exact ih _) | (rw [bst_2 (c := fun i => decide (w (42 + i) = s) && (mvL w (w (10 + i))).isNone && (mdO w i).isSome) (b := fun i q => decide (wtF w q < wtF w i)) (n := j) (by grind) hb (by grind)] at ih; exact ih _)
                        · try first | contradiction | omega | (simp only [decide_eq_true_eq, decide_eq_false_iff_not] at h53; omega)
                          all_goals
                            refine e_iload dX6_bestToSplit_56 rfl ?_
                            first | ((with_reducible refine mk_b ?_); refine b_if_eq (tgt := 72) dX6_bestToSplit_58 (by decide) (fun h58 => ?_) (fun h58 => ?_)) | ((with_reducible refine mk_ll ?_); refine m_if_eq (tgt := 72) dX6_bestToSplit_58 (by decide) (by omega) (by omega) (fun h58 => ?_) (fun h58 => ?_)) | ((with_reducible refine mk_lc ?_); refine l_if_eq (tgt := 72) dX6_bestToSplit_58 (by decide) (fun h58 => ?_) (fun h58 => ?_)) | ((with_reducible refine mk_n ?_); refine n_if_eq (tgt := 72) dX6_bestToSplit_58 (by decide) (by omega) (fun h58 => ?_) (fun h58 => ?_)) | refine e_if_eq (tgt := 72) dX6_bestToSplit_58 (by decide) (fun h58 => ?_) (fun h58 => ?_)
                            · try first | contradiction | omega | (simp only [decide_eq_true_eq, decide_eq_false_iff_not] at h58; omega)
                              all_goals
                                first | refine n_inc dX6_bestToSplit_72 rfl (Nat.le_of_ble_eq_true rfl) rfl ?_ | refine e_iinc dX6_bestToSplit_72 rfl rfl (Nat.le_of_ble_eq_true rfl) rfl ?_
                                refine e_goto (tgt := 4) dX6_bestToSplit_75 (by decide) ?_
                                first | (rw [bst_f (c := fun i => decide (w (42 + i) = s) && (mvL w (w (10 + i))).isNone && (mdO w i).isSome) (b := fun i q => decide (wtF w q < wtF w i)) (n := j) (by grind), hb] at ih; exact ih _) | (rw [bst_1 (c := fun i => decide (w (42 + i) = s) && (mvL w (w (10 + i))).isNone && (mdO w i).isSome) (b := fun i q => decide (wtF w q < wtF w i)) (n := j) (by grind) hb (by grind)] at ih; exact ih _) | (rw [bst_2 (c := fun i => decide (w (42 + i) = s) && (mvL w (w (10 + i))).isNone && (mdO w i).isSome) (b := fun i q => decide (wtF w q < wtF w i)) (n := j) (by grind) hb (by grind)] at ih; exact ih _)
                            · try first | contradiction | omega | (simp only [decide_eq_true_eq, decide_eq_false_iff_not] at h58; omega)
                              all_goals
                                refine e_aload_n dX6_bestToSplit_61 rfl rfl ?_
                                refine e_iload_n dX6_bestToSplit_62 rfl rfl ?_
                                refine x_V1 (M' := mX6_middleIn) dX6_bestToSplit_63 ml_X6_92 ok_X6_middleIn (by decide) rfl im_X6_middleIn se_X6_middleIn (ct_X6_middleIn cm iv hP (by omega)) (Nat.le_of_ble_eq_true rfl) (by decide) (Nat.le_of_ble_eq_true rfl) ?_
                                rw [hm]
                                refine e_iconst (v := -1) dX6_bestToSplit_66 rfl ?_
                                first | ((with_reducible refine mk_mo ?_); refine p_icmp_eq (tgt := 72) dX6_bestToSplit_67 (by decide) (fun h67 => ?_) (fun h67 => ?_)) | ((with_reducible refine mk_ms ?_); refine s_icmp_eq (tgt := 72) dX6_bestToSplit_67 (by decide) (by omega) (fun h67 => ?_) (fun h67 => ?_)) | ((with_reducible refine mk_mn ?_); refine q_icmp_eq (tgt := 72) dX6_bestToSplit_67 (by decide) (by omega) (fun h67 => ?_) (fun h67 => ?_)) | ((with_reducible refine mk_nn ?_); refine n_icmp_eq (tgt := 72) dX6_bestToSplit_67 (by decide) (by omega) (by omega) (fun h67 => ?_) (fun h67 => ?_)) | refine e_icmp_eq (tgt := 72) dX6_bestToSplit_67 (by decide) (fun h67 => ?_) (fun h67 => ?_)
                                · try first | contradiction | omega
                                  all_goals
                                    first | refine n_inc dX6_bestToSplit_72 rfl (Nat.le_of_ble_eq_true rfl) rfl ?_ | refine e_iinc dX6_bestToSplit_72 rfl rfl (Nat.le_of_ble_eq_true rfl) rfl ?_
                                    refine e_goto (tgt := 4) dX6_bestToSplit_75 (by decide) ?_
                                    first | (rw [bst_f (c := fun i => decide (w (42 + i) = s) && (mvL w (w (10 + i))).isNone && (mdO w i).isSome) (b := fun i q => decide (wtF w q < wtF w i)) (n := j) (by grind), hb] at ih; exact ih _) | (rw [bst_1 (c := fun i => decide (w (42 + i) = s) && (mvL w (w (10 + i))).isNone && (mdO w i).isSome) (b := fun i q => decide (wtF w q < wtF w i)) (n := j) (by grind) hb (by grind)] at ih; exact ih _) | (rw [bst_2 (c := fun i => decide (w (42 + i) = s) && (mvL w (w (10 + i))).isNone && (mdO w i).isSome) (b := fun i q => decide (wtF w q < wtF w i)) (n := j) (by grind) hb (by grind)] at ih; exact ih _)
                                · try first | contradiction | omega
                                  all_goals
                                    refine e_iload_n dX6_bestToSplit_70 rfl rfl ?_
                                    refine e_istore_n dX6_bestToSplit_71 rfl (Nat.le_of_ble_eq_true rfl) rfl ?_
                                    first | refine n_inc dX6_bestToSplit_72 rfl (Nat.le_of_ble_eq_true rfl) rfl ?_ | refine e_iinc dX6_bestToSplit_72 rfl rfl (Nat.le_of_ble_eq_true rfl) rfl ?_
                                    refine e_goto (tgt := 4) dX6_bestToSplit_75 (by decide) ?_
                                    first | (rw [bst_f (c := fun i => decide (w (42 + i) = s) && (mvL w (w (10 + i))).isNone && (mdO w i).isSome) (b := fun i q => decide (wtF w q < wtF w i)) (n := j) (by grind), hb] at ih; exact ih _) | (rw [bst_1 (c := fun i => decide (w (42 + i) = s) && (mvL w (w (10 + i))).isNone && (mdO w i).isSome) (b := fun i q => decide (wtF w q < wtF w i)) (n := j) (by grind) hb (by grind)] at ih; exact ih _) | (rw [bst_2 (c := fun i => decide (w (42 + i) = s) && (mvL w (w (10 + i))).isNone && (mdO w i).isSome) (b := fun i q => decide (wtF w q < wtF w i)) (n := j) (by grind) hb (by grind)] at ih; exact ih _)
                · try first | contradiction | omega
                  all_goals
                    refine e_iconst (v := nI 1) dX6_bestToSplit_30 rfl ?_
                    refine e_goto (tgt := 35) dX6_bestToSplit_31 (by decide) ?_
                    refine e_istore dX6_bestToSplit_35 (Nat.le_of_ble_eq_true rfl) rfl ?_
                    refine e_aload_n dX6_bestToSplit_37 rfl rfl ?_
                    refine e_getR dX6_bestToSplit_38 fl_X6_18 rfl (cp_own cm) ?_
                    refine e_iload_n dX6_bestToSplit_41 rfl rfl ?_
                    refine e_iadE _ dX6_bestToSplit_42 ⟨by decide, by decide⟩ rfl rfl (by simp only [lenK]; omega) (pl_ow hP (by omega)) ?_
                    refine e_iload_n dX6_bestToSplit_43 rfl rfl ?_
                    first | ((with_reducible refine mk_mo ?_); refine p_icmp_ne (tgt := 72) dX6_bestToSplit_44 (by decide) (fun h44 => ?_) (fun h44 => ?_)) | ((with_reducible refine mk_ms ?_); refine s_icmp_ne (tgt := 72) dX6_bestToSplit_44 (by decide) (by omega) (fun h44 => ?_) (fun h44 => ?_)) | ((with_reducible refine mk_mn ?_); refine q_icmp_ne (tgt := 72) dX6_bestToSplit_44 (by decide) (by omega) (fun h44 => ?_) (fun h44 => ?_)) | ((with_reducible refine mk_nn ?_); refine n_icmp_ne (tgt := 72) dX6_bestToSplit_44 (by decide) (by omega) (by omega) (fun h44 => ?_) (fun h44 => ?_)) | refine e_icmp_ne (tgt := 72) dX6_bestToSplit_44 (by decide) (fun h44 => ?_) (fun h44 => ?_)
                    · try first | contradiction | omega
                      all_goals
                        first | refine n_inc dX6_bestToSplit_72 rfl (Nat.le_of_ble_eq_true rfl) rfl ?_ | refine e_iinc dX6_bestToSplit_72 rfl rfl (Nat.le_of_ble_eq_true rfl) rfl ?_
                        refine e_goto (tgt := 4) dX6_bestToSplit_75 (by decide) ?_
                        first | (rw [bst_f (c := fun i => decide (w (42 + i) = s) && (mvL w (w (10 + i))).isNone && (mdO w i).isSome) (b := fun i q => decide (wtF w q < wtF w i)) (n := j) (by grind), hb] at ih; exact ih _) | (rw [bst_1 (c := fun i => decide (w (42 + i) = s) && (mvL w (w (10 + i))).isNone && (mdO w i).isSome) (b := fun i q => decide (wtF w q < wtF w i)) (n := j) (by grind) hb (by grind)] at ih; exact ih _) | (rw [bst_2 (c := fun i => decide (w (42 + i) = s) && (mvL w (w (10 + i))).isNone && (mdO w i).isSome) (b := fun i q => decide (wtF w q < wtF w i)) (n := j) (by grind) hb (by grind)] at ih; exact ih _)
                    · try first | contradiction | omega
                      all_goals
                        refine e_aload_n dX6_bestToSplit_47 rfl rfl ?_
                        refine e_getR dX6_bestToSplit_48 fl_X6_21 rfl (cp_busy cm) ?_
                        refine e_iload_n dX6_bestToSplit_51 rfl rfl ?_
                        refine e_zadE _ dX6_bestToSplit_52 ⟨by decide, by decide⟩ rfl rfl (by simp only [lenK]; omega) (pl_bu hP (by omega)) ?_
                        first | ((with_reducible refine mk_b ?_); refine b_if_ne (tgt := 72) dX6_bestToSplit_53 (by decide) (fun h53 => ?_) (fun h53 => ?_)) | ((with_reducible refine mk_ll ?_); refine m_if_ne (tgt := 72) dX6_bestToSplit_53 (by decide) (by omega) (by omega) (fun h53 => ?_) (fun h53 => ?_)) | ((with_reducible refine mk_lc ?_); refine l_if_ne (tgt := 72) dX6_bestToSplit_53 (by decide) (fun h53 => ?_) (fun h53 => ?_)) | ((with_reducible refine mk_n ?_); refine n_if_ne (tgt := 72) dX6_bestToSplit_53 (by decide) (by omega) (fun h53 => ?_) (fun h53 => ?_)) | refine e_if_ne (tgt := 72) dX6_bestToSplit_53 (by decide) (fun h53 => ?_) (fun h53 => ?_)
                        · try first | contradiction | omega | (simp only [decide_eq_true_eq, decide_eq_false_iff_not] at h53; omega)
                          all_goals
                            first | refine n_inc dX6_bestToSplit_72 rfl (Nat.le_of_ble_eq_true rfl) rfl ?_ | refine e_iinc dX6_bestToSplit_72 rfl rfl (Nat.le_of_ble_eq_true rfl) rfl ?_
                            refine e_goto (tgt := 4) dX6_bestToSplit_75 (by decide) ?_
                            first | (rw [bst_f (c := fun i => decide (w (42 + i) = s) && (mvL w (w (10 + i))).isNone && (mdO w i).isSome) (b := fun i q => decide (wtF w q < wtF w i)) (n := j) (by grind), hb] at ih; exact ih _) | (rw [bst_1 (c := fun i => decide (w (42 + i) = s) && (mvL w (w (10 + i))).isNone && (mdO w i).isSome) (b := fun i q => decide (wtF w q < wtF w i)) (n := j) (by grind) hb (by grind)] at ih; exact ih _) | (rw [bst_2 (c := fun i => decide (w (42 + i) = s) && (mvL w (w (10 + i))).isNone && (mdO w i).isSome) (b := fun i q => decide (wtF w q < wtF w i)) (n := j) (by grind) hb (by grind)] at ih; exact ih _)
                        · try first | contradiction | omega | (simp only [decide_eq_true_eq, decide_eq_false_iff_not] at h53; omega)
                          all_goals
                            refine e_iload dX6_bestToSplit_56 rfl ?_
                            first | ((with_reducible refine mk_b ?_); refine b_if_eq (tgt := 72) dX6_bestToSplit_58 (by decide) (fun h58 => ?_) (fun h58 => ?_)) | ((with_reducible refine mk_ll ?_); refine m_if_eq (tgt := 72) dX6_bestToSplit_58 (by decide) (by omega) (by omega) (fun h58 => ?_) (fun h58 => ?_)) | ((with_reducible refine mk_lc ?_); refine l_if_eq (tgt := 72) dX6_bestToSplit_58 (by decide) (fun h58 => ?_) (fun h58 => ?_)) | ((with_reducible refine mk_n ?_); refine n_if_eq (tgt := 72) dX6_bestToSplit_58 (by decide) (by omega) (fun h58 => ?_) (fun h58 => ?_)) | refine e_if_eq (tgt := 72) dX6_bestToSplit_58 (by decide) (fun h58 => ?_) (fun h58 => ?_)
                            · try first | contradiction | omega | (simp only [decide_eq_true_eq, decide_eq_false_iff_not] at h58; omega)
                              all_goals
                                first | refine n_inc dX6_bestToSplit_72 rfl (Nat.le_of_ble_eq_true rfl) rfl ?_ | refine e_iinc dX6_bestToSplit_72 rfl rfl (Nat.le_of_ble_eq_true rfl) rfl ?_
                                refine e_goto (tgt := 4) dX6_bestToSplit_75 (by decide) ?_
                                first | (rw [bst_f (c := fun i => decide (w (42 + i) = s) && (mvL w (w (10 + i))).isNone && (mdO w i).isSome) (b := fun i q => decide (wtF w q < wtF w i)) (n := j) (by grind), hb] at ih; exact ih _) | (rw [bst_1 (c := fun i => decide (w (42 + i) = s) && (mvL w (w (10 + i))).isNone && (mdO w i).isSome) (b := fun i q => decide (wtF w q < wtF w i)) (n := j) (by grind) hb (by grind)] at ih; exact ih _) | (rw [bst_2 (c := fun i => decide (w (42 + i) = s) && (mvL w (w (10 + i))).isNone && (mdO w i).isSome) (b := fun i q => decide (wtF w q < wtF w i)) (n := j) (by grind) hb (by grind)] at ih; exact ih _)
                            · try first | contradiction | omega | (simp only [decide_eq_true_eq, decide_eq_false_iff_not] at h58; omega)
                              all_goals
                                refine e_aload_n dX6_bestToSplit_61 rfl rfl ?_
                                refine e_iload_n dX6_bestToSplit_62 rfl rfl ?_
                                refine x_V1 (M' := mX6_middleIn) dX6_bestToSplit_63 ml_X6_92 ok_X6_middleIn (by decide) rfl im_X6_middleIn se_X6_middleIn (ct_X6_middleIn cm iv hP (by omega)) (Nat.le_of_ble_eq_true rfl) (by decide) (Nat.le_of_ble_eq_true rfl) ?_
                                rw [hm]
                                refine e_iconst (v := -1) dX6_bestToSplit_66 rfl ?_
                                first | ((with_reducible refine mk_mo ?_); refine p_icmp_eq (tgt := 72) dX6_bestToSplit_67 (by decide) (fun h67 => ?_) (fun h67 => ?_)) | ((with_reducible refine mk_ms ?_); refine s_icmp_eq (tgt := 72) dX6_bestToSplit_67 (by decide) (by omega) (fun h67 => ?_) (fun h67 => ?_)) | ((with_reducible refine mk_mn ?_); refine q_icmp_eq (tgt := 72) dX6_bestToSplit_67 (by decide) (by omega) (fun h67 => ?_) (fun h67 => ?_)) | ((with_reducible refine mk_nn ?_); refine n_icmp_eq (tgt := 72) dX6_bestToSplit_67 (by decide) (by omega) (by omega) (fun h67 => ?_) (fun h67 => ?_)) | refine e_icmp_eq (tgt := 72) dX6_bestToSplit_67 (by decide) (fun h67 => ?_) (fun h67 => ?_)
                                · try first | contradiction | omega
                                  all_goals
                                    first | refine n_inc dX6_bestToSplit_72 rfl (Nat.le_of_ble_eq_true rfl) rfl ?_ | refine e_iinc dX6_bestToSplit_72 rfl rfl (Nat.le_of_ble_eq_true rfl) rfl ?_
                                    refine e_goto (tgt := 4) dX6_bestToSplit_75 (by decide) ?_
                                    first | (rw [bst_f (c := fun i => decide (w (42 + i) = s) && (mvL w (w (10 + i))).isNone && (mdO w i).isSome) (b := fun i q => decide (wtF w q < wtF w i)) (n := j) (by grind), hb] at ih; exact ih _) | (rw [bst_1 (c := fun i => decide (w (42 + i) = s) && (mvL w (w (10 + i))).isNone && (mdO w i).isSome) (b := fun i q => decide (wtF w q < wtF w i)) (n := j) (by grind) hb (by grind)] at ih; exact ih _) | (rw [bst_2 (c := fun i => decide (w (42 + i) = s) && (mvL w (w (10 + i))).isNone && (mdO w i).isSome) (b := fun i q => decide (wtF w q < wtF w i)) (n := j) (by grind) hb (by grind)] at ih; exact ih _)
                                · try first | contradiction | omega
                                  all_goals
                                    refine e_iload_n dX6_bestToSplit_70 rfl rfl ?_
                                    refine e_istore_n dX6_bestToSplit_71 rfl (Nat.le_of_ble_eq_true rfl) rfl ?_
                                    first | refine n_inc dX6_bestToSplit_72 rfl (Nat.le_of_ble_eq_true rfl) rfl ?_ | refine e_iinc dX6_bestToSplit_72 rfl rfl (Nat.le_of_ble_eq_true rfl) rfl ?_
                                    refine e_goto (tgt := 4) dX6_bestToSplit_75 (by decide) ?_
                                    first | (rw [bst_f (c := fun i => decide (w (42 + i) = s) && (mvL w (w (10 + i))).isNone && (mdO w i).isSome) (b := fun i q => decide (wtF w q < wtF w i)) (n := j) (by grind), hb] at ih; exact ih _) | (rw [bst_1 (c := fun i => decide (w (42 + i) = s) && (mvL w (w (10 + i))).isNone && (mdO w i).isSome) (b := fun i q => decide (wtF w q < wtF w i)) (n := j) (by grind) hb (by grind)] at ih; exact ih _) | (rw [bst_2 (c := fun i => decide (w (42 + i) = s) && (mvL w (w (10 + i))).isNone && (mdO w i).isSome) (b := fun i q => decide (wtF w q < wtF w i)) (n := j) (by grind) hb (by grind)] at ih; exact ih _)
    | some k2 =>
      have hms : (mdO w j).isSome = true := by rw [hm]; rfl
      have hk2 := hmd k2 hm
      cases hb : bst (fun i => decide (w (42 + i) = s) && (mvL w (w (10 + i))).isNone && (mdO w i).isSome) (fun i q => decide (wtF w q < wtF w i)) j with
      | none =>
        refine e_iload_n dX6_bestToSplit_4 rfl rfl ?_
        refine e_aload_n dX6_bestToSplit_5 rfl rfl ?_
        refine e_getE dX6_bestToSplit_6 fl_X6_43 rfl (pl_n hP) ?_
        first | ((with_reducible refine mk_nn ?_); refine n_icmp_ge (tgt := 78) dX6_bestToSplit_9 (by decide) (by omega) (by omega) (fun h9 => ?_) (fun h9 => ?_)) | refine e_icmp_ge (tgt := 78) dX6_bestToSplit_9 (by decide) (fun h9 => ?_) (fun h9 => ?_)
        · try first | contradiction | omega
          all_goals
            refine e_iload_n dX6_bestToSplit_78 rfl rfl ?_
            refine e_ret (some _) rfl (r_int dX6_bestToSplit_79 rfl) ?_
            exact xq (by first | rfl | simp_all [bI_t, bI_f]) rfl rfl rfl rfl rfl
        · try first | contradiction | omega
          all_goals
            refine e_iload_n dX6_bestToSplit_12 rfl rfl ?_
            refine e_iconst (v := -1) dX6_bestToSplit_13 rfl ?_
            first | ((with_reducible refine mk_mo ?_); refine p_icmp_eq (tgt := 30) dX6_bestToSplit_14 (by decide) (fun h14 => ?_) (fun h14 => ?_)) | ((with_reducible refine mk_ms ?_); refine s_icmp_eq (tgt := 30) dX6_bestToSplit_14 (by decide) (by omega) (fun h14 => ?_) (fun h14 => ?_)) | ((with_reducible refine mk_mn ?_); refine q_icmp_eq (tgt := 30) dX6_bestToSplit_14 (by decide) (by omega) (fun h14 => ?_) (fun h14 => ?_)) | ((with_reducible refine mk_nn ?_); refine n_icmp_eq (tgt := 30) dX6_bestToSplit_14 (by decide) (by omega) (by omega) (fun h14 => ?_) (fun h14 => ?_)) | refine e_icmp_eq (tgt := 30) dX6_bestToSplit_14 (by decide) (fun h14 => ?_) (fun h14 => ?_)
            · try first | contradiction | omega
              all_goals
                refine e_iconst (v := nI 1) dX6_bestToSplit_30 rfl ?_
                refine e_goto (tgt := 35) dX6_bestToSplit_31 (by decide) ?_
                refine e_istore dX6_bestToSplit_35 (Nat.le_of_ble_eq_true rfl) rfl ?_
                refine e_aload_n dX6_bestToSplit_37 rfl rfl ?_
                refine e_getR dX6_bestToSplit_38 fl_X6_18 rfl (cp_own cm) ?_
                refine e_iload_n dX6_bestToSplit_41 rfl rfl ?_
                refine e_iadE _ dX6_bestToSplit_42 ⟨by decide, by decide⟩ rfl rfl (by simp only [lenK]; omega) (pl_ow hP (by omega)) ?_
                refine e_iload_n dX6_bestToSplit_43 rfl rfl ?_
                first | ((with_reducible refine mk_mo ?_); refine p_icmp_ne (tgt := 72) dX6_bestToSplit_44 (by decide) (fun h44 => ?_) (fun h44 => ?_)) | ((with_reducible refine mk_ms ?_); refine s_icmp_ne (tgt := 72) dX6_bestToSplit_44 (by decide) (by omega) (fun h44 => ?_) (fun h44 => ?_)) | ((with_reducible refine mk_mn ?_); refine q_icmp_ne (tgt := 72) dX6_bestToSplit_44 (by decide) (by omega) (fun h44 => ?_) (fun h44 => ?_)) | ((with_reducible refine mk_nn ?_); refine n_icmp_ne (tgt := 72) dX6_bestToSplit_44 (by decide) (by omega) (by omega) (fun h44 => ?_) (fun h44 => ?_)) | refine e_icmp_ne (tgt := 72) dX6_bestToSplit_44 (by decide) (fun h44 => ?_) (fun h44 => ?_)
                · try first | contradiction | omega
                  all_goals
                    first | refine n_inc dX6_bestToSplit_72 rfl (Nat.le_of_ble_eq_true rfl) rfl ?_ | refine e_iinc dX6_bestToSplit_72 rfl rfl (Nat.le_of_ble_eq_true rfl) rfl ?_
                    refine e_goto (tgt := 4) dX6_bestToSplit_75 (by decide) ?_
                    first | (rw [bst_f (c := fun i => decide (w (42 + i) = s) && (mvL w (w (10 + i))).isNone && (mdO w i).isSome) (b := fun i q => decide (wtF w q < wtF w i)) (n := j) (by grind), hb] at ih; exact ih _) | (rw [bst_0 (c := fun i => decide (w (42 + i) = s) && (mvL w (w (10 + i))).isNone && (mdO w i).isSome) (b := fun i q => decide (wtF w q < wtF w i)) (n := j) (by grind) hb] at ih; exact ih _)
                · try first | contradiction | omega
                  all_goals
                    refine e_aload_n dX6_bestToSplit_47 rfl rfl ?_
                    refine e_getR dX6_bestToSplit_48 fl_X6_21 rfl (cp_busy cm) ?_
                    refine e_iload_n dX6_bestToSplit_51 rfl rfl ?_
                    refine e_zadE _ dX6_bestToSplit_52 ⟨by decide, by decide⟩ rfl rfl (by simp only [lenK]; omega) (pl_bu hP (by omega)) ?_
                    first | ((with_reducible refine mk_b ?_); refine b_if_ne (tgt := 72) dX6_bestToSplit_53 (by decide) (fun h53 => ?_) (fun h53 => ?_)) | ((with_reducible refine mk_ll ?_); refine m_if_ne (tgt := 72) dX6_bestToSplit_53 (by decide) (by omega) (by omega) (fun h53 => ?_) (fun h53 => ?_)) | ((with_reducible refine mk_lc ?_); refine l_if_ne (tgt := 72) dX6_bestToSplit_53 (by decide) (fun h53 => ?_) (fun h53 => ?_)) | ((with_reducible refine mk_n ?_); refine n_if_ne (tgt := 72) dX6_bestToSplit_53 (by decide) (by omega) (fun h53 => ?_) (fun h53 => ?_)) | refine e_if_ne (tgt := 72) dX6_bestToSplit_53 (by decide) (fun h53 => ?_) (fun h53 => ?_)
                    · try first | contradiction | omega | (simp only [decide_eq_true_eq, decide_eq_false_iff_not] at h53; omega)
                      all_goals
                        first | refine n_inc dX6_bestToSplit_72 rfl (Nat.le_of_ble_eq_true rfl) rfl ?_ | refine e_iinc dX6_bestToSplit_72 rfl rfl (Nat.le_of_ble_eq_true rfl) rfl ?_
                        refine e_goto (tgt := 4) dX6_bestToSplit_75 (by decide) ?_
                        first | (rw [bst_f (c := fun i => decide (w (42 + i) = s) && (mvL w (w (10 + i))).isNone && (mdO w i).isSome) (b := fun i q => decide (wtF w q < wtF w i)) (n := j) (by grind), hb] at ih; exact ih _) | (rw [bst_0 (c := fun i => decide (w (42 + i) = s) && (mvL w (w (10 + i))).isNone && (mdO w i).isSome) (b := fun i q => decide (wtF w q < wtF w i)) (n := j) (by grind) hb] at ih; exact ih _)
                    · try first | contradiction | omega | (simp only [decide_eq_true_eq, decide_eq_false_iff_not] at h53; omega)
                      all_goals
                        refine e_iload dX6_bestToSplit_56 rfl ?_
                        first | ((with_reducible refine mk_b ?_); refine b_if_eq (tgt := 72) dX6_bestToSplit_58 (by decide) (fun h58 => ?_) (fun h58 => ?_)) | ((with_reducible refine mk_ll ?_); refine m_if_eq (tgt := 72) dX6_bestToSplit_58 (by decide) (by omega) (by omega) (fun h58 => ?_) (fun h58 => ?_)) | ((with_reducible refine mk_lc ?_); refine l_if_eq (tgt := 72) dX6_bestToSplit_58 (by decide) (fun h58 => ?_) (fun h58 => ?_)) | ((with_reducible refine mk_n ?_); refine n_if_eq (tgt := 72) dX6_bestToSplit_58 (by decide) (by omega) (fun h58 => ?_) (fun h58 => ?_)) | refine e_if_eq (tgt := 72) dX6_bestToSplit_58 (by decide) (fun h58 => ?_) (fun h58 => ?_)
                        · try first | contradiction | omega | (simp only [decide_eq_true_eq, decide_eq_false_iff_not] at h58; omega)
                          all_goals
                            first | refine n_inc dX6_bestToSplit_72 rfl (Nat.le_of_ble_eq_true rfl) rfl ?_ | refine e_iinc dX6_bestToSplit_72 rfl rfl (Nat.le_of_ble_eq_true rfl) rfl ?_
                            refine e_goto (tgt := 4) dX6_bestToSplit_75 (by decide) ?_
                            first | (rw [bst_f (c := fun i => decide (w (42 + i) = s) && (mvL w (w (10 + i))).isNone && (mdO w i).isSome) (b := fun i q => decide (wtF w q < wtF w i)) (n := j) (by grind), hb] at ih; exact ih _) | (rw [bst_0 (c := fun i => decide (w (42 + i) = s) && (mvL w (w (10 + i))).isNone && (mdO w i).isSome) (b := fun i q => decide (wtF w q < wtF w i)) (n := j) (by grind) hb] at ih; exact ih _)
                        · try first | contradiction | omega | (simp only [decide_eq_true_eq, decide_eq_false_iff_not] at h58; omega)
                          all_goals
                            refine e_aload_n dX6_bestToSplit_61 rfl rfl ?_
                            refine e_iload_n dX6_bestToSplit_62 rfl rfl ?_
                            refine x_V1 (M' := mX6_middleIn) dX6_bestToSplit_63 ml_X6_92 ok_X6_middleIn (by decide) rfl im_X6_middleIn se_X6_middleIn (ct_X6_middleIn cm iv hP (by omega)) (Nat.le_of_ble_eq_true rfl) (by decide) (Nat.le_of_ble_eq_true rfl) ?_
                            rw [hm, oI_s]
                            refine e_iconst (v := -1) dX6_bestToSplit_66 rfl ?_
                            first | ((with_reducible refine mk_mo ?_); refine p_icmp_eq (tgt := 72) dX6_bestToSplit_67 (by decide) (fun h67 => ?_) (fun h67 => ?_)) | ((with_reducible refine mk_ms ?_); refine s_icmp_eq (tgt := 72) dX6_bestToSplit_67 (by decide) (by omega) (fun h67 => ?_) (fun h67 => ?_)) | ((with_reducible refine mk_mn ?_); refine q_icmp_eq (tgt := 72) dX6_bestToSplit_67 (by decide) (by omega) (fun h67 => ?_) (fun h67 => ?_)) | ((with_reducible refine mk_nn ?_); refine n_icmp_eq (tgt := 72) dX6_bestToSplit_67 (by decide) (by omega) (by omega) (fun h67 => ?_) (fun h67 => ?_)) | refine e_icmp_eq (tgt := 72) dX6_bestToSplit_67 (by decide) (fun h67 => ?_) (fun h67 => ?_)
                            · try first | contradiction | omega
                              all_goals
                                first | refine n_inc dX6_bestToSplit_72 rfl (Nat.le_of_ble_eq_true rfl) rfl ?_ | refine e_iinc dX6_bestToSplit_72 rfl rfl (Nat.le_of_ble_eq_true rfl) rfl ?_
                                refine e_goto (tgt := 4) dX6_bestToSplit_75 (by decide) ?_
                                first | (rw [bst_f (c := fun i => decide (w (42 + i) = s) && (mvL w (w (10 + i))).isNone && (mdO w i).isSome) (b := fun i q => decide (wtF w q < wtF w i)) (n := j) (by grind), hb] at ih; exact ih _) | (rw [bst_0 (c := fun i => decide (w (42 + i) = s) && (mvL w (w (10 + i))).isNone && (mdO w i).isSome) (b := fun i q => decide (wtF w q < wtF w i)) (n := j) (by grind) hb] at ih; exact ih _)
                            · try first | contradiction | omega
                              all_goals
                                refine e_iload_n dX6_bestToSplit_70 rfl rfl ?_
                                refine e_istore_n dX6_bestToSplit_71 rfl (Nat.le_of_ble_eq_true rfl) rfl ?_
                                first | refine n_inc dX6_bestToSplit_72 rfl (Nat.le_of_ble_eq_true rfl) rfl ?_ | refine e_iinc dX6_bestToSplit_72 rfl rfl (Nat.le_of_ble_eq_true rfl) rfl ?_
                                refine e_goto (tgt := 4) dX6_bestToSplit_75 (by decide) ?_
                                first | (rw [bst_f (c := fun i => decide (w (42 + i) = s) && (mvL w (w (10 + i))).isNone && (mdO w i).isSome) (b := fun i q => decide (wtF w q < wtF w i)) (n := j) (by grind), hb] at ih; exact ih _) | (rw [bst_0 (c := fun i => decide (w (42 + i) = s) && (mvL w (w (10 + i))).isNone && (mdO w i).isSome) (b := fun i q => decide (wtF w q < wtF w i)) (n := j) (by grind) hb] at ih; exact ih _)
            · try first | contradiction | omega
              all_goals
                refine e_aload_n dX6_bestToSplit_17 rfl rfl ?_
                refine e_iload_n dX6_bestToSplit_18 rfl rfl ?_
                refine x_V1 (M' := mX6_weightOf) dX6_bestToSplit_19 ml_X6_60 ok_X6_weightOf (by decide) rfl im_X6_weightOf se_X6_weightOf (ct_X6_weightOf cm iv hP (by omega)) (Nat.le_of_ble_eq_true rfl) (by decide) (Nat.le_of_ble_eq_true rfl) ?_
                refine e_aload_n dX6_bestToSplit_22 rfl rfl ?_
                refine e_iload_n dX6_bestToSplit_23 rfl rfl ?_
                refine x_V1 (M' := mX6_weightOf) dX6_bestToSplit_24 ml_X6_60 ok_X6_weightOf (by decide) rfl im_X6_weightOf se_X6_weightOf (ct_X6_weightOf cm iv hP (by omega)) (Nat.le_of_ble_eq_true rfl) (by decide) (Nat.le_of_ble_eq_true rfl) ?_
                first | ((with_reducible refine mk_nn ?_); refine n_icmp_le (tgt := 34) dX6_bestToSplit_27 (by decide) (by omega) (by omega) (fun h27 => ?_) (fun h27 => ?_)) | refine e_icmp_le (tgt := 34) dX6_bestToSplit_27 (by decide) (fun h27 => ?_) (fun h27 => ?_)
                · try first | contradiction | omega
                  all_goals
                    refine e_iconst (v := nI 0) dX6_bestToSplit_34 rfl ?_
                    refine e_istore dX6_bestToSplit_35 (Nat.le_of_ble_eq_true rfl) rfl ?_
                    refine e_aload_n dX6_bestToSplit_37 rfl rfl ?_
                    refine e_getR dX6_bestToSplit_38 fl_X6_18 rfl (cp_own cm) ?_
                    refine e_iload_n dX6_bestToSplit_41 rfl rfl ?_
                    refine e_iadE _ dX6_bestToSplit_42 ⟨by decide, by decide⟩ rfl rfl (by simp only [lenK]; omega) (pl_ow hP (by omega)) ?_
                    refine e_iload_n dX6_bestToSplit_43 rfl rfl ?_
                    first | ((with_reducible refine mk_mo ?_); refine p_icmp_ne (tgt := 72) dX6_bestToSplit_44 (by decide) (fun h44 => ?_) (fun h44 => ?_)) | ((with_reducible refine mk_ms ?_); refine s_icmp_ne (tgt := 72) dX6_bestToSplit_44 (by decide) (by omega) (fun h44 => ?_) (fun h44 => ?_)) | ((with_reducible refine mk_mn ?_); refine q_icmp_ne (tgt := 72) dX6_bestToSplit_44 (by decide) (by omega) (fun h44 => ?_) (fun h44 => ?_)) | ((with_reducible refine mk_nn ?_); refine n_icmp_ne (tgt := 72) dX6_bestToSplit_44 (by decide) (by omega) (by omega) (fun h44 => ?_) (fun h44 => ?_)) | refine e_icmp_ne (tgt := 72) dX6_bestToSplit_44 (by decide) (fun h44 => ?_) (fun h44 => ?_)
                    · try first | contradiction | omega
                      all_goals
                        first | refine n_inc dX6_bestToSplit_72 rfl (Nat.le_of_ble_eq_true rfl) rfl ?_ | refine e_iinc dX6_bestToSplit_72 rfl rfl (Nat.le_of_ble_eq_true rfl) rfl ?_
                        refine e_goto (tgt := 4) dX6_bestToSplit_75 (by decide) ?_
                        first | (rw [bst_f (c := fun i => decide (w (42 + i) = s) && (mvL w (w (10 + i))).isNone && (mdO w i).isSome) (b := fun i q => decide (wtF w q < wtF w i)) (n := j) (by grind), hb] at ih; exact ih _) | (rw [bst_0 (c := fun i => decide (w (42 + i) = s) && (mvL w (w (10 + i))).isNone && (mdO w i).isSome) (b := fun i q => decide (wtF w q < wtF w i)) (n := j) (by grind) hb] at ih; exact ih _)
                    · try first | contradiction | omega
                      all_goals
                        refine e_aload_n dX6_bestToSplit_47 rfl rfl ?_
                        refine e_getR dX6_bestToSplit_48 fl_X6_21 rfl (cp_busy cm) ?_
                        refine e_iload_n dX6_bestToSplit_51 rfl rfl ?_
                        refine e_zadE _ dX6_bestToSplit_52 ⟨by decide, by decide⟩ rfl rfl (by simp only [lenK]; omega) (pl_bu hP (by omega)) ?_
                        first | ((with_reducible refine mk_b ?_); refine b_if_ne (tgt := 72) dX6_bestToSplit_53 (by decide) (fun h53 => ?_) (fun h53 => ?_)) | ((with_reducible refine mk_ll ?_); refine m_if_ne (tgt := 72) dX6_bestToSplit_53 (by decide) (by omega) (by omega) (fun h53 => ?_) (fun h53 => ?_)) | ((with_reducible refine mk_lc ?_); refine l_if_ne (tgt := 72) dX6_bestToSplit_53 (by decide) (fun h53 => ?_) (fun h53 => ?_)) | ((with_reducible refine mk_n ?_); refine n_if_ne (tgt := 72) dX6_bestToSplit_53 (by decide) (by omega) (fun h53 => ?_) (fun h53 => ?_)) | refine e_if_ne (tgt := 72) dX6_bestToSplit_53 (by decide) (fun h53 => ?_) (fun h53 => ?_)
                        · try first | contradiction | omega | (simp only [decide_eq_true_eq, decide_eq_false_iff_not] at h53; omega)
                          all_goals
                            first | refine n_inc dX6_bestToSplit_72 rfl (Nat.le_of_ble_eq_true rfl) rfl ?_ | refine e_iinc dX6_bestToSplit_72 rfl rfl (Nat.le_of_ble_eq_true rfl) rfl ?_
                            refine e_goto (tgt := 4) dX6_bestToSplit_75 (by decide) ?_
                            first | (rw [bst_f (c := fun i => decide (w (42 + i) = s) && (mvL w (w (10 + i))).isNone && (mdO w i).isSome) (b := fun i q => decide (wtF w q < wtF w i)) (n := j) (by grind), hb] at ih; exact ih _) | (rw [bst_0 (c := fun i => decide (w (42 + i) = s) && (mvL w (w (10 + i))).isNone && (mdO w i).isSome) (b := fun i q => decide (wtF w q < wtF w i)) (n := j) (by grind) hb] at ih; exact ih _)
                        · try first | contradiction | omega | (simp only [decide_eq_true_eq, decide_eq_false_iff_not] at h53; omega)
                          all_goals
                            refine e_iload dX6_bestToSplit_56 rfl ?_
                            first | ((with_reducible refine mk_b ?_); refine b_if_eq (tgt := 72) dX6_bestToSplit_58 (by decide) (fun h58 => ?_) (fun h58 => ?_)) | ((with_reducible refine mk_ll ?_); refine m_if_eq (tgt := 72) dX6_bestToSplit_58 (by decide) (by omega) (by omega) (fun h58 => ?_) (fun h58 => ?_)) | ((with_reducible refine mk_lc ?_); refine l_if_eq (tgt := 72) dX6_bestToSplit_58 (by decide) (fun h58 => ?_) (fun h58 => ?_)) | ((with_reducible refine mk_n ?_); refine n_if_eq (tgt := 72) dX6_bestToSplit_58 (by decide) (by omega) (fun h58 => ?_) (fun h58 => ?_)) | refine e_if_eq (tgt := 72) dX6_bestToSplit_58 (by decide) (fun h58 => ?_) (fun h58 => ?_)
                            · try first | contradiction | omega | (simp only [decide_eq_true_eq, decide_eq_false_iff_not] at h58; omega)
                              all_goals
                                first | refine n_inc dX6_bestToSplit_72 rfl (Nat.le_of_ble_eq_true rfl) rfl ?_ | refine e_iinc dX6_bestToSplit_72 rfl rfl (Nat.le_of_ble_eq_true rfl) rfl ?_
                                refine e_goto (tgt := 4) dX6_bestToSplit_75 (by decide) ?_
                                first | (rw [bst_f (c := fun i => decide (w (42 + i) = s) && (mvL w (w (10 + i))).isNone && (mdO w i).isSome) (b := fun i q => decide (wtF w q < wtF w i)) (n := j) (by grind), hb] at ih; exact ih _) | (rw [bst_0 (c := fun i => decide (w (42 + i) = s) && (mvL w (w (10 + i))).isNone && (mdO w i).isSome) (b := fun i q => decide (wtF w q < wtF w i)) (n := j) (by grind) hb] at ih; exact ih _)
                            · try first | contradiction | omega | (simp only [decide_eq_true_eq, decide_eq_false_iff_not] at h58; omega)
                              all_goals
                                refine e_aload_n dX6_bestToSplit_61 rfl rfl ?_
                                refine e_iload_n dX6_bestToSplit_62 rfl rfl ?_
                                refine x_V1 (M' := mX6_middleIn) dX6_bestToSplit_63 ml_X6_92 ok_X6_middleIn (by decide) rfl im_X6_middleIn se_X6_middleIn (ct_X6_middleIn cm iv hP (by omega)) (Nat.le_of_ble_eq_true rfl) (by decide) (Nat.le_of_ble_eq_true rfl) ?_
                                rw [hm, oI_s]
                                refine e_iconst (v := -1) dX6_bestToSplit_66 rfl ?_
                                first | ((with_reducible refine mk_mo ?_); refine p_icmp_eq (tgt := 72) dX6_bestToSplit_67 (by decide) (fun h67 => ?_) (fun h67 => ?_)) | ((with_reducible refine mk_ms ?_); refine s_icmp_eq (tgt := 72) dX6_bestToSplit_67 (by decide) (by omega) (fun h67 => ?_) (fun h67 => ?_)) | ((with_reducible refine mk_mn ?_); refine q_icmp_eq (tgt := 72) dX6_bestToSplit_67 (by decide) (by omega) (fun h67 => ?_) (fun h67 => ?_)) | ((with_reducible refine mk_nn ?_); refine n_icmp_eq (tgt := 72) dX6_bestToSplit_67 (by decide) (by omega) (by omega) (fun h67 => ?_) (fun h67 => ?_)) | refine e_icmp_eq (tgt := 72) dX6_bestToSplit_67 (by decide) (fun h67 => ?_) (fun h67 => ?_)
                                · try first | contradiction | omega
                                  all_goals
                                    first | refine n_inc dX6_bestToSplit_72 rfl (Nat.le_of_ble_eq_true rfl) rfl ?_ | refine e_iinc dX6_bestToSplit_72 rfl rfl (Nat.le_of_ble_eq_true rfl) rfl ?_
                                    refine e_goto (tgt := 4) dX6_bestToSplit_75 (by decide) ?_
                                    first | (rw [bst_f (c := fun i => decide (w (42 + i) = s) && (mvL w (w (10 + i))).isNone && (mdO w i).isSome) (b := fun i q => decide (wtF w q < wtF w i)) (n := j) (by grind), hb] at ih; exact ih _) | (rw [bst_0 (c := fun i => decide (w (42 + i) = s) && (mvL w (w (10 + i))).isNone && (mdO w i).isSome) (b := fun i q => decide (wtF w q < wtF w i)) (n := j) (by grind) hb] at ih; exact ih _)
                                · try first | contradiction | omega
                                  all_goals
                                    refine e_iload_n dX6_bestToSplit_70 rfl rfl ?_
                                    refine e_istore_n dX6_bestToSplit_71 rfl (Nat.le_of_ble_eq_true rfl) rfl ?_
                                    first | refine n_inc dX6_bestToSplit_72 rfl (Nat.le_of_ble_eq_true rfl) rfl ?_ | refine e_iinc dX6_bestToSplit_72 rfl rfl (Nat.le_of_ble_eq_true rfl) rfl ?_
                                    refine e_goto (tgt := 4) dX6_bestToSplit_75 (by decide) ?_
                                    first | (rw [bst_f (c := fun i => decide (w (42 + i) = s) && (mvL w (w (10 + i))).isNone && (mdO w i).isSome) (b := fun i q => decide (wtF w q < wtF w i)) (n := j) (by grind), hb] at ih; exact ih _) | (rw [bst_0 (c := fun i => decide (w (42 + i) = s) && (mvL w (w (10 + i))).isNone && (mdO w i).isSome) (b := fun i q => decide (wtF w q < wtF w i)) (n := j) (by grind) hb] at ih; exact ih _)
                · try first | contradiction | omega
                  all_goals
                    refine e_iconst (v := nI 1) dX6_bestToSplit_30 rfl ?_
                    refine e_goto (tgt := 35) dX6_bestToSplit_31 (by decide) ?_
                    refine e_istore dX6_bestToSplit_35 (Nat.le_of_ble_eq_true rfl) rfl ?_
                    refine e_aload_n dX6_bestToSplit_37 rfl rfl ?_
                    refine e_getR dX6_bestToSplit_38 fl_X6_18 rfl (cp_own cm) ?_
                    refine e_iload_n dX6_bestToSplit_41 rfl rfl ?_
                    refine e_iadE _ dX6_bestToSplit_42 ⟨by decide, by decide⟩ rfl rfl (by simp only [lenK]; omega) (pl_ow hP (by omega)) ?_
                    refine e_iload_n dX6_bestToSplit_43 rfl rfl ?_
                    first | ((with_reducible refine mk_mo ?_); refine p_icmp_ne (tgt := 72) dX6_bestToSplit_44 (by decide) (fun h44 => ?_) (fun h44 => ?_)) | ((with_reducible refine mk_ms ?_); refine s_icmp_ne (tgt := 72) dX6_bestToSplit_44 (by decide) (by omega) (fun h44 => ?_) (fun h44 => ?_)) | ((with_reducible refine mk_mn ?_); refine q_icmp_ne (tgt := 72) dX6_bestToSplit_44 (by decide) (by omega) (fun h44 => ?_) (fun h44 => ?_)) | ((with_reducible refine mk_nn ?_); refine n_icmp_ne (tgt := 72) dX6_bestToSplit_44 (by decide) (by omega) (by omega) (fun h44 => ?_) (fun h44 => ?_)) | refine e_icmp_ne (tgt := 72) dX6_bestToSplit_44 (by decide) (fun h44 => ?_) (fun h44 => ?_)
                    · try first | contradiction | omega
                      all_goals
                        first | refine n_inc dX6_bestToSplit_72 rfl (Nat.le_of_ble_eq_true rfl) rfl ?_ | refine e_iinc dX6_bestToSplit_72 rfl rfl (Nat.le_of_ble_eq_true rfl) rfl ?_
                        refine e_goto (tgt := 4) dX6_bestToSplit_75 (by decide) ?_
                        first | (rw [bst_f (c := fun i => decide (w (42 + i) = s) && (mvL w (w (10 + i))).isNone && (mdO w i).isSome) (b := fun i q => decide (wtF w q < wtF w i)) (n := j) (by grind), hb] at ih; exact ih _) | (rw [bst_0 (c := fun i => decide (w (42 + i) = s) && (mvL w (w (10 + i))).isNone && (mdO w i).isSome) (b := fun i q => decide (wtF w q < wtF w i)) (n := j) (by grind) hb] at ih; exact ih _)
                    · try first | contradiction | omega
                      all_goals
                        refine e_aload_n dX6_bestToSplit_47 rfl rfl ?_
                        refine e_getR dX6_bestToSplit_48 fl_X6_21 rfl (cp_busy cm) ?_
                        refine e_iload_n dX6_bestToSplit_51 rfl rfl ?_
                        refine e_zadE _ dX6_bestToSplit_52 ⟨by decide, by decide⟩ rfl rfl (by simp only [lenK]; omega) (pl_bu hP (by omega)) ?_
                        first | ((with_reducible refine mk_b ?_); refine b_if_ne (tgt := 72) dX6_bestToSplit_53 (by decide) (fun h53 => ?_) (fun h53 => ?_)) | ((with_reducible refine mk_ll ?_); refine m_if_ne (tgt := 72) dX6_bestToSplit_53 (by decide) (by omega) (by omega) (fun h53 => ?_) (fun h53 => ?_)) | ((with_reducible refine mk_lc ?_); refine l_if_ne (tgt := 72) dX6_bestToSplit_53 (by decide) (fun h53 => ?_) (fun h53 => ?_)) | ((with_reducible refine mk_n ?_); refine n_if_ne (tgt := 72) dX6_bestToSplit_53 (by decide) (by omega) (fun h53 => ?_) (fun h53 => ?_)) | refine e_if_ne (tgt := 72) dX6_bestToSplit_53 (by decide) (fun h53 => ?_) (fun h53 => ?_)
                        · try first | contradiction | omega | (simp only [decide_eq_true_eq, decide_eq_false_iff_not] at h53; omega)
                          all_goals
                            first | refine n_inc dX6_bestToSplit_72 rfl (Nat.le_of_ble_eq_true rfl) rfl ?_ | refine e_iinc dX6_bestToSplit_72 rfl rfl (Nat.le_of_ble_eq_true rfl) rfl ?_
                            refine e_goto (tgt := 4) dX6_bestToSplit_75 (by decide) ?_
                            first | (rw [bst_f (c := fun i => decide (w (42 + i) = s) && (mvL w (w (10 + i))).isNone && (mdO w i).isSome) (b := fun i q => decide (wtF w q < wtF w i)) (n := j) (by grind), hb] at ih; exact ih _) | (rw [bst_0 (c := fun i => decide (w (42 + i) = s) && (mvL w (w (10 + i))).isNone && (mdO w i).isSome) (b := fun i q => decide (wtF w q < wtF w i)) (n := j) (by grind) hb] at ih; exact ih _)
                        · try first | contradiction | omega | (simp only [decide_eq_true_eq, decide_eq_false_iff_not] at h53; omega)
                          all_goals
                            refine e_iload dX6_bestToSplit_56 rfl ?_
                            first | ((with_reducible refine mk_b ?_); refine b_if_eq (tgt := 72) dX6_bestToSplit_58 (by decide) (fun h58 => ?_) (fun h58 => ?_)) | ((with_reducible refine mk_ll ?_); refine m_if_eq (tgt := 72) dX6_bestToSplit_58 (by decide) (by omega) (by omega) (fun h58 => ?_) (fun h58 => ?_)) | ((with_reducible refine mk_lc ?_); refine l_if_eq (tgt := 72) dX6_bestToSplit_58 (by decide) (fun h58 => ?_) (fun h58 => ?_)) | ((with_reducible refine mk_n ?_); refine n_if_eq (tgt := 72) dX6_bestToSplit_58 (by decide) (by omega) (fun h58 => ?_) (fun h58 => ?_)) | refine e_if_eq (tgt := 72) dX6_bestToSplit_58 (by decide) (fun h58 => ?_) (fun h58 => ?_)
                            · try first | contradiction | omega | (simp only [decide_eq_true_eq, decide_eq_false_iff_not] at h58; omega)
                              all_goals
                                first | refine n_inc dX6_bestToSplit_72 rfl (Nat.le_of_ble_eq_true rfl) rfl ?_ | refine e_iinc dX6_bestToSplit_72 rfl rfl (Nat.le_of_ble_eq_true rfl) rfl ?_
                                refine e_goto (tgt := 4) dX6_bestToSplit_75 (by decide) ?_
                                first | (rw [bst_f (c := fun i => decide (w (42 + i) = s) && (mvL w (w (10 + i))).isNone && (mdO w i).isSome) (b := fun i q => decide (wtF w q < wtF w i)) (n := j) (by grind), hb] at ih; exact ih _) | (rw [bst_0 (c := fun i => decide (w (42 + i) = s) && (mvL w (w (10 + i))).isNone && (mdO w i).isSome) (b := fun i q => decide (wtF w q < wtF w i)) (n := j) (by grind) hb] at ih; exact ih _)
                            · try first | contradiction | omega | (simp only [decide_eq_true_eq, decide_eq_false_iff_not] at h58; omega)
                              all_goals
                                refine e_aload_n dX6_bestToSplit_61 rfl rfl ?_
                                refine e_iload_n dX6_bestToSplit_62 rfl rfl ?_
                                refine x_V1 (M' := mX6_middleIn) dX6_bestToSplit_63 ml_X6_92 ok_X6_middleIn (by decide) rfl im_X6_middleIn se_X6_middleIn (ct_X6_middleIn cm iv hP (by omega)) (Nat.le_of_ble_eq_true rfl) (by decide) (Nat.le_of_ble_eq_true rfl) ?_
                                rw [hm, oI_s]
                                refine e_iconst (v := -1) dX6_bestToSplit_66 rfl ?_
                                first | ((with_reducible refine mk_mo ?_); refine p_icmp_eq (tgt := 72) dX6_bestToSplit_67 (by decide) (fun h67 => ?_) (fun h67 => ?_)) | ((with_reducible refine mk_ms ?_); refine s_icmp_eq (tgt := 72) dX6_bestToSplit_67 (by decide) (by omega) (fun h67 => ?_) (fun h67 => ?_)) | ((with_reducible refine mk_mn ?_); refine q_icmp_eq (tgt := 72) dX6_bestToSplit_67 (by decide) (by omega) (fun h67 => ?_) (fun h67 => ?_)) | ((with_reducible refine mk_nn ?_); refine n_icmp_eq (tgt := 72) dX6_bestToSplit_67 (by decide) (by omega) (by omega) (fun h67 => ?_) (fun h67 => ?_)) | refine e_icmp_eq (tgt := 72) dX6_bestToSplit_67 (by decide) (fun h67 => ?_) (fun h67 => ?_)
                                · try first | contradiction | omega
                                  all_goals
                                    first | refine n_inc dX6_bestToSplit_72 rfl (Nat.le_of_ble_eq_true rfl) rfl ?_ | refine e_iinc dX6_bestToSplit_72 rfl rfl (Nat.le_of_ble_eq_true rfl) rfl ?_
                                    refine e_goto (tgt := 4) dX6_bestToSplit_75 (by decide) ?_
                                    first | (rw [bst_f (c := fun i => decide (w (42 + i) = s) && (mvL w (w (10 + i))).isNone && (mdO w i).isSome) (b := fun i q => decide (wtF w q < wtF w i)) (n := j) (by grind), hb] at ih; exact ih _) | (rw [bst_0 (c := fun i => decide (w (42 + i) = s) && (mvL w (w (10 + i))).isNone && (mdO w i).isSome) (b := fun i q => decide (wtF w q < wtF w i)) (n := j) (by grind) hb] at ih; exact ih _)
                                · try first | contradiction | omega
                                  all_goals
                                    refine e_iload_n dX6_bestToSplit_70 rfl rfl ?_
                                    refine e_istore_n dX6_bestToSplit_71 rfl (Nat.le_of_ble_eq_true rfl) rfl ?_
                                    first | refine n_inc dX6_bestToSplit_72 rfl (Nat.le_of_ble_eq_true rfl) rfl ?_ | refine e_iinc dX6_bestToSplit_72 rfl rfl (Nat.le_of_ble_eq_true rfl) rfl ?_
                                    refine e_goto (tgt := 4) dX6_bestToSplit_75 (by decide) ?_
                                    first | (rw [bst_f (c := fun i => decide (w (42 + i) = s) && (mvL w (w (10 + i))).isNone && (mdO w i).isSome) (b := fun i q => decide (wtF w q < wtF w i)) (n := j) (by grind), hb] at ih; exact ih _) | (rw [bst_0 (c := fun i => decide (w (42 + i) = s) && (mvL w (w (10 + i))).isNone && (mdO w i).isSome) (b := fun i q => decide (wtF w q < wtF w i)) (n := j) (by grind) hb] at ih; exact ih _)
      | some q =>
        have hq := (bst_in hb).1
        have hw2 := wtF_le iv (Nat.lt_trans hq hj)
        rw [oI_s]
        refine e_iload_n dX6_bestToSplit_4 rfl rfl ?_
        refine e_aload_n dX6_bestToSplit_5 rfl rfl ?_
        refine e_getE dX6_bestToSplit_6 fl_X6_43 rfl (pl_n hP) ?_
        first | ((with_reducible refine mk_nn ?_); refine n_icmp_ge (tgt := 78) dX6_bestToSplit_9 (by decide) (by omega) (by omega) (fun h9 => ?_) (fun h9 => ?_)) | refine e_icmp_ge (tgt := 78) dX6_bestToSplit_9 (by decide) (fun h9 => ?_) (fun h9 => ?_)
        · try first | contradiction | omega
          all_goals
            refine e_iload_n dX6_bestToSplit_78 rfl rfl ?_
            refine e_ret (some _) rfl (r_int dX6_bestToSplit_79 rfl) ?_
            exact xq (by first | rfl | simp_all [bI_t, bI_f]) rfl rfl rfl rfl rfl
        · try first | contradiction | omega
          all_goals
            refine e_iload_n dX6_bestToSplit_12 rfl rfl ?_
            refine e_iconst (v := -1) dX6_bestToSplit_13 rfl ?_
            first | ((with_reducible refine mk_mo ?_); refine p_icmp_eq (tgt := 30) dX6_bestToSplit_14 (by decide) (fun h14 => ?_) (fun h14 => ?_)) | ((with_reducible refine mk_ms ?_); refine s_icmp_eq (tgt := 30) dX6_bestToSplit_14 (by decide) (by omega) (fun h14 => ?_) (fun h14 => ?_)) | ((with_reducible refine mk_mn ?_); refine q_icmp_eq (tgt := 30) dX6_bestToSplit_14 (by decide) (by omega) (fun h14 => ?_) (fun h14 => ?_)) | ((with_reducible refine mk_nn ?_); refine n_icmp_eq (tgt := 30) dX6_bestToSplit_14 (by decide) (by omega) (by omega) (fun h14 => ?_) (fun h14 => ?_)) | refine e_icmp_eq (tgt := 30) dX6_bestToSplit_14 (by decide) (fun h14 => ?_) (fun h14 => ?_)
            · try first | contradiction | omega
              all_goals
                refine e_iconst (v := nI 1) dX6_bestToSplit_30 rfl ?_
                refine e_goto (tgt := 35) dX6_bestToSplit_31 (by decide) ?_
                refine e_istore dX6_bestToSplit_35 (Nat.le_of_ble_eq_true rfl) rfl ?_
                refine e_aload_n dX6_bestToSplit_37 rfl rfl ?_
                refine e_getR dX6_bestToSplit_38 fl_X6_18 rfl (cp_own cm) ?_
                refine e_iload_n dX6_bestToSplit_41 rfl rfl ?_
                refine e_iadE _ dX6_bestToSplit_42 ⟨by decide, by decide⟩ rfl rfl (by simp only [lenK]; omega) (pl_ow hP (by omega)) ?_
                refine e_iload_n dX6_bestToSplit_43 rfl rfl ?_
                first | ((with_reducible refine mk_mo ?_); refine p_icmp_ne (tgt := 72) dX6_bestToSplit_44 (by decide) (fun h44 => ?_) (fun h44 => ?_)) | ((with_reducible refine mk_ms ?_); refine s_icmp_ne (tgt := 72) dX6_bestToSplit_44 (by decide) (by omega) (fun h44 => ?_) (fun h44 => ?_)) | ((with_reducible refine mk_mn ?_); refine q_icmp_ne (tgt := 72) dX6_bestToSplit_44 (by decide) (by omega) (fun h44 => ?_) (fun h44 => ?_)) | ((with_reducible refine mk_nn ?_); refine n_icmp_ne (tgt := 72) dX6_bestToSplit_44 (by decide) (by omega) (by omega) (fun h44 => ?_) (fun h44 => ?_)) | refine e_icmp_ne (tgt := 72) dX6_bestToSplit_44 (by decide) (fun h44 => ?_) (fun h44 => ?_)
                · try first | contradiction | omega
                  all_goals
                    first | refine n_inc dX6_bestToSplit_72 rfl (Nat.le_of_ble_eq_true rfl) rfl ?_ | refine e_iinc dX6_bestToSplit_72 rfl rfl (Nat.le_of_ble_eq_true rfl) rfl ?_
                    refine e_goto (tgt := 4) dX6_bestToSplit_75 (by decide) ?_
                    first | (rw [bst_f (c := fun i => decide (w (42 + i) = s) && (mvL w (w (10 + i))).isNone && (mdO w i).isSome) (b := fun i q => decide (wtF w q < wtF w i)) (n := j) (by grind), hb] at ih; exact ih _) | (rw [bst_1 (c := fun i => decide (w (42 + i) = s) && (mvL w (w (10 + i))).isNone && (mdO w i).isSome) (b := fun i q => decide (wtF w q < wtF w i)) (n := j) (by grind) hb (by grind)] at ih; exact ih _) | (rw [bst_2 (c := fun i => decide (w (42 + i) = s) && (mvL w (w (10 + i))).isNone && (mdO w i).isSome) (b := fun i q => decide (wtF w q < wtF w i)) (n := j) (by grind) hb (by grind)] at ih; exact ih _)
                · try first | contradiction | omega
                  all_goals
                    refine e_aload_n dX6_bestToSplit_47 rfl rfl ?_
                    refine e_getR dX6_bestToSplit_48 fl_X6_21 rfl (cp_busy cm) ?_
                    refine e_iload_n dX6_bestToSplit_51 rfl rfl ?_
                    refine e_zadE _ dX6_bestToSplit_52 ⟨by decide, by decide⟩ rfl rfl (by simp only [lenK]; omega) (pl_bu hP (by omega)) ?_
                    first | ((with_reducible refine mk_b ?_); refine b_if_ne (tgt := 72) dX6_bestToSplit_53 (by decide) (fun h53 => ?_) (fun h53 => ?_)) | ((with_reducible refine mk_ll ?_); refine m_if_ne (tgt := 72) dX6_bestToSplit_53 (by decide) (by omega) (by omega) (fun h53 => ?_) (fun h53 => ?_)) | ((with_reducible refine mk_lc ?_); refine l_if_ne (tgt := 72) dX6_bestToSplit_53 (by decide) (fun h53 => ?_) (fun h53 => ?_)) | ((with_reducible refine mk_n ?_); refine n_if_ne (tgt := 72) dX6_bestToSplit_53 (by decide) (by omega) (fun h53 => ?_) (fun h53 => ?_)) | refine e_if_ne (tgt := 72) dX6_bestToSplit_53 (by decide) (fun h53 => ?_) (fun h53 => ?_)
                    · try first | contradiction | omega | (simp only [decide_eq_true_eq, decide_eq_false_iff_not] at h53; omega)
                      all_goals
                        first | refine n_inc dX6_bestToSplit_72 rfl (Nat.le_of_ble_eq_true rfl) rfl ?_ | refine e_iinc dX6_bestToSplit_72 rfl rfl (Nat.le_of_ble_eq_true rfl) rfl ?_
                        refine e_goto (tgt := 4) dX6_bestToSplit_75 (by decide) ?_
                        first | (rw [bst_f (c := fun i => decide (w (42 + i) = s) && (mvL w (w (10 + i))).isNone && (mdO w i).isSome) (b := fun i q => decide (wtF w q < wtF w i)) (n := j) (by grind), hb] at ih; exact ih _) | (rw [bst_1 (c := fun i => decide (w (42 + i) = s) && (mvL w (w (10 + i))).isNone && (mdO w i).isSome) (b := fun i q => decide (wtF w q < wtF w i)) (n := j) (by grind) hb (by grind)] at ih; exact ih _) | (rw [bst_2 (c := fun i => decide (w (42 + i) = s) && (mvL w (w (10 + i))).isNone && (mdO w i).isSome) (b := fun i q => decide (wtF w q < wtF w i)) (n := j) (by grind) hb (by grind)] at ih; exact ih _)
                    · try first | contradiction | omega | (simp only [decide_eq_true_eq, decide_eq_false_iff_not] at h53; omega)
                      all_goals
                        refine e_iload dX6_bestToSplit_56 rfl ?_
                        first | ((with_reducible refine mk_b ?_); refine b_if_eq (tgt := 72) dX6_bestToSplit_58 (by decide) (fun h58 => ?_) (fun h58 => ?_)) | ((with_reducible refine mk_ll ?_); refine m_if_eq (tgt := 72) dX6_bestToSplit_58 (by decide) (by omega) (by omega) (fun h58 => ?_) (fun h58 => ?_)) | ((with_reducible refine mk_lc ?_); refine l_if_eq (tgt := 72) dX6_bestToSplit_58 (by decide) (fun h58 => ?_) (fun h58 => ?_)) | ((with_reducible refine mk_n ?_); refine n_if_eq (tgt := 72) dX6_bestToSplit_58 (by decide) (by omega) (fun h58 => ?_) (fun h58 => ?_)) | refine e_if_eq (tgt := 72) dX6_bestToSplit_58 (by decide) (fun h58 => ?_) (fun h58 => ?_)
                        · try first | contradiction | omega | (simp only [decide_eq_true_eq, decide_eq_false_iff_not] at h58; omega)
                          all_goals
                            first | refine n_inc dX6_bestToSplit_72 rfl (Nat.le_of_ble_eq_true rfl) rfl ?_ | refine e_iinc dX6_bestToSplit_72 rfl rfl (Nat.le_of_ble_eq_true rfl) rfl ?_
                            refine e_goto (tgt := 4) dX6_bestToSplit_75 (by decide) ?_
                            first | (rw [bst_f (c := fun i => decide (w (42 + i) = s) && (mvL w (w (10 + i))).isNone && (mdO w i).isSome) (b := fun i q => decide (wtF w q < wtF w i)) (n := j) (by grind), hb] at ih; exact ih _) | (rw [bst_1 (c := fun i => decide (w (42 + i) = s) && (mvL w (w (10 + i))).isNone && (mdO w i).isSome) (b := fun i q => decide (wtF w q < wtF w i)) (n := j) (by grind) hb (by grind)] at ih; exact ih _) | (rw [bst_2 (c := fun i => decide (w (42 + i) = s) && (mvL w (w (10 + i))).isNone && (mdO w i).isSome) (b := fun i q => decide (wtF w q < wtF w i)) (n := j) (by grind) hb (by grind)] at ih; exact ih _)
                        · try first | contradiction | omega | (simp only [decide_eq_true_eq, decide_eq_false_iff_not] at h58; omega)
                          all_goals
                            refine e_aload_n dX6_bestToSplit_61 rfl rfl ?_
                            refine e_iload_n dX6_bestToSplit_62 rfl rfl ?_
                            refine x_V1 (M' := mX6_middleIn) dX6_bestToSplit_63 ml_X6_92 ok_X6_middleIn (by decide) rfl im_X6_middleIn se_X6_middleIn (ct_X6_middleIn cm iv hP (by omega)) (Nat.le_of_ble_eq_true rfl) (by decide) (Nat.le_of_ble_eq_true rfl) ?_
                            rw [hm, oI_s]
                            refine e_iconst (v := -1) dX6_bestToSplit_66 rfl ?_
                            first | ((with_reducible refine mk_mo ?_); refine p_icmp_eq (tgt := 72) dX6_bestToSplit_67 (by decide) (fun h67 => ?_) (fun h67 => ?_)) | ((with_reducible refine mk_ms ?_); refine s_icmp_eq (tgt := 72) dX6_bestToSplit_67 (by decide) (by omega) (fun h67 => ?_) (fun h67 => ?_)) | ((with_reducible refine mk_mn ?_); refine q_icmp_eq (tgt := 72) dX6_bestToSplit_67 (by decide) (by omega) (fun h67 => ?_) (fun h67 => ?_)) | ((with_reducible refine mk_nn ?_); refine n_icmp_eq (tgt := 72) dX6_bestToSplit_67 (by decide) (by omega) (by omega) (fun h67 => ?_) (fun h67 => ?_)) | refine e_icmp_eq (tgt := 72) dX6_bestToSplit_67 (by decide) (fun h67 => ?_) (fun h67 => ?_)
                            · try first | contradiction | omega
                              all_goals
                                first | refine n_inc dX6_bestToSplit_72 rfl (Nat.le_of_ble_eq_true rfl) rfl ?_ | refine e_iinc dX6_bestToSplit_72 rfl rfl (Nat.le_of_ble_eq_true rfl) rfl ?_
                                refine e_goto (tgt := 4) dX6_bestToSplit_75 (by decide) ?_
                                first | (rw [bst_f (c := fun i => decide (w (42 + i) = s) && (mvL w (w (10 + i))).isNone && (mdO w i).isSome) (b := fun i q => decide (wtF w q < wtF w i)) (n := j) (by grind), hb] at ih; exact ih _) | (rw [bst_1 (c := fun i => decide (w (42 + i) = s) && (mvL w (w (10 + i))).isNone && (mdO w i).isSome) (b := fun i q => decide (wtF w q < wtF w i)) (n := j) (by grind) hb (by grind)] at ih; exact ih _) | (rw [bst_2 (c := fun i => decide (w (42 + i) = s) && (mvL w (w (10 + i))).isNone && (mdO w i).isSome) (b := fun i q => decide (wtF w q < wtF w i)) (n := j) (by grind) hb (by grind)] at ih; exact ih _)
                            · try first | contradiction | omega
                              all_goals
                                refine e_iload_n dX6_bestToSplit_70 rfl rfl ?_
                                refine e_istore_n dX6_bestToSplit_71 rfl (Nat.le_of_ble_eq_true rfl) rfl ?_
                                first | refine n_inc dX6_bestToSplit_72 rfl (Nat.le_of_ble_eq_true rfl) rfl ?_ | refine e_iinc dX6_bestToSplit_72 rfl rfl (Nat.le_of_ble_eq_true rfl) rfl ?_
                                refine e_goto (tgt := 4) dX6_bestToSplit_75 (by decide) ?_
                                first | (rw [bst_f (c := fun i => decide (w (42 + i) = s) && (mvL w (w (10 + i))).isNone && (mdO w i).isSome) (b := fun i q => decide (wtF w q < wtF w i)) (n := j) (by grind), hb] at ih; exact ih _) | (rw [bst_1 (c := fun i => decide (w (42 + i) = s) && (mvL w (w (10 + i))).isNone && (mdO w i).isSome) (b := fun i q => decide (wtF w q < wtF w i)) (n := j) (by grind) hb (by grind)] at ih; exact ih _) | (rw [bst_2 (c := fun i => decide (w (42 + i) = s) && (mvL w (w (10 + i))).isNone && (mdO w i).isSome) (b := fun i q => decide (wtF w q < wtF w i)) (n := j) (by grind) hb (by grind)] at ih; exact ih _)
            · try first | contradiction | omega
              all_goals
                refine e_aload_n dX6_bestToSplit_17 rfl rfl ?_
                refine e_iload_n dX6_bestToSplit_18 rfl rfl ?_
                refine x_V1 (M' := mX6_weightOf) dX6_bestToSplit_19 ml_X6_60 ok_X6_weightOf (by decide) rfl im_X6_weightOf se_X6_weightOf (ct_X6_weightOf cm iv hP (by omega)) (Nat.le_of_ble_eq_true rfl) (by decide) (Nat.le_of_ble_eq_true rfl) ?_
                refine e_aload_n dX6_bestToSplit_22 rfl rfl ?_
                refine e_iload_n dX6_bestToSplit_23 rfl rfl ?_
                refine x_V1 (M' := mX6_weightOf) dX6_bestToSplit_24 ml_X6_60 ok_X6_weightOf (by decide) rfl im_X6_weightOf se_X6_weightOf (ct_X6_weightOf cm iv hP (by omega)) (Nat.le_of_ble_eq_true rfl) (by decide) (Nat.le_of_ble_eq_true rfl) ?_
                first | ((with_reducible refine mk_nn ?_); refine n_icmp_le (tgt := 34) dX6_bestToSplit_27 (by decide) (by omega) (by omega) (fun h27 => ?_) (fun h27 => ?_)) | refine e_icmp_le (tgt := 34) dX6_bestToSplit_27 (by decide) (fun h27 => ?_) (fun h27 => ?_)
                · try first | contradiction | omega
                  all_goals
                    refine e_iconst (v := nI 0) dX6_bestToSplit_34 rfl ?_
                    refine e_istore dX6_bestToSplit_35 (Nat.le_of_ble_eq_true rfl) rfl ?_
                    refine e_aload_n dX6_bestToSplit_37 rfl rfl ?_
                    refine e_getR dX6_bestToSplit_38 fl_X6_18 rfl (cp_own cm) ?_
                    refine e_iload_n dX6_bestToSplit_41 rfl rfl ?_
                    refine e_iadE _ dX6_bestToSplit_42 ⟨by decide, by decide⟩ rfl rfl (by simp only [lenK]; omega) (pl_ow hP (by omega)) ?_
                    refine e_iload_n dX6_bestToSplit_43 rfl rfl ?_
                    first | ((with_reducible refine mk_mo ?_); refine p_icmp_ne (tgt := 72) dX6_bestToSplit_44 (by decide) (fun h44 => ?_) (fun h44 => ?_)) | ((with_reducible refine mk_ms ?_); refine s_icmp_ne (tgt := 72) dX6_bestToSplit_44 (by decide) (by omega) (fun h44 => ?_) (fun h44 => ?_)) | ((with_reducible refine mk_mn ?_); refine q_icmp_ne (tgt := 72) dX6_bestToSplit_44 (by decide) (by omega) (fun h44 => ?_) (fun h44 => ?_)) | ((with_reducible refine mk_nn ?_); refine n_icmp_ne (tgt := 72) dX6_bestToSplit_44 (by decide) (by omega) (by omega) (fun h44 => ?_) (fun h44 => ?_)) | refine e_icmp_ne (tgt := 72) dX6_bestToSplit_44 (by decide) (fun h44 => ?_) (fun h44 => ?_)
                    · try first | contradiction | omega
                      all_goals
                        first | refine n_inc dX6_bestToSplit_72 rfl (Nat.le_of_ble_eq_true rfl) rfl ?_ | refine e_iinc dX6_bestToSplit_72 rfl rfl (Nat.le_of_ble_eq_true rfl) rfl ?_
                        refine e_goto (tgt := 4) dX6_bestToSplit_75 (by decide) ?_
                        first | (rw [bst_f (c := fun i => decide (w (42 + i) = s) && (mvL w (w (10 + i))).isNone && (mdO w i).isSome) (b := fun i q => decide (wtF w q < wtF w i)) (n := j) (by grind), hb] at ih; exact ih _) | (rw [bst_1 (c := fun i => decide (w (42 + i) = s) && (mvL w (w (10 + i))).isNone && (mdO w i).isSome) (b := fun i q => decide (wtF w q < wtF w i)) (n := j) (by grind) hb (by grind)] at ih; exact ih _) | (rw [bst_2 (c := fun i => decide (w (42 + i) = s) && (mvL w (w (10 + i))).isNone && (mdO w i).isSome) (b := fun i q => decide (wtF w q < wtF w i)) (n := j) (by grind) hb (by grind)] at ih; exact ih _)
                    · try first | contradiction | omega
                      all_goals
                        refine e_aload_n dX6_bestToSplit_47 rfl rfl ?_
                        refine e_getR dX6_bestToSplit_48 fl_X6_21 rfl (cp_busy cm) ?_
                        refine e_iload_n dX6_bestToSplit_51 rfl rfl ?_
                        refine e_zadE _ dX6_bestToSplit_52 ⟨by decide, by decide⟩ rfl rfl (by simp only [lenK]; omega) (pl_bu hP (by omega)) ?_
                        first | ((with_reducible refine mk_b ?_); refine b_if_ne (tgt := 72) dX6_bestToSplit_53 (by decide) (fun h53 => ?_) (fun h53 => ?_)) | ((with_reducible refine mk_ll ?_); refine m_if_ne (tgt := 72) dX6_bestToSplit_53 (by decide) (by omega) (by omega) (fun h53 => ?_) (fun h53 => ?_)) | ((with_reducible refine mk_lc ?_); refine l_if_ne (tgt := 72) dX6_bestToSplit_53 (by decide) (fun h53 => ?_) (fun h53 => ?_)) | ((with_reducible refine mk_n ?_); refine n_if_ne (tgt := 72) dX6_bestToSplit_53 (by decide) (by omega) (fun h53 => ?_) (fun h53 => ?_)) | refine e_if_ne (tgt := 72) dX6_bestToSplit_53 (by decide) (fun h53 => ?_) (fun h53 => ?_)
                        · try first | contradiction | omega | (simp only [decide_eq_true_eq, decide_eq_false_iff_not] at h53; omega)
                          all_goals
                            first | refine n_inc dX6_bestToSplit_72 rfl (Nat.le_of_ble_eq_true rfl) rfl ?_ | refine e_iinc dX6_bestToSplit_72 rfl rfl (Nat.le_of_ble_eq_true rfl) rfl ?_
                            refine e_goto (tgt := 4) dX6_bestToSplit_75 (by decide) ?_
                            first | (rw [bst_f (c := fun i => decide (w (42 + i) = s) && (mvL w (w (10 + i))).isNone && (mdO w i).isSome) (b := fun i q => decide (wtF w q < wtF w i)) (n := j) (by grind), hb] at ih; exact ih _) | (rw [bst_1 (c := fun i => decide (w (42 + i) = s) && (mvL w (w (10 + i))).isNone && (mdO w i).isSome) (b := fun i q => decide (wtF w q < wtF w i)) (n := j) (by grind) hb (by grind)] at ih; exact ih _) | (rw [bst_2 (c := fun i => decide (w (42 + i) = s) && (mvL w (w (10 + i))).isNone && (mdO w i).isSome) (b := fun i q => decide (wtF w q < wtF w i)) (n := j) (by grind) hb (by grind)] at ih; exact ih _)
                        · try first | contradiction | omega | (simp only [decide_eq_true_eq, decide_eq_false_iff_not] at h53; omega)
                          all_goals
                            refine e_iload dX6_bestToSplit_56 rfl ?_
                            first | ((with_reducible refine mk_b ?_); refine b_if_eq (tgt := 72) dX6_bestToSplit_58 (by decide) (fun h58 => ?_) (fun h58 => ?_)) | ((with_reducible refine mk_ll ?_); refine m_if_eq (tgt := 72) dX6_bestToSplit_58 (by decide) (by omega) (by omega) (fun h58 => ?_) (fun h58 => ?_)) | ((with_reducible refine mk_lc ?_); refine l_if_eq (tgt := 72) dX6_bestToSplit_58 (by decide) (fun h58 => ?_) (fun h58 => ?_)) | ((with_reducible refine mk_n ?_); refine n_if_eq (tgt := 72) dX6_bestToSplit_58 (by decide) (by omega) (fun h58 => ?_) (fun h58 => ?_)) | refine e_if_eq (tgt := 72) dX6_bestToSplit_58 (by decide) (fun h58 => ?_) (fun h58 => ?_)
                            · try first | contradiction | omega | (simp only [decide_eq_true_eq, decide_eq_false_iff_not] at h58; omega)
                              all_goals
                                first | refine n_inc dX6_bestToSplit_72 rfl (Nat.le_of_ble_eq_true rfl) rfl ?_ | refine e_iinc dX6_bestToSplit_72 rfl rfl (Nat.le_of_ble_eq_true rfl) rfl ?_
                                refine e_goto (tgt := 4) dX6_bestToSplit_75 (by decide) ?_
                                first | (rw [bst_f (c := fun i => decide (w (42 + i) = s) && (mvL w (w (10 + i))).isNone && (mdO w i).isSome) (b := fun i q => decide (wtF w q < wtF w i)) (n := j) (by grind), hb] at ih; exact ih _) | (rw [bst_1 (c := fun i => decide (w (42 + i) = s) && (mvL w (w (10 + i))).isNone && (mdO w i).isSome) (b := fun i q => decide (wtF w q < wtF w i)) (n := j) (by grind) hb (by grind)] at ih; exact ih _) | (rw [bst_2 (c := fun i => decide (w (42 + i) = s) && (mvL w (w (10 + i))).isNone && (mdO w i).isSome) (b := fun i q => decide (wtF w q < wtF w i)) (n := j) (by grind) hb (by grind)] at ih; exact ih _)
                            · try first | contradiction | omega | (simp only [decide_eq_true_eq, decide_eq_false_iff_not] at h58; omega)
                              all_goals
                                refine e_aload_n dX6_bestToSplit_61 rfl rfl ?_
                                refine e_iload_n dX6_bestToSplit_62 rfl rfl ?_
                                refine x_V1 (M' := mX6_middleIn) dX6_bestToSplit_63 ml_X6_92 ok_X6_middleIn (by decide) rfl im_X6_middleIn se_X6_middleIn (ct_X6_middleIn cm iv hP (by omega)) (Nat.le_of_ble_eq_true rfl) (by decide) (Nat.le_of_ble_eq_true rfl) ?_
                                rw [hm, oI_s]
                                refine e_iconst (v := -1) dX6_bestToSplit_66 rfl ?_
                                first | ((with_reducible refine mk_mo ?_); refine p_icmp_eq (tgt := 72) dX6_bestToSplit_67 (by decide) (fun h67 => ?_) (fun h67 => ?_)) | ((with_reducible refine mk_ms ?_); refine s_icmp_eq (tgt := 72) dX6_bestToSplit_67 (by decide) (by omega) (fun h67 => ?_) (fun h67 => ?_)) | ((with_reducible refine mk_mn ?_); refine q_icmp_eq (tgt := 72) dX6_bestToSplit_67 (by decide) (by omega) (fun h67 => ?_) (fun h67 => ?_)) | ((with_reducible refine mk_nn ?_); refine n_icmp_eq (tgt := 72) dX6_bestToSplit_67 (by decide) (by omega) (by omega) (fun h67 => ?_) (fun h67 => ?_)) | refine e_icmp_eq (tgt := 72) dX6_bestToSplit_67 (by decide) (fun h67 => ?_) (fun h67 => ?_)
                                · try first | contradiction | omega
                                  all_goals
                                    first | refine n_inc dX6_bestToSplit_72 rfl (Nat.le_of_ble_eq_true rfl) rfl ?_ | refine e_iinc dX6_bestToSplit_72 rfl rfl (Nat.le_of_ble_eq_true rfl) rfl ?_
                                    refine e_goto (tgt := 4) dX6_bestToSplit_75 (by decide) ?_
                                    first | (rw [bst_f (c := fun i => decide (w (42 + i) = s) && (mvL w (w (10 + i))).isNone && (mdO w i).isSome) (b := fun i q => decide (wtF w q < wtF w i)) (n := j) (by grind), hb] at ih; exact ih _) | (rw [bst_1 (c := fun i => decide (w (42 + i) = s) && (mvL w (w (10 + i))).isNone && (mdO w i).isSome) (b := fun i q => decide (wtF w q < wtF w i)) (n := j) (by grind) hb (by grind)] at ih; exact ih _) | (rw [bst_2 (c := fun i => decide (w (42 + i) = s) && (mvL w (w (10 + i))).isNone && (mdO w i).isSome) (b := fun i q => decide (wtF w q < wtF w i)) (n := j) (by grind) hb (by grind)] at ih; exact ih _)
                                · try first | contradiction | omega
                                  all_goals
                                    refine e_iload_n dX6_bestToSplit_70 rfl rfl ?_
                                    refine e_istore_n dX6_bestToSplit_71 rfl (Nat.le_of_ble_eq_true rfl) rfl ?_
                                    first | refine n_inc dX6_bestToSplit_72 rfl (Nat.le_of_ble_eq_true rfl) rfl ?_ | refine e_iinc dX6_bestToSplit_72 rfl rfl (Nat.le_of_ble_eq_true rfl) rfl ?_
                                    refine e_goto (tgt := 4) dX6_bestToSplit_75 (by decide) ?_
                                    first | (rw [bst_f (c := fun i => decide (w (42 + i) = s) && (mvL w (w (10 + i))).isNone && (mdO w i).isSome) (b := fun i q => decide (wtF w q < wtF w i)) (n := j) (by grind), hb] at ih; exact ih _) | (rw [bst_1 (c := fun i => decide (w (42 + i) = s) && (mvL w (w (10 + i))).isNone && (mdO w i).isSome) (b := fun i q => decide (wtF w q < wtF w i)) (n := j) (by grind) hb (by grind)] at ih; exact ih _) | (rw [bst_2 (c := fun i => decide (w (42 + i) = s) && (mvL w (w (10 + i))).isNone && (mdO w i).isSome) (b := fun i q => decide (wtF w q < wtF w i)) (n := j) (by grind) hb (by grind)] at ih; exact ih _)
                · try first | contradiction | omega
                  all_goals
                    refine e_iconst (v := nI 1) dX6_bestToSplit_30 rfl ?_
                    refine e_goto (tgt := 35) dX6_bestToSplit_31 (by decide) ?_
                    refine e_istore dX6_bestToSplit_35 (Nat.le_of_ble_eq_true rfl) rfl ?_
                    refine e_aload_n dX6_bestToSplit_37 rfl rfl ?_
                    refine e_getR dX6_bestToSplit_38 fl_X6_18 rfl (cp_own cm) ?_
                    refine e_iload_n dX6_bestToSplit_41 rfl rfl ?_
                    refine e_iadE _ dX6_bestToSplit_42 ⟨by decide, by decide⟩ rfl rfl (by simp only [lenK]; omega) (pl_ow hP (by omega)) ?_
                    refine e_iload_n dX6_bestToSplit_43 rfl rfl ?_
                    first | ((with_reducible refine mk_mo ?_); refine p_icmp_ne (tgt := 72) dX6_bestToSplit_44 (by decide) (fun h44 => ?_) (fun h44 => ?_)) | ((with_reducible refine mk_ms ?_); refine s_icmp_ne (tgt := 72) dX6_bestToSplit_44 (by decide) (by omega) (fun h44 => ?_) (fun h44 => ?_)) | ((with_reducible refine mk_mn ?_); refine q_icmp_ne (tgt := 72) dX6_bestToSplit_44 (by decide) (by omega) (fun h44 => ?_) (fun h44 => ?_)) | ((with_reducible refine mk_nn ?_); refine n_icmp_ne (tgt := 72) dX6_bestToSplit_44 (by decide) (by omega) (by omega) (fun h44 => ?_) (fun h44 => ?_)) | refine e_icmp_ne (tgt := 72) dX6_bestToSplit_44 (by decide) (fun h44 => ?_) (fun h44 => ?_)
                    · try first | contradiction | omega
                      all_goals
                        first | refine n_inc dX6_bestToSplit_72 rfl (Nat.le_of_ble_eq_true rfl) rfl ?_ | refine e_iinc dX6_bestToSplit_72 rfl rfl (Nat.le_of_ble_eq_true rfl) rfl ?_
                        refine e_goto (tgt := 4) dX6_bestToSplit_75 (by decide) ?_
                        first | (rw [bst_f (c := fun i => decide (w (42 + i) = s) && (mvL w (w (10 + i))).isNone && (mdO w i).isSome) (b := fun i q => decide (wtF w q < wtF w i)) (n := j) (by grind), hb] at ih; exact ih _) | (rw [bst_1 (c := fun i => decide (w (42 + i) = s) && (mvL w (w (10 + i))).isNone && (mdO w i).isSome) (b := fun i q => decide (wtF w q < wtF w i)) (n := j) (by grind) hb (by grind)] at ih; exact ih _) | (rw [bst_2 (c := fun i => decide (w (42 + i) = s) && (mvL w (w (10 + i))).isNone && (mdO w i).isSome) (b := fun i q => decide (wtF w q < wtF w i)) (n := j) (by grind) hb (by grind)] at ih; exact ih _)
                    · try first | contradiction | omega
                      all_goals
                        refine e_aload_n dX6_bestToSplit_47 rfl rfl ?_
                        refine e_getR dX6_bestToSplit_48 fl_X6_21 rfl (cp_busy cm) ?_
                        refine e_iload_n dX6_bestToSplit_51 rfl rfl ?_
                        refine e_zadE _ dX6_bestToSplit_52 ⟨by decide, by decide⟩ rfl rfl (by simp only [lenK]; omega) (pl_bu hP (by omega)) ?_
                        first | ((with_reducible refine mk_b ?_); refine b_if_ne (tgt := 72) dX6_bestToSplit_53 (by decide) (fun h53 => ?_) (fun h53 => ?_)) | ((with_reducible refine mk_ll ?_); refine m_if_ne (tgt := 72) dX6_bestToSplit_53 (by decide) (by omega) (by omega) (fun h53 => ?_) (fun h53 => ?_)) | ((with_reducible refine mk_lc ?_); refine l_if_ne (tgt := 72) dX6_bestToSplit_53 (by decide) (fun h53 => ?_) (fun h53 => ?_)) | ((with_reducible refine mk_n ?_); refine n_if_ne (tgt := 72) dX6_bestToSplit_53 (by decide) (by omega) (fun h53 => ?_) (fun h53 => ?_)) | refine e_if_ne (tgt := 72) dX6_bestToSplit_53 (by decide) (fun h53 => ?_) (fun h53 => ?_)
                        · try first | contradiction | omega | (simp only [decide_eq_true_eq, decide_eq_false_iff_not] at h53; omega)
                          all_goals
                            first | refine n_inc dX6_bestToSplit_72 rfl (Nat.le_of_ble_eq_true rfl) rfl ?_ | refine e_iinc dX6_bestToSplit_72 rfl rfl (Nat.le_of_ble_eq_true rfl) rfl ?_
                            refine e_goto (tgt := 4) dX6_bestToSplit_75 (by decide) ?_
                            first | (rw [bst_f (c := fun i => decide (w (42 + i) = s) && (mvL w (w (10 + i))).isNone && (mdO w i).isSome) (b := fun i q => decide (wtF w q < wtF w i)) (n := j) (by grind), hb] at ih; exact ih _) | (rw [bst_1 (c := fun i => decide (w (42 + i) = s) && (mvL w (w (10 + i))).isNone && (mdO w i).isSome) (b := fun i q => decide (wtF w q < wtF w i)) (n := j) (by grind) hb (by grind)] at ih; exact ih _) | (rw [bst_2 (c := fun i => decide (w (42 + i) = s) && (mvL w (w (10 + i))).isNone && (mdO w i).isSome) (b := fun i q => decide (wtF w q < wtF w i)) (n := j) (by grind) hb (by grind)] at ih; exact ih _)
                        · try first | contradiction | omega | (simp only [decide_eq_true_eq, decide_eq_false_iff_not] at h53; omega)
                          all_goals
                            refine e_iload dX6_bestToSplit_56 rfl ?_
                            first | ((with_reducible refine mk_b ?_); refine b_if_eq (tgt := 72) dX6_bestToSplit_58 (by decide) (fun h58 => ?_) (fun h58 => ?_)) | ((with_reducible refine mk_ll ?_); refine m_if_eq (tgt := 72) dX6_bestToSplit_58 (by decide) (by omega) (by omega) (fun h58 => ?_) (fun h58 => ?_)) | ((with_reducible refine mk_lc ?_); refine l_if_eq (tgt := 72) dX6_bestToSplit_58 (by decide) (fun h58 => ?_) (fun h58 => ?_)) | ((with_reducible refine mk_n ?_); refine n_if_eq (tgt := 72) dX6_bestToSplit_58 (by decide) (by omega) (fun h58 => ?_) (fun h58 => ?_)) | refine e_if_eq (tgt := 72) dX6_bestToSplit_58 (by decide) (fun h58 => ?_) (fun h58 => ?_)
                            · try first | contradiction | omega | (simp only [decide_eq_true_eq, decide_eq_false_iff_not] at h58; omega)
                              all_goals
                                first | refine n_inc dX6_bestToSplit_72 rfl (Nat.le_of_ble_eq_true rfl) rfl ?_ | refine e_iinc dX6_bestToSplit_72 rfl rfl (Nat.le_of_ble_eq_true rfl) rfl ?_
                                refine e_goto (tgt := 4) dX6_bestToSplit_75 (by decide) ?_
                                first | (rw [bst_f (c := fun i => decide (w (42 + i) = s) && (mvL w (w (10 + i))).isNone && (mdO w i).isSome) (b := fun i q => decide (wtF w q < wtF w i)) (n := j) (by grind), hb] at ih; exact ih _) | (rw [bst_1 (c := fun i => decide (w (42 + i) = s) && (mvL w (w (10 + i))).isNone && (mdO w i).isSome) (b := fun i q => decide (wtF w q < wtF w i)) (n := j) (by grind) hb (by grind)] at ih; exact ih _) | (rw [bst_2 (c := fun i => decide (w (42 + i) = s) && (mvL w (w (10 + i))).isNone && (mdO w i).isSome) (b := fun i q => decide (wtF w q < wtF w i)) (n := j) (by grind) hb (by grind)] at ih; exact ih _)
                            · try first | contradiction | omega | (simp only [decide_eq_true_eq, decide_eq_false_iff_not] at h58; omega)
                              all_goals
                                refine e_aload_n dX6_bestToSplit_61 rfl rfl ?_
                                refine e_iload_n dX6_bestToSplit_62 rfl rfl ?_
                                refine x_V1 (M' := mX6_middleIn) dX6_bestToSplit_63 ml_X6_92 ok_X6_middleIn (by decide) rfl im_X6_middleIn se_X6_middleIn (ct_X6_middleIn cm iv hP (by omega)) (Nat.le_of_ble_eq_true rfl) (by decide) (Nat.le_of_ble_eq_true rfl) ?_
                                rw [hm, oI_s]
                                refine e_iconst (v := -1) dX6_bestToSplit_66 rfl ?_
                                first | ((with_reducible refine mk_mo ?_); refine p_icmp_eq (tgt := 72) dX6_bestToSplit_67 (by decide) (fun h67 => ?_) (fun h67 => ?_)) | ((with_reducible refine mk_ms ?_); refine s_icmp_eq (tgt := 72) dX6_bestToSplit_67 (by decide) (by omega) (fun h67 => ?_) (fun h67 => ?_)) | ((with_reducible refine mk_mn ?_); refine q_icmp_eq (tgt := 72) dX6_bestToSplit_67 (by decide) (by omega) (fun h67 => ?_) (fun h67 => ?_)) | ((with_reducible refine mk_nn ?_); refine n_icmp_eq (tgt := 72) dX6_bestToSplit_67 (by decide) (by omega) (by omega) (fun h67 => ?_) (fun h67 => ?_)) | refine e_icmp_eq (tgt := 72) dX6_bestToSplit_67 (by decide) (fun h67 => ?_) (fun h67 => ?_)
                                · try first | contradiction | omega
                                  all_goals
                                    first | refine n_inc dX6_bestToSplit_72 rfl (Nat.le_of_ble_eq_true rfl) rfl ?_ | refine e_iinc dX6_bestToSplit_72 rfl rfl (Nat.le_of_ble_eq_true rfl) rfl ?_
                                    refine e_goto (tgt := 4) dX6_bestToSplit_75 (by decide) ?_
                                    first | (rw [bst_f (c := fun i => decide (w (42 + i) = s) && (mvL w (w (10 + i))).isNone && (mdO w i).isSome) (b := fun i q => decide (wtF w q < wtF w i)) (n := j) (by grind), hb] at ih; exact ih _) | (rw [bst_1 (c := fun i => decide (w (42 + i) = s) && (mvL w (w (10 + i))).isNone && (mdO w i).isSome) (b := fun i q => decide (wtF w q < wtF w i)) (n := j) (by grind) hb (by grind)] at ih; exact ih _) | (rw [bst_2 (c := fun i => decide (w (42 + i) = s) && (mvL w (w (10 + i))).isNone && (mdO w i).isSome) (b := fun i q => decide (wtF w q < wtF w i)) (n := j) (by grind) hb (by grind)] at ih; exact ih _)
                                · try first | contradiction | omega
                                  all_goals
                                    refine e_iload_n dX6_bestToSplit_70 rfl rfl ?_
                                    refine e_istore_n dX6_bestToSplit_71 rfl (Nat.le_of_ble_eq_true rfl) rfl ?_
                                    first | refine n_inc dX6_bestToSplit_72 rfl (Nat.le_of_ble_eq_true rfl) rfl ?_ | refine e_iinc dX6_bestToSplit_72 rfl rfl (Nat.le_of_ble_eq_true rfl) rfl ?_
                                    refine e_goto (tgt := 4) dX6_bestToSplit_75 (by decide) ?_
                                    first | (rw [bst_f (c := fun i => decide (w (42 + i) = s) && (mvL w (w (10 + i))).isNone && (mdO w i).isSome) (b := fun i q => decide (wtF w q < wtF w i)) (n := j) (by grind), hb] at ih; exact ih _) | (rw [bst_1 (c := fun i => decide (w (42 + i) = s) && (mvL w (w (10 + i))).isNone && (mdO w i).isSome) (b := fun i q => decide (wtF w q < wtF w i)) (n := j) (by grind) hb (by grind)] at ih; exact ih _) | (rw [bst_2 (c := fun i => decide (w (42 + i) = s) && (mvL w (w (10 + i))).isNone && (mdO w i).isSome) (b := fun i q => decide (wtF w q < wtF w i)) (n := j) (by grind) hb (by grind)] at ih; exact ih _)
    ) (fun x => by
    refine e_iload_n dX6_bestToSplit_4 rfl rfl ?_
    refine e_aload_n dX6_bestToSplit_5 rfl rfl ?_
    refine e_getE dX6_bestToSplit_6 fl_X6_43 rfl (pl_n hP) ?_
    first | ((with_reducible refine mk_nn ?_); refine n_icmp_ge (tgt := 78) dX6_bestToSplit_9 (by decide) (by omega) (by omega) (fun h9 => ?_) (fun h9 => ?_)) | refine e_icmp_ge (tgt := 78) dX6_bestToSplit_9 (by decide) (fun h9 => ?_) (fun h9 => ?_)
    · try first | contradiction | omega
      all_goals
        refine e_iload_n dX6_bestToSplit_78 rfl rfl ?_
        refine e_ret (some _) rfl (r_int dX6_bestToSplit_79 rfl) ?_
        exact xq rfl rfl rfl rfl rfl rfl
    · try first | contradiction | omega
      all_goals
        refine e_iload_n dX6_bestToSplit_12 rfl rfl ?_
        refine e_iconst (v := -1) dX6_bestToSplit_13 rfl ?_
        first | ((with_reducible refine mk_mo ?_); refine p_icmp_eq (tgt := 30) dX6_bestToSplit_14 (by decide) (fun h14 => ?_) (fun h14 => ?_)) | ((with_reducible refine mk_ms ?_); refine s_icmp_eq (tgt := 30) dX6_bestToSplit_14 (by decide) (by omega) (fun h14 => ?_) (fun h14 => ?_)) | ((with_reducible refine mk_mn ?_); refine q_icmp_eq (tgt := 30) dX6_bestToSplit_14 (by decide) (by omega) (fun h14 => ?_) (fun h14 => ?_)) | ((with_reducible refine mk_nn ?_); refine n_icmp_eq (tgt := 30) dX6_bestToSplit_14 (by decide) (by omega) (by omega) (fun h14 => ?_) (fun h14 => ?_)) | refine e_icmp_eq (tgt := 30) dX6_bestToSplit_14 (by decide) (fun h14 => ?_) (fun h14 => ?_)
        · try first | contradiction | omega
          all_goals
            refine e_iconst (v := nI 1) dX6_bestToSplit_30 rfl ?_
            refine e_goto (tgt := 35) dX6_bestToSplit_31 (by decide) ?_
            refine e_istore dX6_bestToSplit_35 (Nat.le_of_ble_eq_true rfl) rfl ?_
            refine e_aload_n dX6_bestToSplit_37 rfl rfl ?_
            refine e_getR dX6_bestToSplit_38 fl_X6_18 rfl (cp_own cm) ?_
            refine e_iload_n dX6_bestToSplit_41 rfl rfl ?_
            refine e_iadE _ dX6_bestToSplit_42 ⟨by decide, by decide⟩ rfl rfl (by simp only [lenK]; omega) (pl_ow hP (by omega)) ?_
            refine e_iload_n dX6_bestToSplit_43 rfl rfl ?_
            first | ((with_reducible refine mk_mo ?_); refine p_icmp_ne (tgt := 72) dX6_bestToSplit_44 (by decide) (fun h44 => ?_) (fun h44 => ?_)) | ((with_reducible refine mk_ms ?_); refine s_icmp_ne (tgt := 72) dX6_bestToSplit_44 (by decide) (by omega) (fun h44 => ?_) (fun h44 => ?_)) | ((with_reducible refine mk_mn ?_); refine q_icmp_ne (tgt := 72) dX6_bestToSplit_44 (by decide) (by omega) (fun h44 => ?_) (fun h44 => ?_)) | ((with_reducible refine mk_nn ?_); refine n_icmp_ne (tgt := 72) dX6_bestToSplit_44 (by decide) (by omega) (by omega) (fun h44 => ?_) (fun h44 => ?_)) | refine e_icmp_ne (tgt := 72) dX6_bestToSplit_44 (by decide) (fun h44 => ?_) (fun h44 => ?_)
            · try first | contradiction | omega
              all_goals
                first | refine n_inc dX6_bestToSplit_72 rfl (Nat.le_of_ble_eq_true rfl) rfl ?_ | refine e_iinc dX6_bestToSplit_72 rfl rfl (Nat.le_of_ble_eq_true rfl) rfl ?_
                refine e_goto (tgt := 4) dX6_bestToSplit_75 (by decide) ?_
                contradiction
            · try first | contradiction | omega
              all_goals
                refine e_aload_n dX6_bestToSplit_47 rfl rfl ?_
                refine e_getR dX6_bestToSplit_48 fl_X6_21 rfl (cp_busy cm) ?_
                refine e_iload_n dX6_bestToSplit_51 rfl rfl ?_
                refine e_zadE _ dX6_bestToSplit_52 ⟨by decide, by decide⟩ rfl rfl (by simp only [lenK]; omega) (pl_bu hP (by omega)) ?_
                first | ((with_reducible refine mk_b ?_); refine b_if_ne (tgt := 72) dX6_bestToSplit_53 (by decide) (fun h53 => ?_) (fun h53 => ?_)) | ((with_reducible refine mk_ll ?_); refine m_if_ne (tgt := 72) dX6_bestToSplit_53 (by decide) (by omega) (by omega) (fun h53 => ?_) (fun h53 => ?_)) | ((with_reducible refine mk_lc ?_); refine l_if_ne (tgt := 72) dX6_bestToSplit_53 (by decide) (fun h53 => ?_) (fun h53 => ?_)) | ((with_reducible refine mk_n ?_); refine n_if_ne (tgt := 72) dX6_bestToSplit_53 (by decide) (by omega) (fun h53 => ?_) (fun h53 => ?_)) | refine e_if_ne (tgt := 72) dX6_bestToSplit_53 (by decide) (fun h53 => ?_) (fun h53 => ?_)
                · try first | contradiction | omega | (simp only [decide_eq_true_eq, decide_eq_false_iff_not] at h53; omega)
                  all_goals
                    first | refine n_inc dX6_bestToSplit_72 rfl (Nat.le_of_ble_eq_true rfl) rfl ?_ | refine e_iinc dX6_bestToSplit_72 rfl rfl (Nat.le_of_ble_eq_true rfl) rfl ?_
                    refine e_goto (tgt := 4) dX6_bestToSplit_75 (by decide) ?_
                    contradiction
                · try first | contradiction | omega | (simp only [decide_eq_true_eq, decide_eq_false_iff_not] at h53; omega)
                  all_goals
                    refine e_iload dX6_bestToSplit_56 rfl ?_
                    first | ((with_reducible refine mk_b ?_); refine b_if_eq (tgt := 72) dX6_bestToSplit_58 (by decide) (fun h58 => ?_) (fun h58 => ?_)) | ((with_reducible refine mk_ll ?_); refine m_if_eq (tgt := 72) dX6_bestToSplit_58 (by decide) (by omega) (by omega) (fun h58 => ?_) (fun h58 => ?_)) | ((with_reducible refine mk_lc ?_); refine l_if_eq (tgt := 72) dX6_bestToSplit_58 (by decide) (fun h58 => ?_) (fun h58 => ?_)) | ((with_reducible refine mk_n ?_); refine n_if_eq (tgt := 72) dX6_bestToSplit_58 (by decide) (by omega) (fun h58 => ?_) (fun h58 => ?_)) | refine e_if_eq (tgt := 72) dX6_bestToSplit_58 (by decide) (fun h58 => ?_) (fun h58 => ?_)
                    · try first | contradiction | omega | (simp only [decide_eq_true_eq, decide_eq_false_iff_not] at h58; omega)
                      all_goals
                        first | refine n_inc dX6_bestToSplit_72 rfl (Nat.le_of_ble_eq_true rfl) rfl ?_ | refine e_iinc dX6_bestToSplit_72 rfl rfl (Nat.le_of_ble_eq_true rfl) rfl ?_
                        refine e_goto (tgt := 4) dX6_bestToSplit_75 (by decide) ?_
                        contradiction
                    · try first | contradiction | omega | (simp only [decide_eq_true_eq, decide_eq_false_iff_not] at h58; omega)
                      all_goals
                        refine e_aload_n dX6_bestToSplit_61 rfl rfl ?_
                        refine e_iload_n dX6_bestToSplit_62 rfl rfl ?_
                        refine x_V1 (M' := mX6_middleIn) dX6_bestToSplit_63 ml_X6_92 ok_X6_middleIn (by decide) rfl im_X6_middleIn se_X6_middleIn (ct_X6_middleIn cm iv hP (by omega)) (Nat.le_of_ble_eq_true rfl) (by decide) (Nat.le_of_ble_eq_true rfl) ?_
                        rw [hm, oI_s]
                        refine e_iconst (v := -1) dX6_bestToSplit_66 rfl ?_
                        first | ((with_reducible refine mk_mo ?_); refine p_icmp_eq (tgt := 72) dX6_bestToSplit_67 (by decide) (fun h67 => ?_) (fun h67 => ?_)) | ((with_reducible refine mk_ms ?_); refine s_icmp_eq (tgt := 72) dX6_bestToSplit_67 (by decide) (by omega) (fun h67 => ?_) (fun h67 => ?_)) | ((with_reducible refine mk_mn ?_); refine q_icmp_eq (tgt := 72) dX6_bestToSplit_67 (by decide) (by omega) (fun h67 => ?_) (fun h67 => ?_)) | ((with_reducible refine mk_nn ?_); refine n_icmp_eq (tgt := 72) dX6_bestToSplit_67 (by decide) (by omega) (by omega) (fun h67 => ?_) (fun h67 => ?_)) | refine e_icmp_eq (tgt := 72) dX6_bestToSplit_67 (by decide) (fun h67 => ?_) (fun h67 => ?_)
                        · try first | contradiction | omega
                          all_goals
                            first | refine n_inc dX6_bestToSplit_72 rfl (Nat.le_of_ble_eq_true rfl) rfl ?_ | refine e_iinc dX6_bestToSplit_72 rfl rfl (Nat.le_of_ble_eq_true rfl) rfl ?_
                            refine e_goto (tgt := 4) dX6_bestToSplit_75 (by decide) ?_
                            contradiction
                        · try first | contradiction | omega
                          all_goals
                            refine e_iload_n dX6_bestToSplit_70 rfl rfl ?_
                            refine e_istore_n dX6_bestToSplit_71 rfl (Nat.le_of_ble_eq_true rfl) rfl ?_
                            first | refine n_inc dX6_bestToSplit_72 rfl (Nat.le_of_ble_eq_true rfl) rfl ?_ | refine e_iinc dX6_bestToSplit_72 rfl rfl (Nat.le_of_ble_eq_true rfl) rfl ?_
                            refine e_goto (tgt := 4) dX6_bestToSplit_75 (by decide) ?_
                            contradiction
        · try first | contradiction | omega
          all_goals
            refine e_aload_n dX6_bestToSplit_17 rfl rfl ?_
            refine e_iload_n dX6_bestToSplit_18 rfl rfl ?_
            refine x_V1 (M' := mX6_weightOf) dX6_bestToSplit_19 ml_X6_60 ok_X6_weightOf (by decide) rfl im_X6_weightOf se_X6_weightOf (ct_X6_weightOf cm iv hP (by omega)) (Nat.le_of_ble_eq_true rfl) (by decide) (Nat.le_of_ble_eq_true rfl) ?_
            refine e_aload_n dX6_bestToSplit_22 rfl rfl ?_
            refine e_iload_n dX6_bestToSplit_23 rfl rfl ?_
            refine x_V1 (M' := mX6_weightOf) dX6_bestToSplit_24 ml_X6_60 ok_X6_weightOf (by decide) rfl im_X6_weightOf se_X6_weightOf (ct_X6_weightOf cm iv hP (by omega)) (Nat.le_of_ble_eq_true rfl) (by decide) (Nat.le_of_ble_eq_true rfl) ?_
            first | ((with_reducible refine mk_nn ?_); refine n_icmp_le (tgt := 34) dX6_bestToSplit_27 (by decide) (by omega) (by omega) (fun h27 => ?_) (fun h27 => ?_)) | refine e_icmp_le (tgt := 34) dX6_bestToSplit_27 (by decide) (fun h27 => ?_) (fun h27 => ?_)
            · try first | contradiction | omega
              all_goals
                refine e_iconst (v := nI 0) dX6_bestToSplit_34 rfl ?_
                refine e_istore dX6_bestToSplit_35 (Nat.le_of_ble_eq_true rfl) rfl ?_
                refine e_aload_n dX6_bestToSplit_37 rfl rfl ?_
                refine e_getR dX6_bestToSplit_38 fl_X6_18 rfl (cp_own cm) ?_
                refine e_iload_n dX6_bestToSplit_41 rfl rfl ?_
                refine e_iadE _ dX6_bestToSplit_42 ⟨by decide, by decide⟩ rfl rfl (by simp only [lenK]; omega) (pl_ow hP (by omega)) ?_
                refine e_iload_n dX6_bestToSplit_43 rfl rfl ?_
                first | ((with_reducible refine mk_mo ?_); refine p_icmp_ne (tgt := 72) dX6_bestToSplit_44 (by decide) (fun h44 => ?_) (fun h44 => ?_)) | ((with_reducible refine mk_ms ?_); refine s_icmp_ne (tgt := 72) dX6_bestToSplit_44 (by decide) (by omega) (fun h44 => ?_) (fun h44 => ?_)) | ((with_reducible refine mk_mn ?_); refine q_icmp_ne (tgt := 72) dX6_bestToSplit_44 (by decide) (by omega) (fun h44 => ?_) (fun h44 => ?_)) | ((with_reducible refine mk_nn ?_); refine n_icmp_ne (tgt := 72) dX6_bestToSplit_44 (by decide) (by omega) (by omega) (fun h44 => ?_) (fun h44 => ?_)) | refine e_icmp_ne (tgt := 72) dX6_bestToSplit_44 (by decide) (fun h44 => ?_) (fun h44 => ?_)
                · try first | contradiction | omega
                  all_goals
                    first | refine n_inc dX6_bestToSplit_72 rfl (Nat.le_of_ble_eq_true rfl) rfl ?_ | refine e_iinc dX6_bestToSplit_72 rfl rfl (Nat.le_of_ble_eq_true rfl) rfl ?_
                    refine e_goto (tgt := 4) dX6_bestToSplit_75 (by decide) ?_
                    contradiction
                · try first | contradiction | omega
                  all_goals
                    refine e_aload_n dX6_bestToSplit_47 rfl rfl ?_
                    refine e_getR dX6_bestToSplit_48 fl_X6_21 rfl (cp_busy cm) ?_
                    refine e_iload_n dX6_bestToSplit_51 rfl rfl ?_
                    refine e_zadE _ dX6_bestToSplit_52 ⟨by decide, by decide⟩ rfl rfl (by simp only [lenK]; omega) (pl_bu hP (by omega)) ?_
                    first | ((with_reducible refine mk_b ?_); refine b_if_ne (tgt := 72) dX6_bestToSplit_53 (by decide) (fun h53 => ?_) (fun h53 => ?_)) | ((with_reducible refine mk_ll ?_); refine m_if_ne (tgt := 72) dX6_bestToSplit_53 (by decide) (by omega) (by omega) (fun h53 => ?_) (fun h53 => ?_)) | ((with_reducible refine mk_lc ?_); refine l_if_ne (tgt := 72) dX6_bestToSplit_53 (by decide) (fun h53 => ?_) (fun h53 => ?_)) | ((with_reducible refine mk_n ?_); refine n_if_ne (tgt := 72) dX6_bestToSplit_53 (by decide) (by omega) (fun h53 => ?_) (fun h53 => ?_)) | refine e_if_ne (tgt := 72) dX6_bestToSplit_53 (by decide) (fun h53 => ?_) (fun h53 => ?_)
                    · try first | contradiction | omega | (simp only [decide_eq_true_eq, decide_eq_false_iff_not] at h53; omega)
                      all_goals
                        first | refine n_inc dX6_bestToSplit_72 rfl (Nat.le_of_ble_eq_true rfl) rfl ?_ | refine e_iinc dX6_bestToSplit_72 rfl rfl (Nat.le_of_ble_eq_true rfl) rfl ?_
                        refine e_goto (tgt := 4) dX6_bestToSplit_75 (by decide) ?_
                        contradiction
                    · try first | contradiction | omega | (simp only [decide_eq_true_eq, decide_eq_false_iff_not] at h53; omega)
                      all_goals
                        refine e_iload dX6_bestToSplit_56 rfl ?_
                        first | ((with_reducible refine mk_b ?_); refine b_if_eq (tgt := 72) dX6_bestToSplit_58 (by decide) (fun h58 => ?_) (fun h58 => ?_)) | ((with_reducible refine mk_ll ?_); refine m_if_eq (tgt := 72) dX6_bestToSplit_58 (by decide) (by omega) (by omega) (fun h58 => ?_) (fun h58 => ?_)) | ((with_reducible refine mk_lc ?_); refine l_if_eq (tgt := 72) dX6_bestToSplit_58 (by decide) (fun h58 => ?_) (fun h58 => ?_)) | ((with_reducible refine mk_n ?_); refine n_if_eq (tgt := 72) dX6_bestToSplit_58 (by decide) (by omega) (fun h58 => ?_) (fun h58 => ?_)) | refine e_if_eq (tgt := 72) dX6_bestToSplit_58 (by decide) (fun h58 => ?_) (fun h58 => ?_)
                        · try first | contradiction | omega | (simp only [decide_eq_true_eq, decide_eq_false_iff_not] at h58; omega)
                          all_goals
                            first | refine n_inc dX6_bestToSplit_72 rfl (Nat.le_of_ble_eq_true rfl) rfl ?_ | refine e_iinc dX6_bestToSplit_72 rfl rfl (Nat.le_of_ble_eq_true rfl) rfl ?_
                            refine e_goto (tgt := 4) dX6_bestToSplit_75 (by decide) ?_
                            contradiction
                        · try first | contradiction | omega | (simp only [decide_eq_true_eq, decide_eq_false_iff_not] at h58; omega)
                          all_goals
                            refine e_aload_n dX6_bestToSplit_61 rfl rfl ?_
                            refine e_iload_n dX6_bestToSplit_62 rfl rfl ?_
                            refine x_V1 (M' := mX6_middleIn) dX6_bestToSplit_63 ml_X6_92 ok_X6_middleIn (by decide) rfl im_X6_middleIn se_X6_middleIn (ct_X6_middleIn cm iv hP (by omega)) (Nat.le_of_ble_eq_true rfl) (by decide) (Nat.le_of_ble_eq_true rfl) ?_
                            rw [hm, oI_s]
                            refine e_iconst (v := -1) dX6_bestToSplit_66 rfl ?_
                            first | ((with_reducible refine mk_mo ?_); refine p_icmp_eq (tgt := 72) dX6_bestToSplit_67 (by decide) (fun h67 => ?_) (fun h67 => ?_)) | ((with_reducible refine mk_ms ?_); refine s_icmp_eq (tgt := 72) dX6_bestToSplit_67 (by decide) (by omega) (fun h67 => ?_) (fun h67 => ?_)) | ((with_reducible refine mk_mn ?_); refine q_icmp_eq (tgt := 72) dX6_bestToSplit_67 (by decide) (by omega) (fun h67 => ?_) (fun h67 => ?_)) | ((with_reducible refine mk_nn ?_); refine n_icmp_eq (tgt := 72) dX6_bestToSplit_67 (by decide) (by omega) (by omega) (fun h67 => ?_) (fun h67 => ?_)) | refine e_icmp_eq (tgt := 72) dX6_bestToSplit_67 (by decide) (fun h67 => ?_) (fun h67 => ?_)
                            · try first | contradiction | omega
                              all_goals
                                first | refine n_inc dX6_bestToSplit_72 rfl (Nat.le_of_ble_eq_true rfl) rfl ?_ | refine e_iinc dX6_bestToSplit_72 rfl rfl (Nat.le_of_ble_eq_true rfl) rfl ?_
                                refine e_goto (tgt := 4) dX6_bestToSplit_75 (by decide) ?_
                                contradiction
                            · try first | contradiction | omega
                              all_goals
                                refine e_iload_n dX6_bestToSplit_70 rfl rfl ?_
                                refine e_istore_n dX6_bestToSplit_71 rfl (Nat.le_of_ble_eq_true rfl) rfl ?_
                                first | refine n_inc dX6_bestToSplit_72 rfl (Nat.le_of_ble_eq_true rfl) rfl ?_ | refine e_iinc dX6_bestToSplit_72 rfl rfl (Nat.le_of_ble_eq_true rfl) rfl ?_
                                refine e_goto (tgt := 4) dX6_bestToSplit_75 (by decide) ?_
                                contradiction
            · try first | contradiction | omega
              all_goals
                refine e_iconst (v := nI 1) dX6_bestToSplit_30 rfl ?_
                refine e_goto (tgt := 35) dX6_bestToSplit_31 (by decide) ?_
                refine e_istore dX6_bestToSplit_35 (Nat.le_of_ble_eq_true rfl) rfl ?_
                refine e_aload_n dX6_bestToSplit_37 rfl rfl ?_
                refine e_getR dX6_bestToSplit_38 fl_X6_18 rfl (cp_own cm) ?_
                refine e_iload_n dX6_bestToSplit_41 rfl rfl ?_
                refine e_iadE _ dX6_bestToSplit_42 ⟨by decide, by decide⟩ rfl rfl (by simp only [lenK]; omega) (pl_ow hP (by omega)) ?_
                refine e_iload_n dX6_bestToSplit_43 rfl rfl ?_
                first | ((with_reducible refine mk_mo ?_); refine p_icmp_ne (tgt := 72) dX6_bestToSplit_44 (by decide) (fun h44 => ?_) (fun h44 => ?_)) | ((with_reducible refine mk_ms ?_); refine s_icmp_ne (tgt := 72) dX6_bestToSplit_44 (by decide) (by omega) (fun h44 => ?_) (fun h44 => ?_)) | ((with_reducible refine mk_mn ?_); refine q_icmp_ne (tgt := 72) dX6_bestToSplit_44 (by decide) (by omega) (fun h44 => ?_) (fun h44 => ?_)) | ((with_reducible refine mk_nn ?_); refine n_icmp_ne (tgt := 72) dX6_bestToSplit_44 (by decide) (by omega) (by omega) (fun h44 => ?_) (fun h44 => ?_)) | refine e_icmp_ne (tgt := 72) dX6_bestToSplit_44 (by decide) (fun h44 => ?_) (fun h44 => ?_)
                · try first | contradiction | omega
                  all_goals
                    first | refine n_inc dX6_bestToSplit_72 rfl (Nat.le_of_ble_eq_true rfl) rfl ?_ | refine e_iinc dX6_bestToSplit_72 rfl rfl (Nat.le_of_ble_eq_true rfl) rfl ?_
                    refine e_goto (tgt := 4) dX6_bestToSplit_75 (by decide) ?_
                    contradiction
                · try first | contradiction | omega
                  all_goals
                    refine e_aload_n dX6_bestToSplit_47 rfl rfl ?_
                    refine e_getR dX6_bestToSplit_48 fl_X6_21 rfl (cp_busy cm) ?_
                    refine e_iload_n dX6_bestToSplit_51 rfl rfl ?_
                    refine e_zadE _ dX6_bestToSplit_52 ⟨by decide, by decide⟩ rfl rfl (by simp only [lenK]; omega) (pl_bu hP (by omega)) ?_
                    first | ((with_reducible refine mk_b ?_); refine b_if_ne (tgt := 72) dX6_bestToSplit_53 (by decide) (fun h53 => ?_) (fun h53 => ?_)) | ((with_reducible refine mk_ll ?_); refine m_if_ne (tgt := 72) dX6_bestToSplit_53 (by decide) (by omega) (by omega) (fun h53 => ?_) (fun h53 => ?_)) | ((with_reducible refine mk_lc ?_); refine l_if_ne (tgt := 72) dX6_bestToSplit_53 (by decide) (fun h53 => ?_) (fun h53 => ?_)) | ((with_reducible refine mk_n ?_); refine n_if_ne (tgt := 72) dX6_bestToSplit_53 (by decide) (by omega) (fun h53 => ?_) (fun h53 => ?_)) | refine e_if_ne (tgt := 72) dX6_bestToSplit_53 (by decide) (fun h53 => ?_) (fun h53 => ?_)
                    · try first | contradiction | omega | (simp only [decide_eq_true_eq, decide_eq_false_iff_not] at h53; omega)
                      all_goals
                        first | refine n_inc dX6_bestToSplit_72 rfl (Nat.le_of_ble_eq_true rfl) rfl ?_ | refine e_iinc dX6_bestToSplit_72 rfl rfl (Nat.le_of_ble_eq_true rfl) rfl ?_
                        refine e_goto (tgt := 4) dX6_bestToSplit_75 (by decide) ?_
                        contradiction
                    · try first | contradiction | omega | (simp only [decide_eq_true_eq, decide_eq_false_iff_not] at h53; omega)
                      all_goals
                        refine e_iload dX6_bestToSplit_56 rfl ?_
                        first | ((with_reducible refine mk_b ?_); refine b_if_eq (tgt := 72) dX6_bestToSplit_58 (by decide) (fun h58 => ?_) (fun h58 => ?_)) | ((with_reducible refine mk_ll ?_); refine m_if_eq (tgt := 72) dX6_bestToSplit_58 (by decide) (by omega) (by omega) (fun h58 => ?_) (fun h58 => ?_)) | ((with_reducible refine mk_lc ?_); refine l_if_eq (tgt := 72) dX6_bestToSplit_58 (by decide) (fun h58 => ?_) (fun h58 => ?_)) | ((with_reducible refine mk_n ?_); refine n_if_eq (tgt := 72) dX6_bestToSplit_58 (by decide) (by omega) (fun h58 => ?_) (fun h58 => ?_)) | refine e_if_eq (tgt := 72) dX6_bestToSplit_58 (by decide) (fun h58 => ?_) (fun h58 => ?_)
                        · try first | contradiction | omega | (simp only [decide_eq_true_eq, decide_eq_false_iff_not] at h58; omega)
                          all_goals
                            first | refine n_inc dX6_bestToSplit_72 rfl (Nat.le_of_ble_eq_true rfl) rfl ?_ | refine e_iinc dX6_bestToSplit_72 rfl rfl (Nat.le_of_ble_eq_true rfl) rfl ?_
                            refine e_goto (tgt := 4) dX6_bestToSplit_75 (by decide) ?_
                            contradiction
                        · try first | contradiction | omega | (simp only [decide_eq_true_eq, decide_eq_false_iff_not] at h58; omega)
                          all_goals
                            refine e_aload_n dX6_bestToSplit_61 rfl rfl ?_
                            refine e_iload_n dX6_bestToSplit_62 rfl rfl ?_
                            refine x_V1 (M' := mX6_middleIn) dX6_bestToSplit_63 ml_X6_92 ok_X6_middleIn (by decide) rfl im_X6_middleIn se_X6_middleIn (ct_X6_middleIn cm iv hP (by omega)) (Nat.le_of_ble_eq_true rfl) (by decide) (Nat.le_of_ble_eq_true rfl) ?_
                            rw [hm, oI_s]
                            refine e_iconst (v := -1) dX6_bestToSplit_66 rfl ?_
                            first | ((with_reducible refine mk_mo ?_); refine p_icmp_eq (tgt := 72) dX6_bestToSplit_67 (by decide) (fun h67 => ?_) (fun h67 => ?_)) | ((with_reducible refine mk_ms ?_); refine s_icmp_eq (tgt := 72) dX6_bestToSplit_67 (by decide) (by omega) (fun h67 => ?_) (fun h67 => ?_)) | ((with_reducible refine mk_mn ?_); refine q_icmp_eq (tgt := 72) dX6_bestToSplit_67 (by decide) (by omega) (fun h67 => ?_) (fun h67 => ?_)) | ((with_reducible refine mk_nn ?_); refine n_icmp_eq (tgt := 72) dX6_bestToSplit_67 (by decide) (by omega) (by omega) (fun h67 => ?_) (fun h67 => ?_)) | refine e_icmp_eq (tgt := 72) dX6_bestToSplit_67 (by decide) (fun h67 => ?_) (fun h67 => ?_)
                            · try first | contradiction | omega
                              all_goals
                                first | refine n_inc dX6_bestToSplit_72 rfl (Nat.le_of_ble_eq_true rfl) rfl ?_ | refine e_iinc dX6_bestToSplit_72 rfl rfl (Nat.le_of_ble_eq_true rfl) rfl ?_
                                refine e_goto (tgt := 4) dX6_bestToSplit_75 (by decide) ?_
                                contradiction
                            · try first | contradiction | omega
                              all_goals
                                refine e_iload_n dX6_bestToSplit_70 rfl rfl ?_
                                refine e_istore_n dX6_bestToSplit_71 rfl (Nat.le_of_ble_eq_true rfl) rfl ?_
                                first | refine n_inc dX6_bestToSplit_72 rfl (Nat.le_of_ble_eq_true rfl) rfl ?_ | refine e_iinc dX6_bestToSplit_72 rfl rfl (Nat.le_of_ble_eq_true rfl) rfl ?_
                                refine e_goto (tgt := 4) dX6_bestToSplit_75 (by decide) ?_
                                contradiction
    )
  refine e_iconst (v := -1) dX6_bestToSplit_0 rfl ?_
  refine e_istore_n dX6_bestToSplit_1 rfl (Nat.le_of_ble_eq_true rfl) rfl ?_
  refine e_iconst (v := nI 0) dX6_bestToSplit_2 rfl ?_
  refine e_istore_n dX6_bestToSplit_3 rfl (Nat.le_of_ble_eq_true rfl) rfl ?_
  exact key 0 (by omega) _
theorem nI_abs {a b : Nat} (ha : a < 1000000000) (hb : b < 1000000000) : (if 0 ≤ nI a - nI b then nI a - nI b else 0 - (nI a - nI b)) = nI (dst a b) := by
  have h1 := nI_toInt (n := a) (by omega)
  have h2 := nI_toInt (n := b) (by omega)
  have h3 : (nI a - nI b).toInt = (a : Int) - b := by
    rw [Int32.toInt_sub, h1, h2, Int.bmod_def]
    split <;> omega
  have h0 : (0 : Int32).toInt = 0 := rfl
  unfold dst
  by_cases h : a < b
  · rw [if_pos h, if_neg (fun q => by rw [Int32.le_iff_toInt_le, h0, h3] at q; omega)]
    have e : nI b = nI a + nI (b - a) := by rw [nI_add]; congr 1; omega
    rw [e]
    grind
  · rw [if_neg h, if_pos (by rw [Int32.le_iff_toInt_le, h0, h3]; omega)]
    exact pk_sub (by omega)
theorem ct_X6_bestToMove {fi : FI} {fr : FR} {ai : FI} {ar : FR} {N : Nat} {w : Nat → Nat} (cm : CM fr ar) (iv : Inv w) (hP : PL fi ai w) {s e : Nat} (hs : s < 6) (he : e ≤ 100000000) : CP mX6_bestToMove 1 0 0 [.ref (rf 6 65), .int (nI s), .int (nI e)] fi fr ai ar N (xQ (some (.int (oI (smO w s e)))) fi fr ai ar N) := by
  have h1 := iv_n iv
  have h3 := iv_mm iv
  have bd := Bd_iv iv
  have hF : FR1 fi ai fi ai := FR1_rf
  change EV mX6_bestToMove 1 0 0 0 [some (.ref (rf 6 65)), some (.int (nI s)), some (.int (nI e)), none, none, none, none, none] [] fi fr ai ar N (xQ (some (.int (oI (smO w s e)))) fi fr ai ar N)
  have hds : ∀ a, a ≤ 200000000 → dst e a < 1000000000 := fun a ha => by unfold dst; split <;> omega
  have key := ev_up (P := fun j => ∀ g x y, (∀ q, bst (fun i => decide (w (42 + i) = s) && (mvL w (w (10 + i))).isNone && decide (wtF w i ≠ 0) && decide (wtF w i < e)) (fun i q => decide (dst e (2 * wtF w i) < dst e (2 * wtF w q))) j = some q → g = nI (dst e (2 * wtF w q))) → EV mX6_bestToMove 1 0 0 8 [some (.ref (rf 6 65)), some (.int (nI s)), some (.int (nI e)), some (.int (oI (bst (fun i => decide (w (42 + i) = s) && (mvL w (w (10 + i))).isNone && decide (wtF w i ≠ 0) && decide (wtF w i < e)) (fun i q => decide (dst e (2 * wtF w i) < dst e (2 * wtF w q))) j))), some (.int g), some (.int (nI j)), x, y] [] fi fr ai ar N (xQ (some (.int (oI (smO w s e)))) fi fr ai ar N)) (w 1) (fun j hj ih g x y hg => by
    have ho := iv_own iv hj
    have hw := wtF_le iv hj
    have hd1 := hds (2 * wtF w j) (by omega)
    have hnn : (mvL w (w (10 + j))).isNone = !(mvL w (w (10 + j))).isSome := by cases mvL w (w (10 + j)) <;> rfl
    cases hb : bst (fun i => decide (w (42 + i) = s) && (mvL w (w (10 + i))).isNone && decide (wtF w i ≠ 0) && decide (wtF w i < e)) (fun i q => decide (dst e (2 * wtF w i) < dst e (2 * wtF w q))) j with
    | none =>
      refine e_iload dX6_bestToMove_8 rfl ?_
      refine e_aload_n dX6_bestToMove_10 rfl rfl ?_
      refine e_getE dX6_bestToMove_11 fl_X6_43 rfl (pl_n hP) ?_
      first | ((with_reducible refine mk_nn ?_); refine n_icmp_ge (tgt := 96) dX6_bestToMove_14 (by decide) (by omega) (by omega) (fun h14 => ?_) (fun h14 => ?_)) | refine e_icmp_ge (tgt := 96) dX6_bestToMove_14 (by decide) (fun h14 => ?_) (fun h14 => ?_)
      · try first | contradiction | omega
        all_goals
          refine e_iload_n dX6_bestToMove_96 rfl rfl ?_
          refine e_ret (some _) rfl (r_int dX6_bestToMove_97 rfl) ?_
          exact xq (by first | rfl | simp_all [bI_t, bI_f]) rfl rfl rfl rfl rfl
      · try first | contradiction | omega
        all_goals
          refine e_aload_n dX6_bestToMove_17 rfl rfl ?_
          refine e_iload dX6_bestToMove_18 rfl ?_
          refine x_V1 (M' := mX6_weightOf) dX6_bestToMove_20 ml_X6_60 ok_X6_weightOf (by decide) rfl im_X6_weightOf se_X6_weightOf (ct_X6_weightOf cm iv hP (by omega)) (Nat.le_of_ble_eq_true rfl) (by decide) (Nat.le_of_ble_eq_true rfl) ?_
          refine e_istore dX6_bestToMove_23 (Nat.le_of_ble_eq_true rfl) rfl ?_
          refine e_aload_n dX6_bestToMove_25 rfl rfl ?_
          refine e_getR dX6_bestToMove_26 fl_X6_18 rfl (cp_own cm) ?_
          refine e_iload dX6_bestToMove_29 rfl ?_
          refine e_iadE _ dX6_bestToMove_31 ⟨by decide, by decide⟩ rfl rfl (by simp only [lenK]; omega) (pl_ow hP (by omega)) ?_
          refine e_iload_n dX6_bestToMove_32 rfl rfl ?_
          first | ((with_reducible refine mk_mo ?_); refine p_icmp_ne (tgt := 90) dX6_bestToMove_33 (by decide) (fun h33 => ?_) (fun h33 => ?_)) | ((with_reducible refine mk_ms ?_); refine s_icmp_ne (tgt := 90) dX6_bestToMove_33 (by decide) (by omega) (fun h33 => ?_) (fun h33 => ?_)) | ((with_reducible refine mk_mn ?_); refine q_icmp_ne (tgt := 90) dX6_bestToMove_33 (by decide) (by omega) (fun h33 => ?_) (fun h33 => ?_)) | ((with_reducible refine mk_nn ?_); refine n_icmp_ne (tgt := 90) dX6_bestToMove_33 (by decide) (by omega) (by omega) (fun h33 => ?_) (fun h33 => ?_)) | refine e_icmp_ne (tgt := 90) dX6_bestToMove_33 (by decide) (fun h33 => ?_) (fun h33 => ?_)
          · try first | contradiction | omega
            all_goals
              first | refine n_inc dX6_bestToMove_90 rfl (Nat.le_of_ble_eq_true rfl) rfl ?_ | refine e_iinc dX6_bestToMove_90 rfl rfl (Nat.le_of_ble_eq_true rfl) rfl ?_
              refine e_goto (tgt := 8) dX6_bestToMove_93 (by decide) ?_
              first | (rw [bst_f (c := fun i => decide (w (42 + i) = s) && (mvL w (w (10 + i))).isNone && decide (wtF w i ≠ 0) && decide (wtF w i < e)) (b := fun i q => decide (dst e (2 * wtF w i) < dst e (2 * wtF w q))) (n := j) (by grind), hb] at ih; exact ih _ _ _ (fun q hq => by first | (cases hq; done) | (cases hq; rfl) | (cases hq; exact hg _ hb) | (cases hq; exact hg _ rfl))) | (rw [bst_0 (c := fun i => decide (w (42 + i) = s) && (mvL w (w (10 + i))).isNone && decide (wtF w i ≠ 0) && decide (wtF w i < e)) (b := fun i q => decide (dst e (2 * wtF w i) < dst e (2 * wtF w q))) (n := j) (by grind) hb] at ih; exact ih _ _ _ (fun q hq => by first | (cases hq; done) | (cases hq; rfl) | (cases hq; exact hg _ hb) | (cases hq; exact hg _ rfl)))
          · try first | contradiction | omega
            all_goals
              refine e_aload_n dX6_bestToMove_36 rfl rfl ?_
              refine e_getR dX6_bestToMove_37 fl_X6_21 rfl (cp_busy cm) ?_
              refine e_iload dX6_bestToMove_40 rfl ?_
              refine e_zadE _ dX6_bestToMove_42 ⟨by decide, by decide⟩ rfl rfl (by simp only [lenK]; omega) (pl_bu hP (by omega)) ?_
              first | ((with_reducible refine mk_b ?_); refine b_if_ne (tgt := 90) dX6_bestToMove_43 (by decide) (fun h43 => ?_) (fun h43 => ?_)) | ((with_reducible refine mk_ll ?_); refine m_if_ne (tgt := 90) dX6_bestToMove_43 (by decide) (by omega) (by omega) (fun h43 => ?_) (fun h43 => ?_)) | ((with_reducible refine mk_lc ?_); refine l_if_ne (tgt := 90) dX6_bestToMove_43 (by decide) (fun h43 => ?_) (fun h43 => ?_)) | ((with_reducible refine mk_n ?_); refine n_if_ne (tgt := 90) dX6_bestToMove_43 (by decide) (by omega) (fun h43 => ?_) (fun h43 => ?_)) | refine e_if_ne (tgt := 90) dX6_bestToMove_43 (by decide) (fun h43 => ?_) (fun h43 => ?_)
              · try first | contradiction | omega | (simp only [decide_eq_true_eq, decide_eq_false_iff_not] at h43; omega)
                all_goals
                  first | refine n_inc dX6_bestToMove_90 rfl (Nat.le_of_ble_eq_true rfl) rfl ?_ | refine e_iinc dX6_bestToMove_90 rfl rfl (Nat.le_of_ble_eq_true rfl) rfl ?_
                  refine e_goto (tgt := 8) dX6_bestToMove_93 (by decide) ?_
                  first | (rw [bst_f (c := fun i => decide (w (42 + i) = s) && (mvL w (w (10 + i))).isNone && decide (wtF w i ≠ 0) && decide (wtF w i < e)) (b := fun i q => decide (dst e (2 * wtF w i) < dst e (2 * wtF w q))) (n := j) (by grind), hb] at ih; exact ih _ _ _ (fun q hq => by first | (cases hq; done) | (cases hq; rfl) | (cases hq; exact hg _ hb) | (cases hq; exact hg _ rfl))) | (rw [bst_0 (c := fun i => decide (w (42 + i) = s) && (mvL w (w (10 + i))).isNone && decide (wtF w i ≠ 0) && decide (wtF w i < e)) (b := fun i q => decide (dst e (2 * wtF w i) < dst e (2 * wtF w q))) (n := j) (by grind) hb] at ih; exact ih _ _ _ (fun q hq => by first | (cases hq; done) | (cases hq; rfl) | (cases hq; exact hg _ hb) | (cases hq; exact hg _ rfl)))
              · try first | contradiction | omega | (simp only [decide_eq_true_eq, decide_eq_false_iff_not] at h43; omega)
                all_goals
                  refine e_iload dX6_bestToMove_46 rfl ?_
                  first | ((with_reducible refine mk_ll ?_); refine m_if_le (tgt := 90) dX6_bestToMove_48 (by decide) (by omega) (by omega) (fun h48 => ?_) (fun h48 => ?_)) | ((with_reducible refine mk_lc ?_); refine l_if_le (tgt := 90) dX6_bestToMove_48 (by decide) (fun h48 => ?_) (fun h48 => ?_)) | ((with_reducible refine mk_n ?_); refine n_if_le (tgt := 90) dX6_bestToMove_48 (by decide) (by omega) (fun h48 => ?_) (fun h48 => ?_)) | refine e_if_le (tgt := 90) dX6_bestToMove_48 (by decide) (fun h48 => ?_) (fun h48 => ?_)
                  · try first | contradiction | omega
                    all_goals
                      first | refine n_inc dX6_bestToMove_90 rfl (Nat.le_of_ble_eq_true rfl) rfl ?_ | refine e_iinc dX6_bestToMove_90 rfl rfl (Nat.le_of_ble_eq_true rfl) rfl ?_
                      refine e_goto (tgt := 8) dX6_bestToMove_93 (by decide) ?_
                      first | (rw [bst_f (c := fun i => decide (w (42 + i) = s) && (mvL w (w (10 + i))).isNone && decide (wtF w i ≠ 0) && decide (wtF w i < e)) (b := fun i q => decide (dst e (2 * wtF w i) < dst e (2 * wtF w q))) (n := j) (by grind), hb] at ih; exact ih _ _ _ (fun q hq => by first | (cases hq; done) | (cases hq; rfl) | (cases hq; exact hg _ hb) | (cases hq; exact hg _ rfl))) | (rw [bst_0 (c := fun i => decide (w (42 + i) = s) && (mvL w (w (10 + i))).isNone && decide (wtF w i ≠ 0) && decide (wtF w i < e)) (b := fun i q => decide (dst e (2 * wtF w i) < dst e (2 * wtF w q))) (n := j) (by grind) hb] at ih; exact ih _ _ _ (fun q hq => by first | (cases hq; done) | (cases hq; rfl) | (cases hq; exact hg _ hb) | (cases hq; exact hg _ rfl)))
                  · try first | contradiction | omega
                    all_goals
                      refine e_iload dX6_bestToMove_51 rfl ?_
                      refine e_iload_n dX6_bestToMove_53 rfl rfl ?_
                      first | ((with_reducible refine mk_nn ?_); refine n_icmp_lt (tgt := 60) dX6_bestToMove_54 (by decide) (by omega) (by omega) (fun h54 => ?_) (fun h54 => ?_)) | refine e_icmp_lt (tgt := 60) dX6_bestToMove_54 (by decide) (fun h54 => ?_) (fun h54 => ?_)
                      · try first | contradiction | omega
                        all_goals
                          refine e_iload_n dX6_bestToMove_60 rfl rfl ?_
                          refine e_iconst (v := nI 2) dX6_bestToMove_61 rfl ?_
                          refine e_iload dX6_bestToMove_62 rfl ?_
                          first | ((with_reducible refine mk_nn ?_); refine n_imul dX6_bestToMove_64 ?_) | refine e_imul dX6_bestToMove_64 ?_
                          first | ((with_reducible refine mk_nn ?_); refine n_isub dX6_bestToMove_65 (by omega) ?_) | refine e_isub dX6_bestToMove_65 ?_
                          refine e_mabs dX6_bestToMove_66 ml_X6_95 sc_Mabs nz_M cd_Mabs (by decide) (Nat.le_of_ble_eq_true rfl) ?_
                          rw [nI_abs (by omega) (by omega)]
                          refine e_istore dX6_bestToMove_69 (Nat.le_of_ble_eq_true rfl) rfl ?_
                          refine e_iload_n dX6_bestToMove_71 rfl rfl ?_
                          refine e_iconst (v := -1) dX6_bestToMove_72 rfl ?_
                          first | ((with_reducible refine mk_mo ?_); refine p_icmp_eq (tgt := 83) dX6_bestToMove_73 (by decide) (fun h73 => ?_) (fun h73 => ?_)) | ((with_reducible refine mk_ms ?_); refine s_icmp_eq (tgt := 83) dX6_bestToMove_73 (by decide) (by omega) (fun h73 => ?_) (fun h73 => ?_)) | ((with_reducible refine mk_mn ?_); refine q_icmp_eq (tgt := 83) dX6_bestToMove_73 (by decide) (by omega) (fun h73 => ?_) (fun h73 => ?_)) | ((with_reducible refine mk_nn ?_); refine n_icmp_eq (tgt := 83) dX6_bestToMove_73 (by decide) (by omega) (by omega) (fun h73 => ?_) (fun h73 => ?_)) | refine e_icmp_eq (tgt := 83) dX6_bestToMove_73 (by decide) (fun h73 => ?_) (fun h73 => ?_)
                          · try first | contradiction | omega
                            all_goals
                              refine e_iload dX6_bestToMove_83 rfl ?_
                              refine e_istore_n dX6_bestToMove_85 rfl (Nat.le_of_ble_eq_true rfl) rfl ?_
                              refine e_iload dX6_bestToMove_86 rfl ?_
                              refine e_istore dX6_bestToMove_88 (Nat.le_of_ble_eq_true rfl) rfl ?_
                              first | refine n_inc dX6_bestToMove_90 rfl (Nat.le_of_ble_eq_true rfl) rfl ?_ | refine e_iinc dX6_bestToMove_90 rfl rfl (Nat.le_of_ble_eq_true rfl) rfl ?_
                              refine e_goto (tgt := 8) dX6_bestToMove_93 (by decide) ?_
                              first | (rw [bst_f (c := fun i => decide (w (42 + i) = s) && (mvL w (w (10 + i))).isNone && decide (wtF w i ≠ 0) && decide (wtF w i < e)) (b := fun i q => decide (dst e (2 * wtF w i) < dst e (2 * wtF w q))) (n := j) (by grind), hb] at ih; exact ih _ _ _ (fun q hq => by first | (cases hq; done) | (cases hq; rfl) | (cases hq; exact hg _ hb) | (cases hq; exact hg _ rfl))) | (rw [bst_0 (c := fun i => decide (w (42 + i) = s) && (mvL w (w (10 + i))).isNone && decide (wtF w i ≠ 0) && decide (wtF w i < e)) (b := fun i q => decide (dst e (2 * wtF w i) < dst e (2 * wtF w q))) (n := j) (by grind) hb] at ih; exact ih _ _ _ (fun q hq => by first | (cases hq; done) | (cases hq; rfl) | (cases hq; exact hg _ hb) | (cases hq; exact hg _ rfl)))
                          · try first | contradiction | omega
                            all_goals
                              refine e_iload dX6_bestToMove_76 rfl ?_
                              refine e_iload dX6_bestToMove_78 rfl ?_
                              first | ((with_reducible refine mk_nn ?_); refine n_icmp_ge (tgt := 90) dX6_bestToMove_80 (by decide) (by omega) (by omega) (fun h80 => ?_) (fun h80 => ?_)) | refine e_icmp_ge (tgt := 90) dX6_bestToMove_80 (by decide) (fun h80 => ?_) (fun h80 => ?_)
                              · try first | contradiction | omega
                                all_goals
                                  first | refine n_inc dX6_bestToMove_90 rfl (Nat.le_of_ble_eq_true rfl) rfl ?_ | refine e_iinc dX6_bestToMove_90 rfl rfl (Nat.le_of_ble_eq_true rfl) rfl ?_
                                  refine e_goto (tgt := 8) dX6_bestToMove_93 (by decide) ?_
                                  first | (rw [bst_f (c := fun i => decide (w (42 + i) = s) && (mvL w (w (10 + i))).isNone && decide (wtF w i ≠ 0) && decide (wtF w i < e)) (b := fun i q => decide (dst e (2 * wtF w i) < dst e (2 * wtF w q))) (n := j) (by grind), hb] at ih; exact ih _ _ _ (fun q hq => by first | (cases hq; done) | (cases hq; rfl) | (cases hq; exact hg _ hb) | (cases hq; exact hg _ rfl))) | (rw [bst_0 (c := fun i => decide (w (42 + i) = s) && (mvL w (w (10 + i))).isNone && decide (wtF w i ≠ 0) && decide (wtF w i < e)) (b := fun i q => decide (dst e (2 * wtF w i) < dst e (2 * wtF w q))) (n := j) (by grind) hb] at ih; exact ih _ _ _ (fun q hq => by first | (cases hq; done) | (cases hq; rfl) | (cases hq; exact hg _ hb) | (cases hq; exact hg _ rfl)))
                              · try first | contradiction | omega
                                all_goals
                                  refine e_iload dX6_bestToMove_83 rfl ?_
                                  refine e_istore_n dX6_bestToMove_85 rfl (Nat.le_of_ble_eq_true rfl) rfl ?_
                                  refine e_iload dX6_bestToMove_86 rfl ?_
                                  refine e_istore dX6_bestToMove_88 (Nat.le_of_ble_eq_true rfl) rfl ?_
                                  first | refine n_inc dX6_bestToMove_90 rfl (Nat.le_of_ble_eq_true rfl) rfl ?_ | refine e_iinc dX6_bestToMove_90 rfl rfl (Nat.le_of_ble_eq_true rfl) rfl ?_
                                  refine e_goto (tgt := 8) dX6_bestToMove_93 (by decide) ?_
                                  first | (rw [bst_f (c := fun i => decide (w (42 + i) = s) && (mvL w (w (10 + i))).isNone && decide (wtF w i ≠ 0) && decide (wtF w i < e)) (b := fun i q => decide (dst e (2 * wtF w i) < dst e (2 * wtF w q))) (n := j) (by grind), hb] at ih; exact ih _ _ _ (fun q hq => by first | (cases hq; done) | (cases hq; rfl) | (cases hq; exact hg _ hb) | (cases hq; exact hg _ rfl))) | (rw [bst_0 (c := fun i => decide (w (42 + i) = s) && (mvL w (w (10 + i))).isNone && decide (wtF w i ≠ 0) && decide (wtF w i < e)) (b := fun i q => decide (dst e (2 * wtF w i) < dst e (2 * wtF w q))) (n := j) (by grind) hb] at ih; exact ih _ _ _ (fun q hq => by first | (cases hq; done) | (cases hq; rfl) | (cases hq; exact hg _ hb) | (cases hq; exact hg _ rfl)))
                      · try first | contradiction | omega
                        all_goals
                          refine e_goto (tgt := 90) dX6_bestToMove_57 (by decide) ?_
                          first | refine n_inc dX6_bestToMove_90 rfl (Nat.le_of_ble_eq_true rfl) rfl ?_ | refine e_iinc dX6_bestToMove_90 rfl rfl (Nat.le_of_ble_eq_true rfl) rfl ?_
                          refine e_goto (tgt := 8) dX6_bestToMove_93 (by decide) ?_
                          first | (rw [bst_f (c := fun i => decide (w (42 + i) = s) && (mvL w (w (10 + i))).isNone && decide (wtF w i ≠ 0) && decide (wtF w i < e)) (b := fun i q => decide (dst e (2 * wtF w i) < dst e (2 * wtF w q))) (n := j) (by grind), hb] at ih; exact ih _ _ _ (fun q hq => by first | (cases hq; done) | (cases hq; rfl) | (cases hq; exact hg _ hb) | (cases hq; exact hg _ rfl))) | (rw [bst_0 (c := fun i => decide (w (42 + i) = s) && (mvL w (w (10 + i))).isNone && decide (wtF w i ≠ 0) && decide (wtF w i < e)) (b := fun i q => decide (dst e (2 * wtF w i) < dst e (2 * wtF w q))) (n := j) (by grind) hb] at ih; exact ih _ _ _ (fun q hq => by first | (cases hq; done) | (cases hq; rfl) | (cases hq; exact hg _ hb) | (cases hq; exact hg _ rfl)))
    | some q =>
      have hq := (bst_in hb).1
      have hw2 := wtF_le iv (Nat.lt_trans hq hj)
      have hd2 := hds (2 * wtF w q) (by omega)
      have hg2 := hg q hb
      subst hg2
      rw [oI_s]
      refine e_iload dX6_bestToMove_8 rfl ?_
      refine e_aload_n dX6_bestToMove_10 rfl rfl ?_
      refine e_getE dX6_bestToMove_11 fl_X6_43 rfl (pl_n hP) ?_
      first | ((with_reducible refine mk_nn ?_); refine n_icmp_ge (tgt := 96) dX6_bestToMove_14 (by decide) (by omega) (by omega) (fun h14 => ?_) (fun h14 => ?_)) | refine e_icmp_ge (tgt := 96) dX6_bestToMove_14 (by decide) (fun h14 => ?_) (fun h14 => ?_)
      · try first | contradiction | omega
        all_goals
          refine e_iload_n dX6_bestToMove_96 rfl rfl ?_
          refine e_ret (some _) rfl (r_int dX6_bestToMove_97 rfl) ?_
          exact xq (by first | rfl | simp_all [bI_t, bI_f]) rfl rfl rfl rfl rfl
      · try first | contradiction | omega
        all_goals
          refine e_aload_n dX6_bestToMove_17 rfl rfl ?_
          refine e_iload dX6_bestToMove_18 rfl ?_
          refine x_V1 (M' := mX6_weightOf) dX6_bestToMove_20 ml_X6_60 ok_X6_weightOf (by decide) rfl im_X6_weightOf se_X6_weightOf (ct_X6_weightOf cm iv hP (by omega)) (Nat.le_of_ble_eq_true rfl) (by decide) (Nat.le_of_ble_eq_true rfl) ?_
          refine e_istore dX6_bestToMove_23 (Nat.le_of_ble_eq_true rfl) rfl ?_
          refine e_aload_n dX6_bestToMove_25 rfl rfl ?_
          refine e_getR dX6_bestToMove_26 fl_X6_18 rfl (cp_own cm) ?_
          refine e_iload dX6_bestToMove_29 rfl ?_
          refine e_iadE _ dX6_bestToMove_31 ⟨by decide, by decide⟩ rfl rfl (by simp only [lenK]; omega) (pl_ow hP (by omega)) ?_
          refine e_iload_n dX6_bestToMove_32 rfl rfl ?_
          first | ((with_reducible refine mk_mo ?_); refine p_icmp_ne (tgt := 90) dX6_bestToMove_33 (by decide) (fun h33 => ?_) (fun h33 => ?_)) | ((with_reducible refine mk_ms ?_); refine s_icmp_ne (tgt := 90) dX6_bestToMove_33 (by decide) (by omega) (fun h33 => ?_) (fun h33 => ?_)) | ((with_reducible refine mk_mn ?_); refine q_icmp_ne (tgt := 90) dX6_bestToMove_33 (by decide) (by omega) (fun h33 => ?_) (fun h33 => ?_)) | ((with_reducible refine mk_nn ?_); refine n_icmp_ne (tgt := 90) dX6_bestToMove_33 (by decide) (by omega) (by omega) (fun h33 => ?_) (fun h33 => ?_)) | refine e_icmp_ne (tgt := 90) dX6_bestToMove_33 (by decide) (fun h33 => ?_) (fun h33 => ?_)
          · try first | contradiction | omega
            all_goals
              first | refine n_inc dX6_bestToMove_90 rfl (Nat.le_of_ble_eq_true rfl) rfl ?_ | refine e_iinc dX6_bestToMove_90 rfl rfl (Nat.le_of_ble_eq_true rfl) rfl ?_
              refine e_goto (tgt := 8) dX6_bestToMove_93 (by decide) ?_
              first | (rw [bst_f (c := fun i => decide (w (42 + i) = s) && (mvL w (w (10 + i))).isNone && decide (wtF w i ≠ 0) && decide (wtF w i < e)) (b := fun i q => decide (dst e (2 * wtF w i) < dst e (2 * wtF w q))) (n := j) (by grind), hb] at ih; exact ih _ _ _ (fun q hq => by first | (cases hq; done) | (cases hq; rfl) | (cases hq; exact hg _ hb) | (cases hq; exact hg _ rfl))) | (rw [bst_1 (c := fun i => decide (w (42 + i) = s) && (mvL w (w (10 + i))).isNone && decide (wtF w i ≠ 0) && decide (wtF w i < e)) (b := fun i q => decide (dst e (2 * wtF w i) < dst e (2 * wtF w q))) (n := j) (by grind) hb (by grind)] at ih; exact ih _ _ _ (fun q hq => by first | (cases hq; done) | (cases hq; rfl) | (cases hq; exact hg _ hb) | (cases hq; exact hg _ rfl))) | (rw [bst_2 (c := fun i => decide (w (42 + i) = s) && (mvL w (w (10 + i))).isNone && decide (wtF w i ≠ 0) && decide (wtF w i < e)) (b := fun i q => decide (dst e (2 * wtF w i) < dst e (2 * wtF w q))) (n := j) (by grind) hb (by grind)] at ih; exact ih _ _ _ (fun q hq => by first | (cases hq; done) | (cases hq; rfl) | (cases hq; exact hg _ hb) | (cases hq; exact hg _ rfl)))
          · try first | contradiction | omega
            all_goals
              refine e_aload_n dX6_bestToMove_36 rfl rfl ?_
              refine e_getR dX6_bestToMove_37 fl_X6_21 rfl (cp_busy cm) ?_
              refine e_iload dX6_bestToMove_40 rfl ?_
              refine e_zadE _ dX6_bestToMove_42 ⟨by decide, by decide⟩ rfl rfl (by simp only [lenK]; omega) (pl_bu hP (by omega)) ?_
              first | ((with_reducible refine mk_b ?_); refine b_if_ne (tgt := 90) dX6_bestToMove_43 (by decide) (fun h43 => ?_) (fun h43 => ?_)) | ((with_reducible refine mk_ll ?_); refine m_if_ne (tgt := 90) dX6_bestToMove_43 (by decide) (by omega) (by omega) (fun h43 => ?_) (fun h43 => ?_)) | ((with_reducible refine mk_lc ?_); refine l_if_ne (tgt := 90) dX6_bestToMove_43 (by decide) (fun h43 => ?_) (fun h43 => ?_)) | ((with_reducible refine mk_n ?_); refine n_if_ne (tgt := 90) dX6_bestToMove_43 (by decide) (by omega) (fun h43 => ?_) (fun h43 => ?_)) | refine e_if_ne (tgt := 90) dX6_bestToMove_43 (by decide) (fun h43 => ?_) (fun h43 => ?_)
              · try first | contradiction | omega | (simp only [decide_eq_true_eq, decide_eq_false_iff_not] at h43; omega)
                all_goals
                  first | refine n_inc dX6_bestToMove_90 rfl (Nat.le_of_ble_eq_true rfl) rfl ?_ | refine e_iinc dX6_bestToMove_90 rfl rfl (Nat.le_of_ble_eq_true rfl) rfl ?_
                  refine e_goto (tgt := 8) dX6_bestToMove_93 (by decide) ?_
                  first | (rw [bst_f (c := fun i => decide (w (42 + i) = s) && (mvL w (w (10 + i))).isNone && decide (wtF w i ≠ 0) && decide (wtF w i < e)) (b := fun i q => decide (dst e (2 * wtF w i) < dst e (2 * wtF w q))) (n := j) (by grind), hb] at ih; exact ih _ _ _ (fun q hq => by first | (cases hq; done) | (cases hq; rfl) | (cases hq; exact hg _ hb) | (cases hq; exact hg _ rfl))) | (rw [bst_1 (c := fun i => decide (w (42 + i) = s) && (mvL w (w (10 + i))).isNone && decide (wtF w i ≠ 0) && decide (wtF w i < e)) (b := fun i q => decide (dst e (2 * wtF w i) < dst e (2 * wtF w q))) (n := j) (by grind) hb (by grind)] at ih; exact ih _ _ _ (fun q hq => by first | (cases hq; done) | (cases hq; rfl) | (cases hq; exact hg _ hb) | (cases hq; exact hg _ rfl))) | (rw [bst_2 (c := fun i => decide (w (42 + i) = s) && (mvL w (w (10 + i))).isNone && decide (wtF w i ≠ 0) && decide (wtF w i < e)) (b := fun i q => decide (dst e (2 * wtF w i) < dst e (2 * wtF w q))) (n := j) (by grind) hb (by grind)] at ih; exact ih _ _ _ (fun q hq => by first | (cases hq; done) | (cases hq; rfl) | (cases hq; exact hg _ hb) | (cases hq; exact hg _ rfl)))
              · try first | contradiction | omega | (simp only [decide_eq_true_eq, decide_eq_false_iff_not] at h43; omega)
                all_goals
                  refine e_iload dX6_bestToMove_46 rfl ?_
                  first | ((with_reducible refine mk_ll ?_); refine m_if_le (tgt := 90) dX6_bestToMove_48 (by decide) (by omega) (by omega) (fun h48 => ?_) (fun h48 => ?_)) | ((with_reducible refine mk_lc ?_); refine l_if_le (tgt := 90) dX6_bestToMove_48 (by decide) (fun h48 => ?_) (fun h48 => ?_)) | ((with_reducible refine mk_n ?_); refine n_if_le (tgt := 90) dX6_bestToMove_48 (by decide) (by omega) (fun h48 => ?_) (fun h48 => ?_)) | refine e_if_le (tgt := 90) dX6_bestToMove_48 (by decide) (fun h48 => ?_) (fun h48 => ?_)
                  · try first | contradiction | omega
                    all_goals
                      first | refine n_inc dX6_bestToMove_90 rfl (Nat.le_of_ble_eq_true rfl) rfl ?_ | refine e_iinc dX6_bestToMove_90 rfl rfl (Nat.le_of_ble_eq_true rfl) rfl ?_
                      refine e_goto (tgt := 8) dX6_bestToMove_93 (by decide) ?_
                      first | (rw [bst_f (c := fun i => decide (w (42 + i) = s) && (mvL w (w (10 + i))).isNone && decide (wtF w i ≠ 0) && decide (wtF w i < e)) (b := fun i q => decide (dst e (2 * wtF w i) < dst e (2 * wtF w q))) (n := j) (by grind), hb] at ih; exact ih _ _ _ (fun q hq => by first | (cases hq; done) | (cases hq; rfl) | (cases hq; exact hg _ hb) | (cases hq; exact hg _ rfl))) | (rw [bst_1 (c := fun i => decide (w (42 + i) = s) && (mvL w (w (10 + i))).isNone && decide (wtF w i ≠ 0) && decide (wtF w i < e)) (b := fun i q => decide (dst e (2 * wtF w i) < dst e (2 * wtF w q))) (n := j) (by grind) hb (by grind)] at ih; exact ih _ _ _ (fun q hq => by first | (cases hq; done) | (cases hq; rfl) | (cases hq; exact hg _ hb) | (cases hq; exact hg _ rfl))) | (rw [bst_2 (c := fun i => decide (w (42 + i) = s) && (mvL w (w (10 + i))).isNone && decide (wtF w i ≠ 0) && decide (wtF w i < e)) (b := fun i q => decide (dst e (2 * wtF w i) < dst e (2 * wtF w q))) (n := j) (by grind) hb (by grind)] at ih; exact ih _ _ _ (fun q hq => by first | (cases hq; done) | (cases hq; rfl) | (cases hq; exact hg _ hb) | (cases hq; exact hg _ rfl)))
                  · try first | contradiction | omega
                    all_goals
                      refine e_iload dX6_bestToMove_51 rfl ?_
                      refine e_iload_n dX6_bestToMove_53 rfl rfl ?_
                      first | ((with_reducible refine mk_nn ?_); refine n_icmp_lt (tgt := 60) dX6_bestToMove_54 (by decide) (by omega) (by omega) (fun h54 => ?_) (fun h54 => ?_)) | refine e_icmp_lt (tgt := 60) dX6_bestToMove_54 (by decide) (fun h54 => ?_) (fun h54 => ?_)
                      · try first | contradiction | omega
                        all_goals
                          refine e_iload_n dX6_bestToMove_60 rfl rfl ?_
                          refine e_iconst (v := nI 2) dX6_bestToMove_61 rfl ?_
                          refine e_iload dX6_bestToMove_62 rfl ?_
                          first | ((with_reducible refine mk_nn ?_); refine n_imul dX6_bestToMove_64 ?_) | refine e_imul dX6_bestToMove_64 ?_
                          first | ((with_reducible refine mk_nn ?_); refine n_isub dX6_bestToMove_65 (by omega) ?_) | refine e_isub dX6_bestToMove_65 ?_
                          refine e_mabs dX6_bestToMove_66 ml_X6_95 sc_Mabs nz_M cd_Mabs (by decide) (Nat.le_of_ble_eq_true rfl) ?_
                          rw [nI_abs (by omega) (by omega)]
                          refine e_istore dX6_bestToMove_69 (Nat.le_of_ble_eq_true rfl) rfl ?_
                          refine e_iload_n dX6_bestToMove_71 rfl rfl ?_
                          refine e_iconst (v := -1) dX6_bestToMove_72 rfl ?_
                          first | ((with_reducible refine mk_mo ?_); refine p_icmp_eq (tgt := 83) dX6_bestToMove_73 (by decide) (fun h73 => ?_) (fun h73 => ?_)) | ((with_reducible refine mk_ms ?_); refine s_icmp_eq (tgt := 83) dX6_bestToMove_73 (by decide) (by omega) (fun h73 => ?_) (fun h73 => ?_)) | ((with_reducible refine mk_mn ?_); refine q_icmp_eq (tgt := 83) dX6_bestToMove_73 (by decide) (by omega) (fun h73 => ?_) (fun h73 => ?_)) | ((with_reducible refine mk_nn ?_); refine n_icmp_eq (tgt := 83) dX6_bestToMove_73 (by decide) (by omega) (by omega) (fun h73 => ?_) (fun h73 => ?_)) | refine e_icmp_eq (tgt := 83) dX6_bestToMove_73 (by decide) (fun h73 => ?_) (fun h73 => ?_)
                          · try first | contradiction | omega
                            all_goals
                              refine e_iload dX6_bestToMove_83 rfl ?_
                              refine e_istore_n dX6_bestToMove_85 rfl (Nat.le_of_ble_eq_true rfl) rfl ?_
                              refine e_iload dX6_bestToMove_86 rfl ?_
                              refine e_istore dX6_bestToMove_88 (Nat.le_of_ble_eq_true rfl) rfl ?_
                              first | refine n_inc dX6_bestToMove_90 rfl (Nat.le_of_ble_eq_true rfl) rfl ?_ | refine e_iinc dX6_bestToMove_90 rfl rfl (Nat.le_of_ble_eq_true rfl) rfl ?_
                              refine e_goto (tgt := 8) dX6_bestToMove_93 (by decide) ?_
                              first | (rw [bst_f (c := fun i => decide (w (42 + i) = s) && (mvL w (w (10 + i))).isNone && decide (wtF w i ≠ 0) && decide (wtF w i < e)) (b := fun i q => decide (dst e (2 * wtF w i) < dst e (2 * wtF w q))) (n := j) (by grind), hb] at ih; exact ih _ _ _ (fun q hq => by first | (cases hq; done) | (cases hq; rfl) | (cases hq; exact hg _ hb) | (cases hq; exact hg _ rfl))) | (rw [bst_1 (c := fun i => decide (w (42 + i) = s) && (mvL w (w (10 + i))).isNone && decide (wtF w i ≠ 0) && decide (wtF w i < e)) (b := fun i q => decide (dst e (2 * wtF w i) < dst e (2 * wtF w q))) (n := j) (by grind) hb (by grind)] at ih; exact ih _ _ _ (fun q hq => by first | (cases hq; done) | (cases hq; rfl) | (cases hq; exact hg _ hb) | (cases hq; exact hg _ rfl))) | (rw [bst_2 (c := fun i => decide (w (42 + i) = s) && (mvL w (w (10 + i))).isNone && decide (wtF w i ≠ 0) && decide (wtF w i < e)) (b := fun i q => decide (dst e (2 * wtF w i) < dst e (2 * wtF w q))) (n := j) (by grind) hb (by grind)] at ih; exact ih _ _ _ (fun q hq => by first | (cases hq; done) | (cases hq; rfl) | (cases hq; exact hg _ hb) | (cases hq; exact hg _ rfl)))
                          · try first | contradiction | omega
                            all_goals
                              refine e_iload dX6_bestToMove_76 rfl ?_
                              refine e_iload dX6_bestToMove_78 rfl ?_
                              first | ((with_reducible refine mk_nn ?_); refine n_icmp_ge (tgt := 90) dX6_bestToMove_80 (by decide) (by omega) (by omega) (fun h80 => ?_) (fun h80 => ?_)) | refine e_icmp_ge (tgt := 90) dX6_bestToMove_80 (by decide) (fun h80 => ?_) (fun h80 => ?_)
                              · try first | contradiction | omega
                                all_goals
                                  first | refine n_inc dX6_bestToMove_90 rfl (Nat.le_of_ble_eq_true rfl) rfl ?_ | refine e_iinc dX6_bestToMove_90 rfl rfl (Nat.le_of_ble_eq_true rfl) rfl ?_
                                  refine e_goto (tgt := 8) dX6_bestToMove_93 (by decide) ?_
                                  first | (rw [bst_f (c := fun i => decide (w (42 + i) = s) && (mvL w (w (10 + i))).isNone && decide (wtF w i ≠ 0) && decide (wtF w i < e)) (b := fun i q => decide (dst e (2 * wtF w i) < dst e (2 * wtF w q))) (n := j) (by grind), hb] at ih; exact ih _ _ _ (fun q hq => by first | (cases hq; done) | (cases hq; rfl) | (cases hq; exact hg _ hb) | (cases hq; exact hg _ rfl))) | (rw [bst_1 (c := fun i => decide (w (42 + i) = s) && (mvL w (w (10 + i))).isNone && decide (wtF w i ≠ 0) && decide (wtF w i < e)) (b := fun i q => decide (dst e (2 * wtF w i) < dst e (2 * wtF w q))) (n := j) (by grind) hb (by grind)] at ih; exact ih _ _ _ (fun q hq => by first | (cases hq; done) | (cases hq; rfl) | (cases hq; exact hg _ hb) | (cases hq; exact hg _ rfl))) | (rw [bst_2 (c := fun i => decide (w (42 + i) = s) && (mvL w (w (10 + i))).isNone && decide (wtF w i ≠ 0) && decide (wtF w i < e)) (b := fun i q => decide (dst e (2 * wtF w i) < dst e (2 * wtF w q))) (n := j) (by grind) hb (by grind)] at ih; exact ih _ _ _ (fun q hq => by first | (cases hq; done) | (cases hq; rfl) | (cases hq; exact hg _ hb) | (cases hq; exact hg _ rfl)))
                              · try first | contradiction | omega
                                all_goals
                                  refine e_iload dX6_bestToMove_83 rfl ?_
                                  refine e_istore_n dX6_bestToMove_85 rfl (Nat.le_of_ble_eq_true rfl) rfl ?_
                                  refine e_iload dX6_bestToMove_86 rfl ?_
                                  refine e_istore dX6_bestToMove_88 (Nat.le_of_ble_eq_true rfl) rfl ?_
                                  first | refine n_inc dX6_bestToMove_90 rfl (Nat.le_of_ble_eq_true rfl) rfl ?_ | refine e_iinc dX6_bestToMove_90 rfl rfl (Nat.le_of_ble_eq_true rfl) rfl ?_
                                  refine e_goto (tgt := 8) dX6_bestToMove_93 (by decide) ?_
                                  first | (rw [bst_f (c := fun i => decide (w (42 + i) = s) && (mvL w (w (10 + i))).isNone && decide (wtF w i ≠ 0) && decide (wtF w i < e)) (b := fun i q => decide (dst e (2 * wtF w i) < dst e (2 * wtF w q))) (n := j) (by grind), hb] at ih; exact ih _ _ _ (fun q hq => by first | (cases hq; done) | (cases hq; rfl) | (cases hq; exact hg _ hb) | (cases hq; exact hg _ rfl))) | (rw [bst_1 (c := fun i => decide (w (42 + i) = s) && (mvL w (w (10 + i))).isNone && decide (wtF w i ≠ 0) && decide (wtF w i < e)) (b := fun i q => decide (dst e (2 * wtF w i) < dst e (2 * wtF w q))) (n := j) (by grind) hb (by grind)] at ih; exact ih _ _ _ (fun q hq => by first | (cases hq; done) | (cases hq; rfl) | (cases hq; exact hg _ hb) | (cases hq; exact hg _ rfl))) | (rw [bst_2 (c := fun i => decide (w (42 + i) = s) && (mvL w (w (10 + i))).isNone && decide (wtF w i ≠ 0) && decide (wtF w i < e)) (b := fun i q => decide (dst e (2 * wtF w i) < dst e (2 * wtF w q))) (n := j) (by grind) hb (by grind)] at ih; exact ih _ _ _ (fun q hq => by first | (cases hq; done) | (cases hq; rfl) | (cases hq; exact hg _ hb) | (cases hq; exact hg _ rfl)))
                      · try first | contradiction | omega
                        all_goals
                          refine e_goto (tgt := 90) dX6_bestToMove_57 (by decide) ?_
                          first | refine n_inc dX6_bestToMove_90 rfl (Nat.le_of_ble_eq_true rfl) rfl ?_ | refine e_iinc dX6_bestToMove_90 rfl rfl (Nat.le_of_ble_eq_true rfl) rfl ?_
                          refine e_goto (tgt := 8) dX6_bestToMove_93 (by decide) ?_
                          first | (rw [bst_f (c := fun i => decide (w (42 + i) = s) && (mvL w (w (10 + i))).isNone && decide (wtF w i ≠ 0) && decide (wtF w i < e)) (b := fun i q => decide (dst e (2 * wtF w i) < dst e (2 * wtF w q))) (n := j) (by grind), hb] at ih; exact ih _ _ _ (fun q hq => by first | (cases hq; done) | (cases hq; rfl) | (cases hq; exact hg _ hb) | (cases hq; exact hg _ rfl))) | (rw [bst_1 (c := fun i => decide (w (42 + i) = s) && (mvL w (w (10 + i))).isNone && decide (wtF w i ≠ 0) && decide (wtF w i < e)) (b := fun i q => decide (dst e (2 * wtF w i) < dst e (2 * wtF w q))) (n := j) (by grind) hb (by grind)] at ih; exact ih _ _ _ (fun q hq => by first | (cases hq; done) | (cases hq; rfl) | (cases hq; exact hg _ hb) | (cases hq; exact hg _ rfl))) | (rw [bst_2 (c := fun i => decide (w (42 + i) = s) && (mvL w (w (10 + i))).isNone && decide (wtF w i ≠ 0) && decide (wtF w i < e)) (b := fun i q => decide (dst e (2 * wtF w i) < dst e (2 * wtF w q))) (n := j) (by grind) hb (by grind)] at ih; exact ih _ _ _ (fun q hq => by first | (cases hq; done) | (cases hq; rfl) | (cases hq; exact hg _ hb) | (cases hq; exact hg _ rfl)))
    ) (fun g x y hg => by
    refine e_iload dX6_bestToMove_8 rfl ?_
    refine e_aload_n dX6_bestToMove_10 rfl rfl ?_
    refine e_getE dX6_bestToMove_11 fl_X6_43 rfl (pl_n hP) ?_
    first | ((with_reducible refine mk_nn ?_); refine n_icmp_ge (tgt := 96) dX6_bestToMove_14 (by decide) (by omega) (by omega) (fun h14 => ?_) (fun h14 => ?_)) | refine e_icmp_ge (tgt := 96) dX6_bestToMove_14 (by decide) (fun h14 => ?_) (fun h14 => ?_)
    · try first | contradiction | omega
      all_goals
        refine e_iload_n dX6_bestToMove_96 rfl rfl ?_
        refine e_ret (some _) rfl (r_int dX6_bestToMove_97 rfl) ?_
        exact xq rfl rfl rfl rfl rfl rfl
    · try first | contradiction | omega
      all_goals
        refine e_aload_n dX6_bestToMove_17 rfl rfl ?_
        refine e_iload dX6_bestToMove_18 rfl ?_
        refine x_V1 (M' := mX6_weightOf) dX6_bestToMove_20 ml_X6_60 ok_X6_weightOf (by decide) rfl im_X6_weightOf se_X6_weightOf (ct_X6_weightOf cm iv hP (by omega)) (Nat.le_of_ble_eq_true rfl) (by decide) (Nat.le_of_ble_eq_true rfl) ?_
        refine e_istore dX6_bestToMove_23 (Nat.le_of_ble_eq_true rfl) rfl ?_
        refine e_aload_n dX6_bestToMove_25 rfl rfl ?_
        refine e_getR dX6_bestToMove_26 fl_X6_18 rfl (cp_own cm) ?_
        refine e_iload dX6_bestToMove_29 rfl ?_
        refine e_iadE _ dX6_bestToMove_31 ⟨by decide, by decide⟩ rfl rfl (by simp only [lenK]; omega) (pl_ow hP (by omega)) ?_
        refine e_iload_n dX6_bestToMove_32 rfl rfl ?_
        first | ((with_reducible refine mk_mo ?_); refine p_icmp_ne (tgt := 90) dX6_bestToMove_33 (by decide) (fun h33 => ?_) (fun h33 => ?_)) | ((with_reducible refine mk_ms ?_); refine s_icmp_ne (tgt := 90) dX6_bestToMove_33 (by decide) (by omega) (fun h33 => ?_) (fun h33 => ?_)) | ((with_reducible refine mk_mn ?_); refine q_icmp_ne (tgt := 90) dX6_bestToMove_33 (by decide) (by omega) (fun h33 => ?_) (fun h33 => ?_)) | ((with_reducible refine mk_nn ?_); refine n_icmp_ne (tgt := 90) dX6_bestToMove_33 (by decide) (by omega) (by omega) (fun h33 => ?_) (fun h33 => ?_)) | refine e_icmp_ne (tgt := 90) dX6_bestToMove_33 (by decide) (fun h33 => ?_) (fun h33 => ?_)
        · try first | contradiction | omega
          all_goals
            first | refine n_inc dX6_bestToMove_90 rfl (Nat.le_of_ble_eq_true rfl) rfl ?_ | refine e_iinc dX6_bestToMove_90 rfl rfl (Nat.le_of_ble_eq_true rfl) rfl ?_
            refine e_goto (tgt := 8) dX6_bestToMove_93 (by decide) ?_
            contradiction
        · try first | contradiction | omega
          all_goals
            refine e_aload_n dX6_bestToMove_36 rfl rfl ?_
            refine e_getR dX6_bestToMove_37 fl_X6_21 rfl (cp_busy cm) ?_
            refine e_iload dX6_bestToMove_40 rfl ?_
            refine e_zadE _ dX6_bestToMove_42 ⟨by decide, by decide⟩ rfl rfl (by simp only [lenK]; omega) (pl_bu hP (by omega)) ?_
            first | ((with_reducible refine mk_b ?_); refine b_if_ne (tgt := 90) dX6_bestToMove_43 (by decide) (fun h43 => ?_) (fun h43 => ?_)) | ((with_reducible refine mk_ll ?_); refine m_if_ne (tgt := 90) dX6_bestToMove_43 (by decide) (by omega) (by omega) (fun h43 => ?_) (fun h43 => ?_)) | ((with_reducible refine mk_lc ?_); refine l_if_ne (tgt := 90) dX6_bestToMove_43 (by decide) (fun h43 => ?_) (fun h43 => ?_)) | ((with_reducible refine mk_n ?_); refine n_if_ne (tgt := 90) dX6_bestToMove_43 (by decide) (by omega) (fun h43 => ?_) (fun h43 => ?_)) | refine e_if_ne (tgt := 90) dX6_bestToMove_43 (by decide) (fun h43 => ?_) (fun h43 => ?_)
            · try first | contradiction | omega | (simp only [decide_eq_true_eq, decide_eq_false_iff_not] at h43; omega)
              all_goals
                first | refine n_inc dX6_bestToMove_90 rfl (Nat.le_of_ble_eq_true rfl) rfl ?_ | refine e_iinc dX6_bestToMove_90 rfl rfl (Nat.le_of_ble_eq_true rfl) rfl ?_
                refine e_goto (tgt := 8) dX6_bestToMove_93 (by decide) ?_
                contradiction
            · try first | contradiction | omega | (simp only [decide_eq_true_eq, decide_eq_false_iff_not] at h43; omega)
              all_goals
                refine e_iload dX6_bestToMove_46 rfl ?_
                first | ((with_reducible refine mk_ll ?_); refine m_if_le (tgt := 90) dX6_bestToMove_48 (by decide) (by omega) (by omega) (fun h48 => ?_) (fun h48 => ?_)) | ((with_reducible refine mk_lc ?_); refine l_if_le (tgt := 90) dX6_bestToMove_48 (by decide) (fun h48 => ?_) (fun h48 => ?_)) | ((with_reducible refine mk_n ?_); refine n_if_le (tgt := 90) dX6_bestToMove_48 (by decide) (by omega) (fun h48 => ?_) (fun h48 => ?_)) | refine e_if_le (tgt := 90) dX6_bestToMove_48 (by decide) (fun h48 => ?_) (fun h48 => ?_)
                · try first | contradiction | omega
                  all_goals
                    first | refine n_inc dX6_bestToMove_90 rfl (Nat.le_of_ble_eq_true rfl) rfl ?_ | refine e_iinc dX6_bestToMove_90 rfl rfl (Nat.le_of_ble_eq_true rfl) rfl ?_
                    refine e_goto (tgt := 8) dX6_bestToMove_93 (by decide) ?_
                    contradiction
                · try first | contradiction | omega
                  all_goals
                    refine e_iload dX6_bestToMove_51 rfl ?_
                    refine e_iload_n dX6_bestToMove_53 rfl rfl ?_
                    first | ((with_reducible refine mk_nn ?_); refine n_icmp_lt (tgt := 60) dX6_bestToMove_54 (by decide) (by omega) (by omega) (fun h54 => ?_) (fun h54 => ?_)) | refine e_icmp_lt (tgt := 60) dX6_bestToMove_54 (by decide) (fun h54 => ?_) (fun h54 => ?_)
                    · try first | contradiction | omega
                      all_goals
                        refine e_iload_n dX6_bestToMove_60 rfl rfl ?_
                        refine e_iconst (v := nI 2) dX6_bestToMove_61 rfl ?_
                        refine e_iload dX6_bestToMove_62 rfl ?_
                        first | ((with_reducible refine mk_nn ?_); refine n_imul dX6_bestToMove_64 ?_) | refine e_imul dX6_bestToMove_64 ?_
                        first | ((with_reducible refine mk_nn ?_); refine n_isub dX6_bestToMove_65 (by omega) ?_) | refine e_isub dX6_bestToMove_65 ?_
                        refine e_mabs dX6_bestToMove_66 ml_X6_95 sc_Mabs nz_M cd_Mabs (by decide) (Nat.le_of_ble_eq_true rfl) ?_
                        refine e_istore dX6_bestToMove_69 (Nat.le_of_ble_eq_true rfl) rfl ?_
                        refine e_iload_n dX6_bestToMove_71 rfl rfl ?_
                        refine e_iconst (v := -1) dX6_bestToMove_72 rfl ?_
                        first | ((with_reducible refine mk_mo ?_); refine p_icmp_eq (tgt := 83) dX6_bestToMove_73 (by decide) (fun h73 => ?_) (fun h73 => ?_)) | ((with_reducible refine mk_ms ?_); refine s_icmp_eq (tgt := 83) dX6_bestToMove_73 (by decide) (by omega) (fun h73 => ?_) (fun h73 => ?_)) | ((with_reducible refine mk_mn ?_); refine q_icmp_eq (tgt := 83) dX6_bestToMove_73 (by decide) (by omega) (fun h73 => ?_) (fun h73 => ?_)) | ((with_reducible refine mk_nn ?_); refine n_icmp_eq (tgt := 83) dX6_bestToMove_73 (by decide) (by omega) (by omega) (fun h73 => ?_) (fun h73 => ?_)) | refine e_icmp_eq (tgt := 83) dX6_bestToMove_73 (by decide) (fun h73 => ?_) (fun h73 => ?_)
                        · try first | contradiction | omega
                          all_goals
                            refine e_iload dX6_bestToMove_83 rfl ?_
                            refine e_istore_n dX6_bestToMove_85 rfl (Nat.le_of_ble_eq_true rfl) rfl ?_
                            refine e_iload dX6_bestToMove_86 rfl ?_
                            refine e_istore dX6_bestToMove_88 (Nat.le_of_ble_eq_true rfl) rfl ?_
                            first | refine n_inc dX6_bestToMove_90 rfl (Nat.le_of_ble_eq_true rfl) rfl ?_ | refine e_iinc dX6_bestToMove_90 rfl rfl (Nat.le_of_ble_eq_true rfl) rfl ?_
                            refine e_goto (tgt := 8) dX6_bestToMove_93 (by decide) ?_
                            contradiction
                        · try first | contradiction | omega
                          all_goals
                            refine e_iload dX6_bestToMove_76 rfl ?_
                            refine e_iload dX6_bestToMove_78 rfl ?_
                            first | ((with_reducible refine mk_nn ?_); refine n_icmp_ge (tgt := 90) dX6_bestToMove_80 (by decide) (by omega) (by omega) (fun h80 => ?_) (fun h80 => ?_)) | refine e_icmp_ge (tgt := 90) dX6_bestToMove_80 (by decide) (fun h80 => ?_) (fun h80 => ?_)
                            · try first | contradiction | omega
                              all_goals
                                first | refine n_inc dX6_bestToMove_90 rfl (Nat.le_of_ble_eq_true rfl) rfl ?_ | refine e_iinc dX6_bestToMove_90 rfl rfl (Nat.le_of_ble_eq_true rfl) rfl ?_
                                refine e_goto (tgt := 8) dX6_bestToMove_93 (by decide) ?_
                                contradiction
                            · try first | contradiction | omega
                              all_goals
                                refine e_iload dX6_bestToMove_83 rfl ?_
                                refine e_istore_n dX6_bestToMove_85 rfl (Nat.le_of_ble_eq_true rfl) rfl ?_
                                refine e_iload dX6_bestToMove_86 rfl ?_
                                refine e_istore dX6_bestToMove_88 (Nat.le_of_ble_eq_true rfl) rfl ?_
                                first | refine n_inc dX6_bestToMove_90 rfl (Nat.le_of_ble_eq_true rfl) rfl ?_ | refine e_iinc dX6_bestToMove_90 rfl rfl (Nat.le_of_ble_eq_true rfl) rfl ?_
                                refine e_goto (tgt := 8) dX6_bestToMove_93 (by decide) ?_
                                contradiction
                    · try first | contradiction | omega
                      all_goals
                        refine e_goto (tgt := 90) dX6_bestToMove_57 (by decide) ?_
                        first | refine n_inc dX6_bestToMove_90 rfl (Nat.le_of_ble_eq_true rfl) rfl ?_ | refine e_iinc dX6_bestToMove_90 rfl rfl (Nat.le_of_ble_eq_true rfl) rfl ?_
                        refine e_goto (tgt := 8) dX6_bestToMove_93 (by decide) ?_
                        contradiction
    )
  refine e_iconst (v := -1) dX6_bestToMove_0 rfl ?_
  refine e_istore_n dX6_bestToMove_1 rfl (Nat.le_of_ble_eq_true rfl) rfl ?_
  refine e_iconst (v := nI 0) dX6_bestToMove_2 rfl ?_
  refine e_istore dX6_bestToMove_3 (Nat.le_of_ble_eq_true rfl) rfl ?_
  refine e_iconst (v := nI 0) dX6_bestToMove_5 rfl ?_
  refine e_istore dX6_bestToMove_6 (Nat.le_of_ble_eq_true rfl) rfl ?_
  exact key 0 (by omega) _ _ _ (fun q hq => by cases hq)
