def steW (w : Nat → Nat) (m : Nat) : Nat → Nat :=
  if w (7694 + 72 * m + 0) = 1 then gonW w m (w 2) false
  else if w (7694 + 72 * m + 0) = 2 then (if catW w m (w 2) (7694 + 72 * m + 6) = 0 then upN (catW w m (w 2)) (7694 + 72 * m + 0) 3 else catW w m (w 2))
  else if w (7694 + 72 * m + 0) = 3 then swiW w m
  else gonW w m (w 2) true
def steA (ai : FI) (w : Nat → Nat) (m : Nat) : FI := if w (7694 + 72 * m + 0) = 3 then swiA ai w m else ai
def fa2 (w : Nat → Nat) (m : Nat) : Nat → Nat := upN (upN w (7694 + 72 * m + 8) 3) (8558 + 12) (w (8558 + 12) + 1)
def faiW (w : Nat → Nat) (m : Nat) : Nat → Nat :=
  if w (7694 + 72 * m + 0) = 2 then upN (catW (fa2 w m) m (w 2 / 2)) (7694 + 72 * m + 7) 1
  else if w (7694 + 72 * m + 0) = 1 then upN (govW (fa2 w m) m (w 2 / 2) false) (7694 + 72 * m + 7) 1
  else if w (7694 + 72 * m + 0) = 4 then upN (govW (fa2 w m) m (w 2 / 2) true) (7694 + 72 * m + 7) 1
  else upN (fa2 w m) (7694 + 72 * m + 7) 1
theorem Inv_m8 {w : Nat → Nat} (iv : Inv w) {m v : Nat} (hm : m < w 3) (f : Nat) (hf : f = 8 ∨ f = 9 ∨ (f = 10 ∧ v ≤ 99) ∨ (f = 7 ∧ v ≤ 1)) : Inv (upN w (7694 + 72 * m + f) v) := by
  have hmm := iv_mm iv
  obtain ⟨a1, a2, a3, a4, a5, a6, a7, a8, a9, a10, a11, a12, a13⟩ := iv
  have h : ∀ q, (q < 7694 ∨ 8558 ≤ q) → upN w (7694 + 72 * m + f) v q = w q := fun q hq => upN_n (by omega)
  have e0 := h 0 (by omega); have e1 := h 1 (by omega); have e2 := h 2 (by omega); have e3 := h 3 (by omega); have e10 := h 10 (by omega)
  refine ⟨by rw [e1]; exact a1, by rw [e10]; exact a2, fun i hi => ?_, fun i hi => ?_, fun i hi => ?_, ⟨by rw [e0]; exact a6.1, fun i hi => ?_⟩, by rw [e2]; exact a7, by rw [e3]; exact a8, fun s hs => ?_, fun k hk => ?_, fun i hi => ?_, fun c hc => ?_, fun m2 hm2 => ?_⟩
  · rw [e1] at hi; rw [h _ (by omega), h _ (by omega)]; exact a3 i hi
  · rw [e1] at hi; rw [h _ (by omega)]; exact a4 i hi
  · rw [e1] at hi; rw [h _ (by omega)]; exact a5 i hi
  · rw [e1] at hi; rw [h _ (by omega), e0]; exact a6.2 i hi
  · rw [h _ (by omega)]; exact a9 s hs
  · rw [h _ (by omega)]; exact a10 k hk
  · rw [h _ (by omega)]; exact a11 i hi
  · have q := a12 c hc
    rw [h (7106 + 98 * c + 1) (by omega), h (7106 + 98 * c + 0) (by omega), h (7106 + 98 * c + 2) (by omega)]
    exact ⟨q.1, q.2.1, q.2.2.1, q.2.2.2.1, fun j hj => by rw [h _ (by omega), h _ (by omega), h _ (by omega)]; exact q.2.2.2.2 j hj⟩
  · rw [e3] at hm2
    have q := a13 m2 hm2
    have g : ∀ d, d < 72 → (d ≠ 7 ∧ d ≠ 8 ∧ d ≠ 9 ∧ d ≠ 10) → upN w (7694 + 72 * m + f) v (7694 + 72 * m2 + d) = w (7694 + 72 * m2 + d) := fun d hd hd2 => upN_n (by omega)
    rw [g 0 (by omega) (by omega), g 1 (by omega) (by omega), g 2 (by omega) (by omega), g 3 (by omega) (by omega), g 4 (by omega) (by omega), g 5 (by omega) (by omega), g 6 (by omega) (by omega), g 11 (by omega) (by omega)]
    refine ⟨q.1, q.2.1, q.2.2.1, q.2.2.2.1, q.2.2.2.2.1, q.2.2.2.2.2.1, q.2.2.2.2.2.2.1, q.2.2.2.2.2.2.2.1, ?_, ?_, q.2.2.2.2.2.2.2.2.2.2.1, fun i hi => ?_⟩
    · unfold upN
      split
      · omega
      · exact q.2.2.2.2.2.2.2.2.1
    · unfold upN
      split
      · omega
      · exact q.2.2.2.2.2.2.2.2.2.1
    · have := q.2.2.2.2.2.2.2.1
      have e := g (12 + i) (by omega) (by omega)
      rw [← Nat.add_assoc] at e
      rw [e]
      exact q.2.2.2.2.2.2.2.2.2.2.2 i hi
theorem ct_X11_steps {fi : FI} {fr : FR} {ai : FI} {ar : FR} {N : Nat} {w : Nat → Nat} (sm : SM fr) (iv : Inv w) {m : Nat} (hm : m < w 3) : CP mX11_steps 3 0 0 [.ref (rf 11 80), .int (nI (7694 + 72 * m))] fi fr (mW ai w) ar N (xQ none fi fr (mW (steA ai w m) (steW w m)) ar N) := by
  obtain ⟨sW, sA0, sK, sU, sC, sKC, sT, sCl⟩ := id sm
  have hq := iv_mv iv hm
  have h3 := iv_mm iv
  have hch := iv_ch iv
  change EV mX11_steps 3 0 0 0 [some (.ref (rf 11 80)), some (.int (nI (7694 + 72 * m))), none] [] fi fr (mW ai w) ar N (xQ none fi fr (mW (steA ai w m) (steW w m)) ar N)
  have hti : (nI (w (7694 + 72 * m + 0))).toInt = w (7694 + 72 * m + 0) := nI_toInt (b31 (by omega))
  have hc6 : catW w m (w 2) (7694 + 72 * m + 6) < 2147483648 := by unfold catW; rw [upN_n (by omega), upN_s]; omega
  refine e_aload_n dX11_steps_0 rfl rfl ?_
  refine e_getR dX11_steps_1 fl_X11_7 rfl (by assumption) ?_
  refine e_iconst (v := nI 2) dX11_steps_4 rfl ?_
  first | ((with_reducible refine mk_ldw ?_); refine e_ldw dX11_steps_5 (by omega) ?_) | refine e_iald _ dX11_steps_5 ⟨by decide, by decide⟩ rfl rfl (by simp only [lenK]; omega) ?_
  refine e_istore_n dX11_steps_6 rfl (Nat.le_of_ble_eq_true rfl) rfl ?_
  refine e_aload_n dX11_steps_7 rfl rfl ?_
  refine e_getR dX11_steps_8 fl_X11_7 rfl (by assumption) ?_
  refine e_iload_n dX11_steps_11 rfl rfl ?_
  refine e_iconst (v := nI 0) dX11_steps_12 rfl ?_
  first | ((with_reducible refine mk_nn ?_); refine n_iadd dX11_steps_13 ?_) | refine e_iadd dX11_steps_13 ?_
  first | ((with_reducible refine mk_ldw ?_); refine e_ldw dX11_steps_14 (by omega) ?_) | refine e_iald _ dX11_steps_14 ⟨by decide, by decide⟩ rfl rfl (by simp only [lenK]; omega) ?_
  refine e_swc (tgt := 40) 1 dX11_steps_15 (by decide) (by decide) rfl (by decide) (fun h15_0 => ?_) (fun h15_0 => ?_)
  · try first | contradiction | omega
    all_goals
      rw [hti] at h15_0
      refine e_aload_n dX11_steps_40 rfl rfl ?_
      refine e_iload_n dX11_steps_41 rfl rfl ?_
      refine e_iload_n dX11_steps_42 rfl rfl ?_
      refine e_iconst (v := nI 0) dX11_steps_43 rfl ?_
      refine y_V3 (M' := mX11_goesOn) dX11_steps_44 ml_X11_172 ok_X11_goesOn (by decide) rfl im_X11_goesOn se_X11_goesOn (ct_goesOn0 ‹_› ‹_› hm (by omega) (by omega)) (Nat.le_of_ble_eq_true rfl) (by decide) (Nat.le_of_ble_eq_true rfl) ?_
      refine e_goto (tgt := 95) dX11_steps_47 (by decide) ?_
      refine e_ret none rfl (r_void dX11_steps_95 rfl) ?_
      refine xq rfl rfl rfl ?_ rfl rfl
      unfold steW steA
      repeat' split
      all_goals first | rfl | (exfalso; omega)
  refine e_swc (tgt := 50) 2 dX11_steps_15 (by decide) (by decide) rfl (by decide) (fun h15_1 => ?_) (fun h15_1 => ?_)
  · try first | contradiction | omega
    all_goals
      rw [hti] at h15_1
      refine e_aload_n dX11_steps_50 rfl rfl ?_
      refine e_iload_n dX11_steps_51 rfl rfl ?_
      refine e_iload_n dX11_steps_52 rfl rfl ?_
      refine y_V2 (M' := mX11_catchesUp) dX11_steps_53 ml_X11_176 ok_X11_catchesUp (by decide) rfl im_X11_catchesUp se_X11_catchesUp (ct_X11_catchesUp ‹_› ‹_› hm (by omega)) (Nat.le_of_ble_eq_true rfl) (by decide) (Nat.le_of_ble_eq_true rfl) ?_
      refine e_aload_n dX11_steps_56 rfl rfl ?_
      refine e_getR dX11_steps_57 fl_X11_7 rfl (by assumption) ?_
      refine e_iload_n dX11_steps_60 rfl rfl ?_
      refine e_bipush (v := nI 6) dX11_steps_61 rfl ?_
      first | ((with_reducible refine mk_nn ?_); refine n_iadd dX11_steps_63 ?_) | refine e_iadd dX11_steps_63 ?_
      first | ((with_reducible refine mk_ldw ?_); refine e_ldw dX11_steps_64 (by omega) ?_) | refine e_iald _ dX11_steps_64 ⟨by decide, by decide⟩ rfl rfl (by simp only [lenK]; omega) ?_
      first | ((with_reducible refine mk_b ?_); refine b_if_ne (tgt := 95) dX11_steps_65 (by decide) (fun h65 => ?_) (fun h65 => ?_)) | ((with_reducible refine mk_ll ?_); refine m_if_ne (tgt := 95) dX11_steps_65 (by decide) (by omega) (by omega) (fun h65 => ?_) (fun h65 => ?_)) | ((with_reducible refine mk_lc ?_); refine l_if_ne (tgt := 95) dX11_steps_65 (by decide) (fun h65 => ?_) (fun h65 => ?_)) | ((with_reducible refine mk_n ?_); refine n_if_ne (tgt := 95) dX11_steps_65 (by decide) (by omega) (fun h65 => ?_) (fun h65 => ?_)) | refine e_if_ne (tgt := 95) dX11_steps_65 (by decide) (fun h65 => ?_) (fun h65 => ?_)
      · try first | contradiction | omega | (simp only [decide_eq_true_eq, decide_eq_false_iff_not] at h65; omega)
        all_goals
          refine e_ret none rfl (r_void dX11_steps_95 rfl) ?_
          refine xq rfl rfl rfl ?_ rfl rfl
          unfold steW steA
          repeat' split
          all_goals first | rfl | (exfalso; omega)
      · try first | contradiction | omega | (simp only [decide_eq_true_eq, decide_eq_false_iff_not] at h65; omega)
        all_goals
          refine e_aload_n dX11_steps_68 rfl rfl ?_
          refine e_getR dX11_steps_69 fl_X11_7 rfl (by assumption) ?_
          refine e_iload_n dX11_steps_72 rfl rfl ?_
          refine e_iconst (v := nI 0) dX11_steps_73 rfl ?_
          first | ((with_reducible refine mk_nn ?_); refine n_iadd dX11_steps_74 ?_) | refine e_iadd dX11_steps_74 ?_
          refine e_iconst (v := nI 3) dX11_steps_75 rfl ?_
          first | ((with_reducible refine mk_stw ?_); refine e_stw dX11_steps_76 (by omega) ?_) | refine e_iast _ dX11_steps_76 ⟨by decide, by decide⟩ rfl rfl (by simp only [lenK]; omega) ?_
          refine e_goto (tgt := 95) dX11_steps_77 (by decide) ?_
          refine e_ret none rfl (r_void dX11_steps_95 rfl) ?_
          refine xq rfl rfl rfl ?_ rfl rfl
          unfold steW steA
          repeat' split
          all_goals first | rfl | (exfalso; omega)
  refine e_swc (tgt := 80) 3 dX11_steps_15 (by decide) (by decide) rfl (by decide) (fun h15_2 => ?_) (fun h15_2 => ?_)
  · try first | contradiction | omega
    all_goals
      rw [hti] at h15_2
      refine e_aload_n dX11_steps_80 rfl rfl ?_
      refine e_iload_n dX11_steps_81 rfl rfl ?_
      refine y_V1 (M' := mX11_switches) dX11_steps_82 ml_X11_179 ok_X11_switches (by decide) rfl im_X11_switches se_X11_switches (ct_X11_switches ‹_› ‹_› hm) (Nat.le_of_ble_eq_true rfl) (by decide) (Nat.le_of_ble_eq_true rfl) ?_
      refine e_goto (tgt := 95) dX11_steps_85 (by decide) ?_
      refine e_ret none rfl (r_void dX11_steps_95 rfl) ?_
      refine xq rfl rfl rfl ?_ rfl rfl
      unfold steW steA
      repeat' split
      all_goals first | rfl | (exfalso; omega)
  refine e_tableOut (tgt := 88) dX11_steps_15 (by omega) (by decide) ?_
  rw [hti] at *
  refine e_aload_n dX11_steps_88 rfl rfl ?_
  refine e_iload_n dX11_steps_89 rfl rfl ?_
  refine e_iload_n dX11_steps_90 rfl rfl ?_
  refine e_iconst (v := nI 1) dX11_steps_91 rfl ?_
  refine y_V3 (M' := mX11_goesOn) dX11_steps_92 ml_X11_172 ok_X11_goesOn (by decide) rfl im_X11_goesOn se_X11_goesOn (ct_goesOn1 ‹_› ‹_› hm (by omega) (by omega)) (Nat.le_of_ble_eq_true rfl) (by decide) (Nat.le_of_ble_eq_true rfl) ?_
  refine e_ret none rfl (r_void dX11_steps_95 rfl) ?_
  refine xq rfl rfl rfl ?_ rfl rfl
  unfold steW steA
  repeat' split
  all_goals first | rfl | (exfalso; omega)
theorem fa2_Inv {w : Nat → Nat} (iv : Inv w) {m : Nat} (hm : m < w 3) : Inv (fa2 w m) := Inv_fr (w := upN w (7694 + 72 * m + 8) 3) (fun q hq => upN_n (by omega)) (Inv_m8 iv hm 8 (by omega))
theorem fa2_fr {w : Nat → Nat} {m q : Nat} (h : q ≠ 7694 + 72 * m + 8) (h2 : q ≠ 8558 + 12) : fa2 w m q = w q := by unfold fa2; rw [upN_n h2, upN_n h]
theorem ct_X11_fails {fi : FI} {fr : FR} {ai : FI} {ar : FR} {N : Nat} {w : Nat → Nat} (sm : SM fr) (iv : Inv w) {m : Nat} (hm : m < w 3) (hst : 1 ≤ w (7694 + 72 * m + 0) ∧ w (7694 + 72 * m + 0) ≤ 4) : CP mX11_fails 2 0 0 [.ref (rf 11 80), .int (nI (7694 + 72 * m))] fi fr (mW ai w) ar N (xQ none fi fr (mW ai (faiW w m)) ar N) := by
  obtain ⟨sW, sA0, sK, sU, sC, sKC, sT, sCl⟩ := id sm
  have hq := iv_mv iv hm
  have h3 := iv_mm iv
  have hch := iv_ch iv
  have iv2 := fa2_Inv iv hm
  have hm2 : m < fa2 w m 3 := by rw [fa2_fr (by omega) (by omega)]; exact hm
  have hcu : fa2 w m (7694 + 72 * m + 5) ≤ fa2 w m (7694 + 72 * m + 2) := by rw [fa2_fr (by omega) (by omega), fa2_fr (by omega) (by omega)]; omega
  change EV mX11_fails 2 0 0 0 [some (.ref (rf 11 80)), some (.int (nI (7694 + 72 * m))), none, none, none] [] fi fr (mW ai w) ar N (xQ none fi fr (mW ai (faiW w m)) ar N)
  have gl1 := govN_le iv2 (ch := w 2 / 2) (cl := true) hm2 hcu
  have gl0 := govN_le iv2 (ch := w 2 / 2) (cl := false) hm2 hcu
  refine e_aload_n dX11_fails_0 rfl rfl ?_
  refine e_getR dX11_fails_1 fl_X11_7 rfl (by assumption) ?_
  refine e_iconst (v := nI 2) dX11_fails_4 rfl ?_
  first | ((with_reducible refine mk_ldw ?_); refine e_ldw dX11_fails_5 (by omega) ?_) | refine e_iald _ dX11_fails_5 ⟨by decide, by decide⟩ rfl rfl (by simp only [lenK]; omega) ?_
  refine e_iconst (v := nI 2) dX11_fails_6 rfl ?_
  first | ((with_reducible refine mk_nn ?_); refine n_idiv dX11_fails_7 (by omega) (by omega) (by omega) ?_) | refine e_idiv dX11_fails_7 (by decide) ?_
  refine e_istore_n dX11_fails_8 rfl (Nat.le_of_ble_eq_true rfl) rfl ?_
  refine e_aload_n dX11_fails_9 rfl rfl ?_
  refine e_getR dX11_fails_10 fl_X11_7 rfl (by assumption) ?_
  refine e_iload_n dX11_fails_13 rfl rfl ?_
  refine e_iconst (v := nI 0) dX11_fails_14 rfl ?_
  first | ((with_reducible refine mk_nn ?_); refine n_iadd dX11_fails_15 ?_) | refine e_iadd dX11_fails_15 ?_
  first | ((with_reducible refine mk_ldw ?_); refine e_ldw dX11_fails_16 (by omega) ?_) | refine e_iald _ dX11_fails_16 ⟨by decide, by decide⟩ rfl rfl (by simp only [lenK]; omega) ?_
  refine e_istore_n dX11_fails_17 rfl (Nat.le_of_ble_eq_true rfl) rfl ?_
  refine e_aload_n dX11_fails_18 rfl rfl ?_
  refine e_getR dX11_fails_19 fl_X11_7 rfl (by assumption) ?_
  refine e_iload_n dX11_fails_22 rfl rfl ?_
  refine e_bipush (v := nI 8) dX11_fails_23 rfl ?_
  first | ((with_reducible refine mk_nn ?_); refine n_iadd dX11_fails_25 ?_) | refine e_iadd dX11_fails_25 ?_
  refine e_iconst (v := nI 3) dX11_fails_26 rfl ?_
  first | ((with_reducible refine mk_stw ?_); refine e_stw dX11_fails_27 (by omega) ?_) | refine e_iast _ dX11_fails_27 ⟨by decide, by decide⟩ rfl rfl (by simp only [lenK]; omega) ?_
  refine e_aload_n dX11_fails_28 rfl rfl ?_
  refine e_bipush (v := nI 12) dX11_fails_29 rfl ?_
  refine e_iconst (v := nI 1) dX11_fails_31 rfl ?_
  refine y_V2 (M' := mX11_counts) dX11_fails_32 ml_X11_97 ok_X11_counts (by decide) rfl im_X11_counts se_X11_counts (ct_X11_counts ‹_› (by omega)) (Nat.le_of_ble_eq_true rfl) (by decide) (Nat.le_of_ble_eq_true rfl) ?_
  simp (disch := omega) only [upN_n]; change EV _ _ _ _ _ _ _ _ _ (mW ai (fa2 w m)) _ _ _
  refine e_iload_n dX11_fails_35 rfl rfl ?_
  refine e_iconst (v := nI 2) dX11_fails_36 rfl ?_
  first | ((with_reducible refine mk_mo ?_); refine p_icmp_ne (tgt := 46) dX11_fails_37 (by decide) (fun h37 => ?_) (fun h37 => ?_)) | ((with_reducible refine mk_ms ?_); refine s_icmp_ne (tgt := 46) dX11_fails_37 (by decide) (by omega) (fun h37 => ?_) (fun h37 => ?_)) | ((with_reducible refine mk_mn ?_); refine q_icmp_ne (tgt := 46) dX11_fails_37 (by decide) (by omega) (fun h37 => ?_) (fun h37 => ?_)) | ((with_reducible refine mk_nn ?_); refine n_icmp_ne (tgt := 46) dX11_fails_37 (by decide) (by omega) (by omega) (fun h37 => ?_) (fun h37 => ?_)) | refine e_icmp_ne (tgt := 46) dX11_fails_37 (by decide) (fun h37 => ?_) (fun h37 => ?_)
  · try first | contradiction | omega
    all_goals
      refine e_iload_n dX11_fails_46 rfl rfl ?_
      refine e_iconst (v := nI 1) dX11_fails_47 rfl ?_
      first | ((with_reducible refine mk_mo ?_); refine p_icmp_eq (tgt := 56) dX11_fails_48 (by decide) (fun h48 => ?_) (fun h48 => ?_)) | ((with_reducible refine mk_ms ?_); refine s_icmp_eq (tgt := 56) dX11_fails_48 (by decide) (by omega) (fun h48 => ?_) (fun h48 => ?_)) | ((with_reducible refine mk_mn ?_); refine q_icmp_eq (tgt := 56) dX11_fails_48 (by decide) (by omega) (fun h48 => ?_) (fun h48 => ?_)) | ((with_reducible refine mk_nn ?_); refine n_icmp_eq (tgt := 56) dX11_fails_48 (by decide) (by omega) (by omega) (fun h48 => ?_) (fun h48 => ?_)) | refine e_icmp_eq (tgt := 56) dX11_fails_48 (by decide) (fun h48 => ?_) (fun h48 => ?_)
      · try first | contradiction | omega
        all_goals
          refine e_aload_n dX11_fails_56 rfl rfl ?_
          refine e_iload_n dX11_fails_57 rfl rfl ?_
          refine e_iload_n dX11_fails_58 rfl rfl ?_
          refine e_iload_n dX11_fails_59 rfl rfl ?_
          refine e_iconst (v := nI 4) dX11_fails_60 rfl ?_
          first | ((with_reducible refine mk_mo ?_); refine p_icmp_ne (tgt := 68) dX11_fails_61 (by decide) (fun h61 => ?_) (fun h61 => ?_)) | ((with_reducible refine mk_ms ?_); refine s_icmp_ne (tgt := 68) dX11_fails_61 (by decide) (by omega) (fun h61 => ?_) (fun h61 => ?_)) | ((with_reducible refine mk_mn ?_); refine q_icmp_ne (tgt := 68) dX11_fails_61 (by decide) (by omega) (fun h61 => ?_) (fun h61 => ?_)) | ((with_reducible refine mk_nn ?_); refine n_icmp_ne (tgt := 68) dX11_fails_61 (by decide) (by omega) (by omega) (fun h61 => ?_) (fun h61 => ?_)) | refine e_icmp_ne (tgt := 68) dX11_fails_61 (by decide) (fun h61 => ?_) (fun h61 => ?_)
          · try first | contradiction | omega
            all_goals
              refine e_iconst (v := nI 0) dX11_fails_68 rfl ?_
              first | refine x_V3 (M' := mX11_goesOver) dX11_fails_69 ml_X11_168 ok_X11_goesOver (by decide) rfl im_X11_goesOver se_X11_goesOver (ct_goesOver1 ‹_› iv2 hm2 (by omega) hcu) (Nat.le_of_ble_eq_true rfl) (by decide) (Nat.le_of_ble_eq_true rfl) ?_ | refine x_V3 (M' := mX11_goesOver) dX11_fails_69 ml_X11_168 ok_X11_goesOver (by decide) rfl im_X11_goesOver se_X11_goesOver (ct_goesOver0 ‹_› iv2 hm2 (by omega) hcu) (Nat.le_of_ble_eq_true rfl) (by decide) (Nat.le_of_ble_eq_true rfl) ?_
              refine e_goto (tgt := 76) dX11_fails_72 (by decide) ?_
              refine e_istore dX11_fails_76 (Nat.le_of_ble_eq_true rfl) rfl ?_
              refine e_aload_n dX11_fails_78 rfl rfl ?_
              refine e_getR dX11_fails_79 fl_X11_7 rfl (by assumption) ?_
              refine e_iload_n dX11_fails_82 rfl rfl ?_
              refine e_bipush (v := nI 7) dX11_fails_83 rfl ?_
              first | ((with_reducible refine mk_nn ?_); refine n_iadd dX11_fails_85 ?_) | refine e_iadd dX11_fails_85 ?_
              refine e_iload dX11_fails_86 rfl ?_
              first | ((with_reducible refine mk_ll ?_); refine m_if_ge (tgt := 95) dX11_fails_88 (by decide) (by omega) (by omega) (fun h88 => ?_) (fun h88 => ?_)) | ((with_reducible refine mk_lc ?_); refine l_if_ge (tgt := 95) dX11_fails_88 (by decide) (fun h88 => ?_) (fun h88 => ?_)) | ((with_reducible refine mk_n ?_); refine n_if_ge (tgt := 95) dX11_fails_88 (by decide) (by omega) (fun h88 => ?_) (fun h88 => ?_)) | refine e_if_ge (tgt := 95) dX11_fails_88 (by decide) (fun h88 => ?_) (fun h88 => ?_)
              · try first | contradiction | omega
                all_goals
                  refine e_iconst (v := nI 1) dX11_fails_95 rfl ?_
                  first | ((with_reducible refine mk_stw ?_); refine e_stw dX11_fails_96 (by omega) ?_) | refine e_iast _ dX11_fails_96 ⟨by decide, by decide⟩ rfl rfl (by simp only [lenK]; omega) ?_
                  refine e_ret none rfl (r_void dX11_fails_97 rfl) ?_
                  refine xq rfl rfl rfl ?_ rfl rfl
                  unfold faiW
                  repeat' split
                  all_goals first | rfl | (exfalso; omega)
              · try first | contradiction | omega
                all_goals
                  refine e_iconst (v := nI 0) dX11_fails_91 rfl ?_
                  refine e_goto (tgt := 96) dX11_fails_92 (by decide) ?_
                  first | ((with_reducible refine mk_stw ?_); refine e_stw dX11_fails_96 (by omega) ?_) | refine e_iast _ dX11_fails_96 ⟨by decide, by decide⟩ rfl rfl (by simp only [lenK]; omega) ?_
                  refine e_ret none rfl (r_void dX11_fails_97 rfl) ?_
                  refine xq rfl rfl rfl ?_ rfl rfl
                  unfold faiW
                  repeat' split
                  all_goals first | rfl | (exfalso; omega)
          · try first | contradiction | omega
            all_goals
              refine e_iconst (v := nI 1) dX11_fails_64 rfl ?_
              refine e_goto (tgt := 69) dX11_fails_65 (by decide) ?_
              first | refine x_V3 (M' := mX11_goesOver) dX11_fails_69 ml_X11_168 ok_X11_goesOver (by decide) rfl im_X11_goesOver se_X11_goesOver (ct_goesOver1 ‹_› iv2 hm2 (by omega) hcu) (Nat.le_of_ble_eq_true rfl) (by decide) (Nat.le_of_ble_eq_true rfl) ?_ | refine x_V3 (M' := mX11_goesOver) dX11_fails_69 ml_X11_168 ok_X11_goesOver (by decide) rfl im_X11_goesOver se_X11_goesOver (ct_goesOver0 ‹_› iv2 hm2 (by omega) hcu) (Nat.le_of_ble_eq_true rfl) (by decide) (Nat.le_of_ble_eq_true rfl) ?_
              refine e_goto (tgt := 76) dX11_fails_72 (by decide) ?_
              refine e_istore dX11_fails_76 (Nat.le_of_ble_eq_true rfl) rfl ?_
              refine e_aload_n dX11_fails_78 rfl rfl ?_
              refine e_getR dX11_fails_79 fl_X11_7 rfl (by assumption) ?_
              refine e_iload_n dX11_fails_82 rfl rfl ?_
              refine e_bipush (v := nI 7) dX11_fails_83 rfl ?_
              first | ((with_reducible refine mk_nn ?_); refine n_iadd dX11_fails_85 ?_) | refine e_iadd dX11_fails_85 ?_
              refine e_iload dX11_fails_86 rfl ?_
              first | ((with_reducible refine mk_ll ?_); refine m_if_ge (tgt := 95) dX11_fails_88 (by decide) (by omega) (by omega) (fun h88 => ?_) (fun h88 => ?_)) | ((with_reducible refine mk_lc ?_); refine l_if_ge (tgt := 95) dX11_fails_88 (by decide) (fun h88 => ?_) (fun h88 => ?_)) | ((with_reducible refine mk_n ?_); refine n_if_ge (tgt := 95) dX11_fails_88 (by decide) (by omega) (fun h88 => ?_) (fun h88 => ?_)) | refine e_if_ge (tgt := 95) dX11_fails_88 (by decide) (fun h88 => ?_) (fun h88 => ?_)
              · try first | contradiction | omega
                all_goals
                  refine e_iconst (v := nI 1) dX11_fails_95 rfl ?_
                  first | ((with_reducible refine mk_stw ?_); refine e_stw dX11_fails_96 (by omega) ?_) | refine e_iast _ dX11_fails_96 ⟨by decide, by decide⟩ rfl rfl (by simp only [lenK]; omega) ?_
                  refine e_ret none rfl (r_void dX11_fails_97 rfl) ?_
                  refine xq rfl rfl rfl ?_ rfl rfl
                  unfold faiW
                  repeat' split
                  all_goals first | rfl | (exfalso; omega)
              · try first | contradiction | omega
                all_goals
                  refine e_iconst (v := nI 0) dX11_fails_91 rfl ?_
                  refine e_goto (tgt := 96) dX11_fails_92 (by decide) ?_
                  first | ((with_reducible refine mk_stw ?_); refine e_stw dX11_fails_96 (by omega) ?_) | refine e_iast _ dX11_fails_96 ⟨by decide, by decide⟩ rfl rfl (by simp only [lenK]; omega) ?_
                  refine e_ret none rfl (r_void dX11_fails_97 rfl) ?_
                  refine xq rfl rfl rfl ?_ rfl rfl
                  unfold faiW
                  repeat' split
                  all_goals first | rfl | (exfalso; omega)
      · try first | contradiction | omega
        all_goals
          refine e_iload_n dX11_fails_51 rfl rfl ?_
          refine e_iconst (v := nI 4) dX11_fails_52 rfl ?_
          first | ((with_reducible refine mk_mo ?_); refine p_icmp_ne (tgt := 75) dX11_fails_53 (by decide) (fun h53 => ?_) (fun h53 => ?_)) | ((with_reducible refine mk_ms ?_); refine s_icmp_ne (tgt := 75) dX11_fails_53 (by decide) (by omega) (fun h53 => ?_) (fun h53 => ?_)) | ((with_reducible refine mk_mn ?_); refine q_icmp_ne (tgt := 75) dX11_fails_53 (by decide) (by omega) (fun h53 => ?_) (fun h53 => ?_)) | ((with_reducible refine mk_nn ?_); refine n_icmp_ne (tgt := 75) dX11_fails_53 (by decide) (by omega) (by omega) (fun h53 => ?_) (fun h53 => ?_)) | refine e_icmp_ne (tgt := 75) dX11_fails_53 (by decide) (fun h53 => ?_) (fun h53 => ?_)
          · try first | contradiction | omega
            all_goals
              refine e_iconst (v := nI 0) dX11_fails_75 rfl ?_
              refine e_istore dX11_fails_76 (Nat.le_of_ble_eq_true rfl) rfl ?_
              refine e_aload_n dX11_fails_78 rfl rfl ?_
              refine e_getR dX11_fails_79 fl_X11_7 rfl (by assumption) ?_
              refine e_iload_n dX11_fails_82 rfl rfl ?_
              refine e_bipush (v := nI 7) dX11_fails_83 rfl ?_
              first | ((with_reducible refine mk_nn ?_); refine n_iadd dX11_fails_85 ?_) | refine e_iadd dX11_fails_85 ?_
              refine e_iload dX11_fails_86 rfl ?_
              first | ((with_reducible refine mk_ll ?_); refine m_if_ge (tgt := 95) dX11_fails_88 (by decide) (by omega) (by omega) (fun h88 => ?_) (fun h88 => ?_)) | ((with_reducible refine mk_lc ?_); refine l_if_ge (tgt := 95) dX11_fails_88 (by decide) (fun h88 => ?_) (fun h88 => ?_)) | ((with_reducible refine mk_n ?_); refine n_if_ge (tgt := 95) dX11_fails_88 (by decide) (by omega) (fun h88 => ?_) (fun h88 => ?_)) | refine e_if_ge (tgt := 95) dX11_fails_88 (by decide) (fun h88 => ?_) (fun h88 => ?_)
              · try first | contradiction | omega
                all_goals
                  refine e_iconst (v := nI 1) dX11_fails_95 rfl ?_
                  first | ((with_reducible refine mk_stw ?_); refine e_stw dX11_fails_96 (by omega) ?_) | refine e_iast _ dX11_fails_96 ⟨by decide, by decide⟩ rfl rfl (by simp only [lenK]; omega) ?_
                  refine e_ret none rfl (r_void dX11_fails_97 rfl) ?_
                  refine xq rfl rfl rfl ?_ rfl rfl
                  unfold faiW
                  repeat' split
                  all_goals first | rfl | (exfalso; omega)
              · try first | contradiction | omega
                all_goals
                  refine e_iconst (v := nI 0) dX11_fails_91 rfl ?_
                  refine e_goto (tgt := 96) dX11_fails_92 (by decide) ?_
                  first | ((with_reducible refine mk_stw ?_); refine e_stw dX11_fails_96 (by omega) ?_) | refine e_iast _ dX11_fails_96 ⟨by decide, by decide⟩ rfl rfl (by simp only [lenK]; omega) ?_
                  refine e_ret none rfl (r_void dX11_fails_97 rfl) ?_
                  refine xq rfl rfl rfl ?_ rfl rfl
                  unfold faiW
                  repeat' split
                  all_goals first | rfl | (exfalso; omega)
          · try first | contradiction | omega
            all_goals
              refine e_aload_n dX11_fails_56 rfl rfl ?_
              refine e_iload_n dX11_fails_57 rfl rfl ?_
              refine e_iload_n dX11_fails_58 rfl rfl ?_
              refine e_iload_n dX11_fails_59 rfl rfl ?_
              refine e_iconst (v := nI 4) dX11_fails_60 rfl ?_
              first | ((with_reducible refine mk_mo ?_); refine p_icmp_ne (tgt := 68) dX11_fails_61 (by decide) (fun h61 => ?_) (fun h61 => ?_)) | ((with_reducible refine mk_ms ?_); refine s_icmp_ne (tgt := 68) dX11_fails_61 (by decide) (by omega) (fun h61 => ?_) (fun h61 => ?_)) | ((with_reducible refine mk_mn ?_); refine q_icmp_ne (tgt := 68) dX11_fails_61 (by decide) (by omega) (fun h61 => ?_) (fun h61 => ?_)) | ((with_reducible refine mk_nn ?_); refine n_icmp_ne (tgt := 68) dX11_fails_61 (by decide) (by omega) (by omega) (fun h61 => ?_) (fun h61 => ?_)) | refine e_icmp_ne (tgt := 68) dX11_fails_61 (by decide) (fun h61 => ?_) (fun h61 => ?_)
              · try first | contradiction | omega
                all_goals
                  refine e_iconst (v := nI 0) dX11_fails_68 rfl ?_
                  first | refine x_V3 (M' := mX11_goesOver) dX11_fails_69 ml_X11_168 ok_X11_goesOver (by decide) rfl im_X11_goesOver se_X11_goesOver (ct_goesOver1 ‹_› iv2 hm2 (by omega) hcu) (Nat.le_of_ble_eq_true rfl) (by decide) (Nat.le_of_ble_eq_true rfl) ?_ | refine x_V3 (M' := mX11_goesOver) dX11_fails_69 ml_X11_168 ok_X11_goesOver (by decide) rfl im_X11_goesOver se_X11_goesOver (ct_goesOver0 ‹_› iv2 hm2 (by omega) hcu) (Nat.le_of_ble_eq_true rfl) (by decide) (Nat.le_of_ble_eq_true rfl) ?_
                  refine e_goto (tgt := 76) dX11_fails_72 (by decide) ?_
                  refine e_istore dX11_fails_76 (Nat.le_of_ble_eq_true rfl) rfl ?_
                  refine e_aload_n dX11_fails_78 rfl rfl ?_
                  refine e_getR dX11_fails_79 fl_X11_7 rfl (by assumption) ?_
                  refine e_iload_n dX11_fails_82 rfl rfl ?_
                  refine e_bipush (v := nI 7) dX11_fails_83 rfl ?_
                  first | ((with_reducible refine mk_nn ?_); refine n_iadd dX11_fails_85 ?_) | refine e_iadd dX11_fails_85 ?_
                  refine e_iload dX11_fails_86 rfl ?_
                  first | ((with_reducible refine mk_ll ?_); refine m_if_ge (tgt := 95) dX11_fails_88 (by decide) (by omega) (by omega) (fun h88 => ?_) (fun h88 => ?_)) | ((with_reducible refine mk_lc ?_); refine l_if_ge (tgt := 95) dX11_fails_88 (by decide) (fun h88 => ?_) (fun h88 => ?_)) | ((with_reducible refine mk_n ?_); refine n_if_ge (tgt := 95) dX11_fails_88 (by decide) (by omega) (fun h88 => ?_) (fun h88 => ?_)) | refine e_if_ge (tgt := 95) dX11_fails_88 (by decide) (fun h88 => ?_) (fun h88 => ?_)
                  · try first | contradiction | omega
                    all_goals
                      refine e_iconst (v := nI 1) dX11_fails_95 rfl ?_
                      first | ((with_reducible refine mk_stw ?_); refine e_stw dX11_fails_96 (by omega) ?_) | refine e_iast _ dX11_fails_96 ⟨by decide, by decide⟩ rfl rfl (by simp only [lenK]; omega) ?_
                      refine e_ret none rfl (r_void dX11_fails_97 rfl) ?_
                      refine xq rfl rfl rfl ?_ rfl rfl
                      unfold faiW
                      repeat' split
                      all_goals first | rfl | (exfalso; omega)
                  · try first | contradiction | omega
                    all_goals
                      refine e_iconst (v := nI 0) dX11_fails_91 rfl ?_
                      refine e_goto (tgt := 96) dX11_fails_92 (by decide) ?_
                      first | ((with_reducible refine mk_stw ?_); refine e_stw dX11_fails_96 (by omega) ?_) | refine e_iast _ dX11_fails_96 ⟨by decide, by decide⟩ rfl rfl (by simp only [lenK]; omega) ?_
                      refine e_ret none rfl (r_void dX11_fails_97 rfl) ?_
                      refine xq rfl rfl rfl ?_ rfl rfl
                      unfold faiW
                      repeat' split
                      all_goals first | rfl | (exfalso; omega)
              · try first | contradiction | omega
                all_goals
                  refine e_iconst (v := nI 1) dX11_fails_64 rfl ?_
                  refine e_goto (tgt := 69) dX11_fails_65 (by decide) ?_
                  first | refine x_V3 (M' := mX11_goesOver) dX11_fails_69 ml_X11_168 ok_X11_goesOver (by decide) rfl im_X11_goesOver se_X11_goesOver (ct_goesOver1 ‹_› iv2 hm2 (by omega) hcu) (Nat.le_of_ble_eq_true rfl) (by decide) (Nat.le_of_ble_eq_true rfl) ?_ | refine x_V3 (M' := mX11_goesOver) dX11_fails_69 ml_X11_168 ok_X11_goesOver (by decide) rfl im_X11_goesOver se_X11_goesOver (ct_goesOver0 ‹_› iv2 hm2 (by omega) hcu) (Nat.le_of_ble_eq_true rfl) (by decide) (Nat.le_of_ble_eq_true rfl) ?_
                  refine e_goto (tgt := 76) dX11_fails_72 (by decide) ?_
                  refine e_istore dX11_fails_76 (Nat.le_of_ble_eq_true rfl) rfl ?_
                  refine e_aload_n dX11_fails_78 rfl rfl ?_
                  refine e_getR dX11_fails_79 fl_X11_7 rfl (by assumption) ?_
                  refine e_iload_n dX11_fails_82 rfl rfl ?_
                  refine e_bipush (v := nI 7) dX11_fails_83 rfl ?_
                  first | ((with_reducible refine mk_nn ?_); refine n_iadd dX11_fails_85 ?_) | refine e_iadd dX11_fails_85 ?_
                  refine e_iload dX11_fails_86 rfl ?_
                  first | ((with_reducible refine mk_ll ?_); refine m_if_ge (tgt := 95) dX11_fails_88 (by decide) (by omega) (by omega) (fun h88 => ?_) (fun h88 => ?_)) | ((with_reducible refine mk_lc ?_); refine l_if_ge (tgt := 95) dX11_fails_88 (by decide) (fun h88 => ?_) (fun h88 => ?_)) | ((with_reducible refine mk_n ?_); refine n_if_ge (tgt := 95) dX11_fails_88 (by decide) (by omega) (fun h88 => ?_) (fun h88 => ?_)) | refine e_if_ge (tgt := 95) dX11_fails_88 (by decide) (fun h88 => ?_) (fun h88 => ?_)
                  · try first | contradiction | omega
                    all_goals
                      refine e_iconst (v := nI 1) dX11_fails_95 rfl ?_
                      first | ((with_reducible refine mk_stw ?_); refine e_stw dX11_fails_96 (by omega) ?_) | refine e_iast _ dX11_fails_96 ⟨by decide, by decide⟩ rfl rfl (by simp only [lenK]; omega) ?_
                      refine e_ret none rfl (r_void dX11_fails_97 rfl) ?_
                      refine xq rfl rfl rfl ?_ rfl rfl
                      unfold faiW
                      repeat' split
                      all_goals first | rfl | (exfalso; omega)
                  · try first | contradiction | omega
                    all_goals
                      refine e_iconst (v := nI 0) dX11_fails_91 rfl ?_
                      refine e_goto (tgt := 96) dX11_fails_92 (by decide) ?_
                      first | ((with_reducible refine mk_stw ?_); refine e_stw dX11_fails_96 (by omega) ?_) | refine e_iast _ dX11_fails_96 ⟨by decide, by decide⟩ rfl rfl (by simp only [lenK]; omega) ?_
                      refine e_ret none rfl (r_void dX11_fails_97 rfl) ?_
                      refine xq rfl rfl rfl ?_ rfl rfl
                      unfold faiW
                      repeat' split
                      all_goals first | rfl | (exfalso; omega)
  · try first | contradiction | omega
    all_goals
      refine e_aload_n dX11_fails_40 rfl rfl ?_
      refine e_iload_n dX11_fails_41 rfl rfl ?_
      refine e_iload_n dX11_fails_42 rfl rfl ?_
      refine y_V2 (M' := mX11_catchesUp) dX11_fails_43 ml_X11_176 ok_X11_catchesUp (by decide) rfl im_X11_catchesUp se_X11_catchesUp (ct_X11_catchesUp ‹_› iv2 hm2 (by omega)) (Nat.le_of_ble_eq_true rfl) (by decide) (Nat.le_of_ble_eq_true rfl) ?_
      refine e_iload_n dX11_fails_46 rfl rfl ?_
      refine e_iconst (v := nI 1) dX11_fails_47 rfl ?_
      first | ((with_reducible refine mk_mo ?_); refine p_icmp_eq (tgt := 56) dX11_fails_48 (by decide) (fun h48 => ?_) (fun h48 => ?_)) | ((with_reducible refine mk_ms ?_); refine s_icmp_eq (tgt := 56) dX11_fails_48 (by decide) (by omega) (fun h48 => ?_) (fun h48 => ?_)) | ((with_reducible refine mk_mn ?_); refine q_icmp_eq (tgt := 56) dX11_fails_48 (by decide) (by omega) (fun h48 => ?_) (fun h48 => ?_)) | ((with_reducible refine mk_nn ?_); refine n_icmp_eq (tgt := 56) dX11_fails_48 (by decide) (by omega) (by omega) (fun h48 => ?_) (fun h48 => ?_)) | refine e_icmp_eq (tgt := 56) dX11_fails_48 (by decide) (fun h48 => ?_) (fun h48 => ?_)
      · try first | contradiction | omega
        all_goals
          refine e_aload_n dX11_fails_56 rfl rfl ?_
          refine e_iload_n dX11_fails_57 rfl rfl ?_
          refine e_iload_n dX11_fails_58 rfl rfl ?_
          refine e_iload_n dX11_fails_59 rfl rfl ?_
          refine e_iconst (v := nI 4) dX11_fails_60 rfl ?_
          first | ((with_reducible refine mk_mo ?_); refine p_icmp_ne (tgt := 68) dX11_fails_61 (by decide) (fun h61 => ?_) (fun h61 => ?_)) | ((with_reducible refine mk_ms ?_); refine s_icmp_ne (tgt := 68) dX11_fails_61 (by decide) (by omega) (fun h61 => ?_) (fun h61 => ?_)) | ((with_reducible refine mk_mn ?_); refine q_icmp_ne (tgt := 68) dX11_fails_61 (by decide) (by omega) (fun h61 => ?_) (fun h61 => ?_)) | ((with_reducible refine mk_nn ?_); refine n_icmp_ne (tgt := 68) dX11_fails_61 (by decide) (by omega) (by omega) (fun h61 => ?_) (fun h61 => ?_)) | refine e_icmp_ne (tgt := 68) dX11_fails_61 (by decide) (fun h61 => ?_) (fun h61 => ?_)
          · try first | contradiction | omega
            all_goals
              refine e_iconst (v := nI 0) dX11_fails_68 rfl ?_
              first | refine x_V3 (M' := mX11_goesOver) dX11_fails_69 ml_X11_168 ok_X11_goesOver (by decide) rfl im_X11_goesOver se_X11_goesOver (ct_goesOver1 ‹_› iv2 hm2 (by omega) hcu) (Nat.le_of_ble_eq_true rfl) (by decide) (Nat.le_of_ble_eq_true rfl) ?_ | refine x_V3 (M' := mX11_goesOver) dX11_fails_69 ml_X11_168 ok_X11_goesOver (by decide) rfl im_X11_goesOver se_X11_goesOver (ct_goesOver0 ‹_› iv2 hm2 (by omega) hcu) (Nat.le_of_ble_eq_true rfl) (by decide) (Nat.le_of_ble_eq_true rfl) ?_
              refine e_goto (tgt := 76) dX11_fails_72 (by decide) ?_
              refine e_istore dX11_fails_76 (Nat.le_of_ble_eq_true rfl) rfl ?_
              refine e_aload_n dX11_fails_78 rfl rfl ?_
              refine e_getR dX11_fails_79 fl_X11_7 rfl (by assumption) ?_
              refine e_iload_n dX11_fails_82 rfl rfl ?_
              refine e_bipush (v := nI 7) dX11_fails_83 rfl ?_
              first | ((with_reducible refine mk_nn ?_); refine n_iadd dX11_fails_85 ?_) | refine e_iadd dX11_fails_85 ?_
              refine e_iload dX11_fails_86 rfl ?_
              first | ((with_reducible refine mk_ll ?_); refine m_if_ge (tgt := 95) dX11_fails_88 (by decide) (by omega) (by omega) (fun h88 => ?_) (fun h88 => ?_)) | ((with_reducible refine mk_lc ?_); refine l_if_ge (tgt := 95) dX11_fails_88 (by decide) (fun h88 => ?_) (fun h88 => ?_)) | ((with_reducible refine mk_n ?_); refine n_if_ge (tgt := 95) dX11_fails_88 (by decide) (by omega) (fun h88 => ?_) (fun h88 => ?_)) | refine e_if_ge (tgt := 95) dX11_fails_88 (by decide) (fun h88 => ?_) (fun h88 => ?_)
              · try first | contradiction | omega
                all_goals
                  refine e_iconst (v := nI 1) dX11_fails_95 rfl ?_
                  first | ((with_reducible refine mk_stw ?_); refine e_stw dX11_fails_96 (by omega) ?_) | refine e_iast _ dX11_fails_96 ⟨by decide, by decide⟩ rfl rfl (by simp only [lenK]; omega) ?_
                  refine e_ret none rfl (r_void dX11_fails_97 rfl) ?_
                  refine xq rfl rfl rfl ?_ rfl rfl
                  unfold faiW
                  repeat' split
                  all_goals first | rfl | (exfalso; omega)
              · try first | contradiction | omega
                all_goals
                  refine e_iconst (v := nI 0) dX11_fails_91 rfl ?_
                  refine e_goto (tgt := 96) dX11_fails_92 (by decide) ?_
                  first | ((with_reducible refine mk_stw ?_); refine e_stw dX11_fails_96 (by omega) ?_) | refine e_iast _ dX11_fails_96 ⟨by decide, by decide⟩ rfl rfl (by simp only [lenK]; omega) ?_
                  refine e_ret none rfl (r_void dX11_fails_97 rfl) ?_
                  refine xq rfl rfl rfl ?_ rfl rfl
                  unfold faiW
                  repeat' split
                  all_goals first | rfl | (exfalso; omega)
          · try first | contradiction | omega
            all_goals
              refine e_iconst (v := nI 1) dX11_fails_64 rfl ?_
              refine e_goto (tgt := 69) dX11_fails_65 (by decide) ?_
              first | refine x_V3 (M' := mX11_goesOver) dX11_fails_69 ml_X11_168 ok_X11_goesOver (by decide) rfl im_X11_goesOver se_X11_goesOver (ct_goesOver1 ‹_› iv2 hm2 (by omega) hcu) (Nat.le_of_ble_eq_true rfl) (by decide) (Nat.le_of_ble_eq_true rfl) ?_ | refine x_V3 (M' := mX11_goesOver) dX11_fails_69 ml_X11_168 ok_X11_goesOver (by decide) rfl im_X11_goesOver se_X11_goesOver (ct_goesOver0 ‹_› iv2 hm2 (by omega) hcu) (Nat.le_of_ble_eq_true rfl) (by decide) (Nat.le_of_ble_eq_true rfl) ?_
              refine e_goto (tgt := 76) dX11_fails_72 (by decide) ?_
              refine e_istore dX11_fails_76 (Nat.le_of_ble_eq_true rfl) rfl ?_
              refine e_aload_n dX11_fails_78 rfl rfl ?_
              refine e_getR dX11_fails_79 fl_X11_7 rfl (by assumption) ?_
              refine e_iload_n dX11_fails_82 rfl rfl ?_
              refine e_bipush (v := nI 7) dX11_fails_83 rfl ?_
              first | ((with_reducible refine mk_nn ?_); refine n_iadd dX11_fails_85 ?_) | refine e_iadd dX11_fails_85 ?_
              refine e_iload dX11_fails_86 rfl ?_
              first | ((with_reducible refine mk_ll ?_); refine m_if_ge (tgt := 95) dX11_fails_88 (by decide) (by omega) (by omega) (fun h88 => ?_) (fun h88 => ?_)) | ((with_reducible refine mk_lc ?_); refine l_if_ge (tgt := 95) dX11_fails_88 (by decide) (fun h88 => ?_) (fun h88 => ?_)) | ((with_reducible refine mk_n ?_); refine n_if_ge (tgt := 95) dX11_fails_88 (by decide) (by omega) (fun h88 => ?_) (fun h88 => ?_)) | refine e_if_ge (tgt := 95) dX11_fails_88 (by decide) (fun h88 => ?_) (fun h88 => ?_)
              · try first | contradiction | omega
                all_goals
                  refine e_iconst (v := nI 1) dX11_fails_95 rfl ?_
                  first | ((with_reducible refine mk_stw ?_); refine e_stw dX11_fails_96 (by omega) ?_) | refine e_iast _ dX11_fails_96 ⟨by decide, by decide⟩ rfl rfl (by simp only [lenK]; omega) ?_
                  refine e_ret none rfl (r_void dX11_fails_97 rfl) ?_
                  refine xq rfl rfl rfl ?_ rfl rfl
                  unfold faiW
                  repeat' split
                  all_goals first | rfl | (exfalso; omega)
              · try first | contradiction | omega
                all_goals
                  refine e_iconst (v := nI 0) dX11_fails_91 rfl ?_
                  refine e_goto (tgt := 96) dX11_fails_92 (by decide) ?_
                  first | ((with_reducible refine mk_stw ?_); refine e_stw dX11_fails_96 (by omega) ?_) | refine e_iast _ dX11_fails_96 ⟨by decide, by decide⟩ rfl rfl (by simp only [lenK]; omega) ?_
                  refine e_ret none rfl (r_void dX11_fails_97 rfl) ?_
                  refine xq rfl rfl rfl ?_ rfl rfl
                  unfold faiW
                  repeat' split
                  all_goals first | rfl | (exfalso; omega)
      · try first | contradiction | omega
        all_goals
          refine e_iload_n dX11_fails_51 rfl rfl ?_
          refine e_iconst (v := nI 4) dX11_fails_52 rfl ?_
          first | ((with_reducible refine mk_mo ?_); refine p_icmp_ne (tgt := 75) dX11_fails_53 (by decide) (fun h53 => ?_) (fun h53 => ?_)) | ((with_reducible refine mk_ms ?_); refine s_icmp_ne (tgt := 75) dX11_fails_53 (by decide) (by omega) (fun h53 => ?_) (fun h53 => ?_)) | ((with_reducible refine mk_mn ?_); refine q_icmp_ne (tgt := 75) dX11_fails_53 (by decide) (by omega) (fun h53 => ?_) (fun h53 => ?_)) | ((with_reducible refine mk_nn ?_); refine n_icmp_ne (tgt := 75) dX11_fails_53 (by decide) (by omega) (by omega) (fun h53 => ?_) (fun h53 => ?_)) | refine e_icmp_ne (tgt := 75) dX11_fails_53 (by decide) (fun h53 => ?_) (fun h53 => ?_)
          · try first | contradiction | omega
            all_goals
              refine e_iconst (v := nI 0) dX11_fails_75 rfl ?_
              refine e_istore dX11_fails_76 (Nat.le_of_ble_eq_true rfl) rfl ?_
              refine e_aload_n dX11_fails_78 rfl rfl ?_
              refine e_getR dX11_fails_79 fl_X11_7 rfl (by assumption) ?_
              refine e_iload_n dX11_fails_82 rfl rfl ?_
              refine e_bipush (v := nI 7) dX11_fails_83 rfl ?_
              first | ((with_reducible refine mk_nn ?_); refine n_iadd dX11_fails_85 ?_) | refine e_iadd dX11_fails_85 ?_
              refine e_iload dX11_fails_86 rfl ?_
              first | ((with_reducible refine mk_ll ?_); refine m_if_ge (tgt := 95) dX11_fails_88 (by decide) (by omega) (by omega) (fun h88 => ?_) (fun h88 => ?_)) | ((with_reducible refine mk_lc ?_); refine l_if_ge (tgt := 95) dX11_fails_88 (by decide) (fun h88 => ?_) (fun h88 => ?_)) | ((with_reducible refine mk_n ?_); refine n_if_ge (tgt := 95) dX11_fails_88 (by decide) (by omega) (fun h88 => ?_) (fun h88 => ?_)) | refine e_if_ge (tgt := 95) dX11_fails_88 (by decide) (fun h88 => ?_) (fun h88 => ?_)
              · try first | contradiction | omega
                all_goals
                  refine e_iconst (v := nI 1) dX11_fails_95 rfl ?_
                  first | ((with_reducible refine mk_stw ?_); refine e_stw dX11_fails_96 (by omega) ?_) | refine e_iast _ dX11_fails_96 ⟨by decide, by decide⟩ rfl rfl (by simp only [lenK]; omega) ?_
                  refine e_ret none rfl (r_void dX11_fails_97 rfl) ?_
                  refine xq rfl rfl rfl ?_ rfl rfl
                  unfold faiW
                  repeat' split
                  all_goals first | rfl | (exfalso; omega)
              · try first | contradiction | omega
                all_goals
                  refine e_iconst (v := nI 0) dX11_fails_91 rfl ?_
                  refine e_goto (tgt := 96) dX11_fails_92 (by decide) ?_
                  first | ((with_reducible refine mk_stw ?_); refine e_stw dX11_fails_96 (by omega) ?_) | refine e_iast _ dX11_fails_96 ⟨by decide, by decide⟩ rfl rfl (by simp only [lenK]; omega) ?_
                  refine e_ret none rfl (r_void dX11_fails_97 rfl) ?_
                  refine xq rfl rfl rfl ?_ rfl rfl
                  unfold faiW
                  repeat' split
                  all_goals first | rfl | (exfalso; omega)
          · try first | contradiction | omega
            all_goals
              refine e_aload_n dX11_fails_56 rfl rfl ?_
              refine e_iload_n dX11_fails_57 rfl rfl ?_
              refine e_iload_n dX11_fails_58 rfl rfl ?_
              refine e_iload_n dX11_fails_59 rfl rfl ?_
              refine e_iconst (v := nI 4) dX11_fails_60 rfl ?_
              first | ((with_reducible refine mk_mo ?_); refine p_icmp_ne (tgt := 68) dX11_fails_61 (by decide) (fun h61 => ?_) (fun h61 => ?_)) | ((with_reducible refine mk_ms ?_); refine s_icmp_ne (tgt := 68) dX11_fails_61 (by decide) (by omega) (fun h61 => ?_) (fun h61 => ?_)) | ((with_reducible refine mk_mn ?_); refine q_icmp_ne (tgt := 68) dX11_fails_61 (by decide) (by omega) (fun h61 => ?_) (fun h61 => ?_)) | ((with_reducible refine mk_nn ?_); refine n_icmp_ne (tgt := 68) dX11_fails_61 (by decide) (by omega) (by omega) (fun h61 => ?_) (fun h61 => ?_)) | refine e_icmp_ne (tgt := 68) dX11_fails_61 (by decide) (fun h61 => ?_) (fun h61 => ?_)
              · try first | contradiction | omega
                all_goals
                  refine e_iconst (v := nI 0) dX11_fails_68 rfl ?_
                  first | refine x_V3 (M' := mX11_goesOver) dX11_fails_69 ml_X11_168 ok_X11_goesOver (by decide) rfl im_X11_goesOver se_X11_goesOver (ct_goesOver1 ‹_› iv2 hm2 (by omega) hcu) (Nat.le_of_ble_eq_true rfl) (by decide) (Nat.le_of_ble_eq_true rfl) ?_ | refine x_V3 (M' := mX11_goesOver) dX11_fails_69 ml_X11_168 ok_X11_goesOver (by decide) rfl im_X11_goesOver se_X11_goesOver (ct_goesOver0 ‹_› iv2 hm2 (by omega) hcu) (Nat.le_of_ble_eq_true rfl) (by decide) (Nat.le_of_ble_eq_true rfl) ?_
                  refine e_goto (tgt := 76) dX11_fails_72 (by decide) ?_
                  refine e_istore dX11_fails_76 (Nat.le_of_ble_eq_true rfl) rfl ?_
                  refine e_aload_n dX11_fails_78 rfl rfl ?_
                  refine e_getR dX11_fails_79 fl_X11_7 rfl (by assumption) ?_
                  refine e_iload_n dX11_fails_82 rfl rfl ?_
                  refine e_bipush (v := nI 7) dX11_fails_83 rfl ?_
                  first | ((with_reducible refine mk_nn ?_); refine n_iadd dX11_fails_85 ?_) | refine e_iadd dX11_fails_85 ?_
                  refine e_iload dX11_fails_86 rfl ?_
                  first | ((with_reducible refine mk_ll ?_); refine m_if_ge (tgt := 95) dX11_fails_88 (by decide) (by omega) (by omega) (fun h88 => ?_) (fun h88 => ?_)) | ((with_reducible refine mk_lc ?_); refine l_if_ge (tgt := 95) dX11_fails_88 (by decide) (fun h88 => ?_) (fun h88 => ?_)) | ((with_reducible refine mk_n ?_); refine n_if_ge (tgt := 95) dX11_fails_88 (by decide) (by omega) (fun h88 => ?_) (fun h88 => ?_)) | refine e_if_ge (tgt := 95) dX11_fails_88 (by decide) (fun h88 => ?_) (fun h88 => ?_)
                  · try first | contradiction | omega
                    all_goals
                      refine e_iconst (v := nI 1) dX11_fails_95 rfl ?_
                      first | ((with_reducible refine mk_stw ?_); refine e_stw dX11_fails_96 (by omega) ?_) | refine e_iast _ dX11_fails_96 ⟨by decide, by decide⟩ rfl rfl (by simp only [lenK]; omega) ?_
                      refine e_ret none rfl (r_void dX11_fails_97 rfl) ?_
                      refine xq rfl rfl rfl ?_ rfl rfl
                      unfold faiW
                      repeat' split
                      all_goals first | rfl | (exfalso; omega)
                  · try first | contradiction | omega
                    all_goals
                      refine e_iconst (v := nI 0) dX11_fails_91 rfl ?_
                      refine e_goto (tgt := 96) dX11_fails_92 (by decide) ?_
                      first | ((with_reducible refine mk_stw ?_); refine e_stw dX11_fails_96 (by omega) ?_) | refine e_iast _ dX11_fails_96 ⟨by decide, by decide⟩ rfl rfl (by simp only [lenK]; omega) ?_
                      refine e_ret none rfl (r_void dX11_fails_97 rfl) ?_
                      refine xq rfl rfl rfl ?_ rfl rfl
                      unfold faiW
                      repeat' split
                      all_goals first | rfl | (exfalso; omega)
              · try first | contradiction | omega
                all_goals
                  refine e_iconst (v := nI 1) dX11_fails_64 rfl ?_
                  refine e_goto (tgt := 69) dX11_fails_65 (by decide) ?_
                  first | refine x_V3 (M' := mX11_goesOver) dX11_fails_69 ml_X11_168 ok_X11_goesOver (by decide) rfl im_X11_goesOver se_X11_goesOver (ct_goesOver1 ‹_› iv2 hm2 (by omega) hcu) (Nat.le_of_ble_eq_true rfl) (by decide) (Nat.le_of_ble_eq_true rfl) ?_ | refine x_V3 (M' := mX11_goesOver) dX11_fails_69 ml_X11_168 ok_X11_goesOver (by decide) rfl im_X11_goesOver se_X11_goesOver (ct_goesOver0 ‹_› iv2 hm2 (by omega) hcu) (Nat.le_of_ble_eq_true rfl) (by decide) (Nat.le_of_ble_eq_true rfl) ?_
                  refine e_goto (tgt := 76) dX11_fails_72 (by decide) ?_
                  refine e_istore dX11_fails_76 (Nat.le_of_ble_eq_true rfl) rfl ?_
                  refine e_aload_n dX11_fails_78 rfl rfl ?_
                  refine e_getR dX11_fails_79 fl_X11_7 rfl (by assumption) ?_
                  refine e_iload_n dX11_fails_82 rfl rfl ?_
                  refine e_bipush (v := nI 7) dX11_fails_83 rfl ?_
                  first | ((with_reducible refine mk_nn ?_); refine n_iadd dX11_fails_85 ?_) | refine e_iadd dX11_fails_85 ?_
                  refine e_iload dX11_fails_86 rfl ?_
                  first | ((with_reducible refine mk_ll ?_); refine m_if_ge (tgt := 95) dX11_fails_88 (by decide) (by omega) (by omega) (fun h88 => ?_) (fun h88 => ?_)) | ((with_reducible refine mk_lc ?_); refine l_if_ge (tgt := 95) dX11_fails_88 (by decide) (fun h88 => ?_) (fun h88 => ?_)) | ((with_reducible refine mk_n ?_); refine n_if_ge (tgt := 95) dX11_fails_88 (by decide) (by omega) (fun h88 => ?_) (fun h88 => ?_)) | refine e_if_ge (tgt := 95) dX11_fails_88 (by decide) (fun h88 => ?_) (fun h88 => ?_)
                  · try first | contradiction | omega
                    all_goals
                      refine e_iconst (v := nI 1) dX11_fails_95 rfl ?_
                      first | ((with_reducible refine mk_stw ?_); refine e_stw dX11_fails_96 (by omega) ?_) | refine e_iast _ dX11_fails_96 ⟨by decide, by decide⟩ rfl rfl (by simp only [lenK]; omega) ?_
                      refine e_ret none rfl (r_void dX11_fails_97 rfl) ?_
                      refine xq rfl rfl rfl ?_ rfl rfl
                      unfold faiW
                      repeat' split
                      all_goals first | rfl | (exfalso; omega)
                  · try first | contradiction | omega
                    all_goals
                      refine e_iconst (v := nI 0) dX11_fails_91 rfl ?_
                      refine e_goto (tgt := 96) dX11_fails_92 (by decide) ?_
                      first | ((with_reducible refine mk_stw ?_); refine e_stw dX11_fails_96 (by omega) ?_) | refine e_iast _ dX11_fails_96 ⟨by decide, by decide⟩ rfl rfl (by simp only [lenK]; omega) ?_
                      refine e_ret none rfl (r_void dX11_fails_97 rfl) ?_
                      refine xq rfl rfl rfl ?_ rfl rfl
                      unfold faiW
                      repeat' split
                      all_goals first | rfl | (exfalso; omega)
def so2 (w : Nat → Nat) (m : Nat) : Nat → Nat := upN (upN w (8558 + 11) (w (8558 + 11) + 1)) (7694 + 72 * m + 9) (w (7694 + 72 * m + 9) + 1)
def so3 (w : Nat → Nat) (m : Nat) : Nat → Nat := if 0 < w (7694 + 72 * m + 10) then upN (so2 w m) (7694 + 72 * m + 10) (w (7694 + 72 * m + 10) - 1) else so2 w m
def sonW (w : Nat → Nat) (m : Nat) : Nat → Nat := if w (7694 + 72 * m + 10) = 1 then faiW (so3 w m) m else steW (so3 w m) m
def sonA (ai : FI) (w : Nat → Nat) (m : Nat) : FI := if w (7694 + 72 * m + 10) = 1 then ai else steA ai (so3 w m) m
theorem so3_fr {w : Nat → Nat} {m q : Nat} (h : q ≠ 8558 + 11) (h2 : q ≠ 7694 + 72 * m + 9) (h3 : q ≠ 7694 + 72 * m + 10) : so3 w m q = w q := by
  unfold so3 so2
  split <;> simp (disch := omega) only [upN_n]
theorem so3_Inv {w : Nat → Nat} (iv : Inv w) {m : Nat} (hm : m < w 3) : Inv (so3 w m) := by
  have hq := iv_mv iv hm
  have hmm := iv_mm iv
  have i1 : Inv (upN w (8558 + 11) (w (8558 + 11) + 1)) := Inv_fr (fun q hq => upN_n (by omega)) iv
  have i2 : Inv (so2 w m) := Inv_m8 i1 (by rw [upN_n (by omega)]; exact hm) 9 (by omega)
  unfold so3
  split
  · exact Inv_m8 i2 (by unfold so2; rw [upN_n (by omega), upN_n (by omega)]; exact hm) 10 (by omega)
  · exact i2
theorem ct_X11_stepsOnce {fi : FI} {fr : FR} {ai : FI} {ar : FR} {N : Nat} {w : Nat → Nat} (sm : SM fr) (iv : Inv w) {m : Nat} (hm : m < w 3) (hst : 1 ≤ w (7694 + 72 * m + 0) ∧ w (7694 + 72 * m + 0) ≤ 4) : CP mX11_stepsOnce 4 0 0 [.ref (rf 11 80), .int (nI (7694 + 72 * m))] fi fr (mW ai w) ar N (xQ none fi fr (mW (sonA ai w m) (sonW w m)) ar N) := by
  obtain ⟨sW, sA0, sK, sU, sC, sKC, sT, sCl⟩ := id sm
  have hq := iv_mv iv hm
  have h3 := iv_mm iv
  have iv3 := so3_Inv iv hm
  have hm3 : m < so3 w m 3 := by rw [so3_fr (by omega) (by omega) (by omega)]; exact hm
  have hs3 : so3 w m (7694 + 72 * m + 0) = w (7694 + 72 * m + 0) := so3_fr (by omega) (by omega) (by omega)
  have r10 : so2 w m (7694 + 72 * m + 10) = w (7694 + 72 * m + 10) := by unfold so2; rw [upN_n (by omega), upN_n (by omega)]
  change EV mX11_stepsOnce 4 0 0 0 [some (.ref (rf 11 80)), some (.int (nI (7694 + 72 * m))), none] [] fi fr (mW ai w) ar N (xQ none fi fr (mW (sonA ai w m) (sonW w m)) ar N)
  refine e_aload_n dX11_stepsOnce_0 rfl rfl ?_
  refine e_bipush (v := nI 11) dX11_stepsOnce_1 rfl ?_
  refine e_iconst (v := nI 1) dX11_stepsOnce_3 rfl ?_
  refine y_V2 (M' := mX11_counts) dX11_stepsOnce_4 ml_X11_97 ok_X11_counts (by decide) rfl im_X11_counts se_X11_counts (ct_X11_counts ‹_› (by omega)) (Nat.le_of_ble_eq_true rfl) (by decide) (Nat.le_of_ble_eq_true rfl) ?_
  refine e_aload_n dX11_stepsOnce_7 rfl rfl ?_
  refine e_getR dX11_stepsOnce_8 fl_X11_7 rfl (by assumption) ?_
  refine e_iload_n dX11_stepsOnce_11 rfl rfl ?_
  refine e_bipush (v := nI 9) dX11_stepsOnce_12 rfl ?_
  first | ((with_reducible refine mk_nn ?_); refine n_iadd dX11_stepsOnce_14 ?_) | refine e_iadd dX11_stepsOnce_14 ?_
  refine e_dup2 dX11_stepsOnce_15 rfl rfl ?_
  first | ((with_reducible refine mk_ldw ?_); refine e_ldw dX11_stepsOnce_16 (by omega) ?_) | refine e_iald _ dX11_stepsOnce_16 ⟨by decide, by decide⟩ rfl rfl (by simp only [lenK]; omega) ?_
  refine e_iconst (v := nI 1) dX11_stepsOnce_17 rfl ?_
  first | ((with_reducible refine mk_nn ?_); refine n_iadd dX11_stepsOnce_18 ?_) | refine e_iadd dX11_stepsOnce_18 ?_
  first | ((with_reducible refine mk_stw ?_); refine e_stw dX11_stepsOnce_19 (by omega) ?_) | refine e_iast _ dX11_stepsOnce_19 ⟨by decide, by decide⟩ rfl rfl (by simp only [lenK]; omega) ?_
  simp (disch := omega) only [upN_n]; change EV _ _ _ _ _ _ _ _ _ (mW ai (so2 w m)) _ _ _
  refine e_aload_n dX11_stepsOnce_20 rfl rfl ?_
  refine e_getR dX11_stepsOnce_21 fl_X11_7 rfl (by assumption) ?_
  refine e_iload_n dX11_stepsOnce_24 rfl rfl ?_
  refine e_bipush (v := nI 10) dX11_stepsOnce_25 rfl ?_
  first | ((with_reducible refine mk_nn ?_); refine n_iadd dX11_stepsOnce_27 ?_) | refine e_iadd dX11_stepsOnce_27 ?_
  first | ((with_reducible refine mk_ldw ?_); refine e_ldw dX11_stepsOnce_28 (by omega) ?_) | refine e_iald _ dX11_stepsOnce_28 ⟨by decide, by decide⟩ rfl rfl (by simp only [lenK]; omega) ?_
  rw [r10]
  refine e_iconst (v := nI 1) dX11_stepsOnce_29 rfl ?_
  first | ((with_reducible refine mk_mo ?_); refine p_icmp_ne (tgt := 37) dX11_stepsOnce_30 (by decide) (fun h30 => ?_) (fun h30 => ?_)) | ((with_reducible refine mk_ms ?_); refine s_icmp_ne (tgt := 37) dX11_stepsOnce_30 (by decide) (by omega) (fun h30 => ?_) (fun h30 => ?_)) | ((with_reducible refine mk_mn ?_); refine q_icmp_ne (tgt := 37) dX11_stepsOnce_30 (by decide) (by omega) (fun h30 => ?_) (fun h30 => ?_)) | ((with_reducible refine mk_nn ?_); refine n_icmp_ne (tgt := 37) dX11_stepsOnce_30 (by decide) (by omega) (by omega) (fun h30 => ?_) (fun h30 => ?_)) | refine e_icmp_ne (tgt := 37) dX11_stepsOnce_30 (by decide) (fun h30 => ?_) (fun h30 => ?_)
  · try first | contradiction | omega
    all_goals
      refine e_iconst (v := nI 0) dX11_stepsOnce_37 rfl ?_
      refine e_istore_n dX11_stepsOnce_38 rfl (Nat.le_of_ble_eq_true rfl) rfl ?_
      refine e_aload_n dX11_stepsOnce_39 rfl rfl ?_
      refine e_getR dX11_stepsOnce_40 fl_X11_7 rfl (by assumption) ?_
      refine e_iload_n dX11_stepsOnce_43 rfl rfl ?_
      refine e_bipush (v := nI 10) dX11_stepsOnce_44 rfl ?_
      first | ((with_reducible refine mk_nn ?_); refine n_iadd dX11_stepsOnce_46 ?_) | refine e_iadd dX11_stepsOnce_46 ?_
      first | ((with_reducible refine mk_ldw ?_); refine e_ldw dX11_stepsOnce_47 (by omega) ?_) | refine e_iald _ dX11_stepsOnce_47 ⟨by decide, by decide⟩ rfl rfl (by simp only [lenK]; omega) ?_
      rw [r10]
      first | ((with_reducible refine mk_ll ?_); refine m_if_le (tgt := 64) dX11_stepsOnce_48 (by decide) (by omega) (by omega) (fun h48 => ?_) (fun h48 => ?_)) | ((with_reducible refine mk_lc ?_); refine l_if_le (tgt := 64) dX11_stepsOnce_48 (by decide) (fun h48 => ?_) (fun h48 => ?_)) | ((with_reducible refine mk_n ?_); refine n_if_le (tgt := 64) dX11_stepsOnce_48 (by decide) (by omega) (fun h48 => ?_) (fun h48 => ?_)) | refine e_if_le (tgt := 64) dX11_stepsOnce_48 (by decide) (fun h48 => ?_) (fun h48 => ?_)
      · try first | contradiction | omega
        all_goals
          first | rw [show upN (so2 w m) (7694 + 72 * m + 10) (w (7694 + 72 * m + 10) - 1) = so3 w m from (if_pos (by omega)).symm] | rw [show so2 w m = so3 w m from (if_neg (by omega)).symm]
          refine e_iload_n dX11_stepsOnce_64 rfl rfl ?_
          first | ((with_reducible refine mk_b ?_); refine b_if_eq (tgt := 76) dX11_stepsOnce_65 (by decide) (fun h65 => ?_) (fun h65 => ?_)) | ((with_reducible refine mk_ll ?_); refine m_if_eq (tgt := 76) dX11_stepsOnce_65 (by decide) (by omega) (by omega) (fun h65 => ?_) (fun h65 => ?_)) | ((with_reducible refine mk_lc ?_); refine l_if_eq (tgt := 76) dX11_stepsOnce_65 (by decide) (fun h65 => ?_) (fun h65 => ?_)) | ((with_reducible refine mk_n ?_); refine n_if_eq (tgt := 76) dX11_stepsOnce_65 (by decide) (by omega) (fun h65 => ?_) (fun h65 => ?_)) | refine e_if_eq (tgt := 76) dX11_stepsOnce_65 (by decide) (fun h65 => ?_) (fun h65 => ?_)
          · try first | contradiction | omega | (simp only [decide_eq_true_eq, decide_eq_false_iff_not] at h65; omega)
            all_goals
              refine e_aload_n dX11_stepsOnce_76 rfl rfl ?_
              refine e_iload_n dX11_stepsOnce_77 rfl rfl ?_
              refine y_V1 (M' := mX11_steps) dX11_stepsOnce_78 ml_X11_186 ok_X11_steps (by decide) rfl im_X11_steps se_X11_steps (ct_X11_steps ‹_› iv3 hm3) (Nat.le_of_ble_eq_true rfl) (by decide) (Nat.le_of_ble_eq_true rfl) ?_
              refine e_ret none rfl (r_void dX11_stepsOnce_81 rfl) ?_
              refine xq rfl rfl rfl ?_ rfl rfl
              unfold sonA sonW
              repeat' split
              all_goals first | rfl | (exfalso; omega)
          · try first | contradiction | omega | (simp only [decide_eq_true_eq, decide_eq_false_iff_not] at h65; omega)
            all_goals
              refine e_aload_n dX11_stepsOnce_68 rfl rfl ?_
              refine e_iload_n dX11_stepsOnce_69 rfl rfl ?_
              refine y_V1 (M' := mX11_fails) dX11_stepsOnce_70 ml_X11_183 ok_X11_fails (by decide) rfl im_X11_fails se_X11_fails (ct_X11_fails ‹_› iv3 hm3 (by omega)) (Nat.le_of_ble_eq_true rfl) (by decide) (Nat.le_of_ble_eq_true rfl) ?_
              refine e_goto (tgt := 81) dX11_stepsOnce_73 (by decide) ?_
              refine e_ret none rfl (r_void dX11_stepsOnce_81 rfl) ?_
              refine xq rfl rfl rfl ?_ rfl rfl
              unfold sonA sonW
              repeat' split
              all_goals first | rfl | (exfalso; omega)
      · try first | contradiction | omega
        all_goals
          refine e_aload_n dX11_stepsOnce_51 rfl rfl ?_
          refine e_getR dX11_stepsOnce_52 fl_X11_7 rfl (by assumption) ?_
          refine e_iload_n dX11_stepsOnce_55 rfl rfl ?_
          refine e_bipush (v := nI 10) dX11_stepsOnce_56 rfl ?_
          first | ((with_reducible refine mk_nn ?_); refine n_iadd dX11_stepsOnce_58 ?_) | refine e_iadd dX11_stepsOnce_58 ?_
          refine e_dup2 dX11_stepsOnce_59 rfl rfl ?_
          first | ((with_reducible refine mk_ldw ?_); refine e_ldw dX11_stepsOnce_60 (by omega) ?_) | refine e_iald _ dX11_stepsOnce_60 ⟨by decide, by decide⟩ rfl rfl (by simp only [lenK]; omega) ?_
          rw [r10]
          refine e_iconst (v := nI 1) dX11_stepsOnce_61 rfl ?_
          first | ((with_reducible refine mk_nn ?_); refine n_isub dX11_stepsOnce_62 (by omega) ?_) | refine e_isub dX11_stepsOnce_62 ?_
          first | ((with_reducible refine mk_stw ?_); refine e_stw dX11_stepsOnce_63 (by omega) ?_) | refine e_iast _ dX11_stepsOnce_63 ⟨by decide, by decide⟩ rfl rfl (by simp only [lenK]; omega) ?_
          first | rw [show upN (so2 w m) (7694 + 72 * m + 10) (w (7694 + 72 * m + 10) - 1) = so3 w m from (if_pos (by omega)).symm] | rw [show so2 w m = so3 w m from (if_neg (by omega)).symm]
          refine e_iload_n dX11_stepsOnce_64 rfl rfl ?_
          first | ((with_reducible refine mk_b ?_); refine b_if_eq (tgt := 76) dX11_stepsOnce_65 (by decide) (fun h65 => ?_) (fun h65 => ?_)) | ((with_reducible refine mk_ll ?_); refine m_if_eq (tgt := 76) dX11_stepsOnce_65 (by decide) (by omega) (by omega) (fun h65 => ?_) (fun h65 => ?_)) | ((with_reducible refine mk_lc ?_); refine l_if_eq (tgt := 76) dX11_stepsOnce_65 (by decide) (fun h65 => ?_) (fun h65 => ?_)) | ((with_reducible refine mk_n ?_); refine n_if_eq (tgt := 76) dX11_stepsOnce_65 (by decide) (by omega) (fun h65 => ?_) (fun h65 => ?_)) | refine e_if_eq (tgt := 76) dX11_stepsOnce_65 (by decide) (fun h65 => ?_) (fun h65 => ?_)
          · try first | contradiction | omega | (simp only [decide_eq_true_eq, decide_eq_false_iff_not] at h65; omega)
            all_goals
              refine e_aload_n dX11_stepsOnce_76 rfl rfl ?_
              refine e_iload_n dX11_stepsOnce_77 rfl rfl ?_
              refine y_V1 (M' := mX11_steps) dX11_stepsOnce_78 ml_X11_186 ok_X11_steps (by decide) rfl im_X11_steps se_X11_steps (ct_X11_steps ‹_› iv3 hm3) (Nat.le_of_ble_eq_true rfl) (by decide) (Nat.le_of_ble_eq_true rfl) ?_
              refine e_ret none rfl (r_void dX11_stepsOnce_81 rfl) ?_
              refine xq rfl rfl rfl ?_ rfl rfl
              unfold sonA sonW
              repeat' split
              all_goals first | rfl | (exfalso; omega)
          · try first | contradiction | omega | (simp only [decide_eq_true_eq, decide_eq_false_iff_not] at h65; omega)
            all_goals
              refine e_aload_n dX11_stepsOnce_68 rfl rfl ?_
              refine e_iload_n dX11_stepsOnce_69 rfl rfl ?_
              refine y_V1 (M' := mX11_fails) dX11_stepsOnce_70 ml_X11_183 ok_X11_fails (by decide) rfl im_X11_fails se_X11_fails (ct_X11_fails ‹_› iv3 hm3 (by omega)) (Nat.le_of_ble_eq_true rfl) (by decide) (Nat.le_of_ble_eq_true rfl) ?_
              refine e_goto (tgt := 81) dX11_stepsOnce_73 (by decide) ?_
              refine e_ret none rfl (r_void dX11_stepsOnce_81 rfl) ?_
              refine xq rfl rfl rfl ?_ rfl rfl
              unfold sonA sonW
              repeat' split
              all_goals first | rfl | (exfalso; omega)
  · try first | contradiction | omega
    all_goals
      refine e_iconst (v := nI 1) dX11_stepsOnce_33 rfl ?_
      refine e_goto (tgt := 38) dX11_stepsOnce_34 (by decide) ?_
      refine e_istore_n dX11_stepsOnce_38 rfl (Nat.le_of_ble_eq_true rfl) rfl ?_
      refine e_aload_n dX11_stepsOnce_39 rfl rfl ?_
      refine e_getR dX11_stepsOnce_40 fl_X11_7 rfl (by assumption) ?_
      refine e_iload_n dX11_stepsOnce_43 rfl rfl ?_
      refine e_bipush (v := nI 10) dX11_stepsOnce_44 rfl ?_
      first | ((with_reducible refine mk_nn ?_); refine n_iadd dX11_stepsOnce_46 ?_) | refine e_iadd dX11_stepsOnce_46 ?_
      first | ((with_reducible refine mk_ldw ?_); refine e_ldw dX11_stepsOnce_47 (by omega) ?_) | refine e_iald _ dX11_stepsOnce_47 ⟨by decide, by decide⟩ rfl rfl (by simp only [lenK]; omega) ?_
      rw [r10]
      first | ((with_reducible refine mk_ll ?_); refine m_if_le (tgt := 64) dX11_stepsOnce_48 (by decide) (by omega) (by omega) (fun h48 => ?_) (fun h48 => ?_)) | ((with_reducible refine mk_lc ?_); refine l_if_le (tgt := 64) dX11_stepsOnce_48 (by decide) (fun h48 => ?_) (fun h48 => ?_)) | ((with_reducible refine mk_n ?_); refine n_if_le (tgt := 64) dX11_stepsOnce_48 (by decide) (by omega) (fun h48 => ?_) (fun h48 => ?_)) | refine e_if_le (tgt := 64) dX11_stepsOnce_48 (by decide) (fun h48 => ?_) (fun h48 => ?_)
      · try first | contradiction | omega
        all_goals
          first | rw [show upN (so2 w m) (7694 + 72 * m + 10) (w (7694 + 72 * m + 10) - 1) = so3 w m from (if_pos (by omega)).symm] | rw [show so2 w m = so3 w m from (if_neg (by omega)).symm]
          refine e_iload_n dX11_stepsOnce_64 rfl rfl ?_
          first | ((with_reducible refine mk_b ?_); refine b_if_eq (tgt := 76) dX11_stepsOnce_65 (by decide) (fun h65 => ?_) (fun h65 => ?_)) | ((with_reducible refine mk_ll ?_); refine m_if_eq (tgt := 76) dX11_stepsOnce_65 (by decide) (by omega) (by omega) (fun h65 => ?_) (fun h65 => ?_)) | ((with_reducible refine mk_lc ?_); refine l_if_eq (tgt := 76) dX11_stepsOnce_65 (by decide) (fun h65 => ?_) (fun h65 => ?_)) | ((with_reducible refine mk_n ?_); refine n_if_eq (tgt := 76) dX11_stepsOnce_65 (by decide) (by omega) (fun h65 => ?_) (fun h65 => ?_)) | refine e_if_eq (tgt := 76) dX11_stepsOnce_65 (by decide) (fun h65 => ?_) (fun h65 => ?_)
          · try first | contradiction | omega | (simp only [decide_eq_true_eq, decide_eq_false_iff_not] at h65; omega)
            all_goals
              refine e_aload_n dX11_stepsOnce_76 rfl rfl ?_
              refine e_iload_n dX11_stepsOnce_77 rfl rfl ?_
              refine y_V1 (M' := mX11_steps) dX11_stepsOnce_78 ml_X11_186 ok_X11_steps (by decide) rfl im_X11_steps se_X11_steps (ct_X11_steps ‹_› iv3 hm3) (Nat.le_of_ble_eq_true rfl) (by decide) (Nat.le_of_ble_eq_true rfl) ?_
              refine e_ret none rfl (r_void dX11_stepsOnce_81 rfl) ?_
              refine xq rfl rfl rfl ?_ rfl rfl
              unfold sonA sonW
              repeat' split
              all_goals first | rfl | (exfalso; omega)
          · try first | contradiction | omega | (simp only [decide_eq_true_eq, decide_eq_false_iff_not] at h65; omega)
            all_goals
              refine e_aload_n dX11_stepsOnce_68 rfl rfl ?_
              refine e_iload_n dX11_stepsOnce_69 rfl rfl ?_
              refine y_V1 (M' := mX11_fails) dX11_stepsOnce_70 ml_X11_183 ok_X11_fails (by decide) rfl im_X11_fails se_X11_fails (ct_X11_fails ‹_› iv3 hm3 (by omega)) (Nat.le_of_ble_eq_true rfl) (by decide) (Nat.le_of_ble_eq_true rfl) ?_
              refine e_goto (tgt := 81) dX11_stepsOnce_73 (by decide) ?_
              refine e_ret none rfl (r_void dX11_stepsOnce_81 rfl) ?_
              refine xq rfl rfl rfl ?_ rfl rfl
              unfold sonA sonW
              repeat' split
              all_goals first | rfl | (exfalso; omega)
      · try first | contradiction | omega
        all_goals
          refine e_aload_n dX11_stepsOnce_51 rfl rfl ?_
          refine e_getR dX11_stepsOnce_52 fl_X11_7 rfl (by assumption) ?_
          refine e_iload_n dX11_stepsOnce_55 rfl rfl ?_
          refine e_bipush (v := nI 10) dX11_stepsOnce_56 rfl ?_
          first | ((with_reducible refine mk_nn ?_); refine n_iadd dX11_stepsOnce_58 ?_) | refine e_iadd dX11_stepsOnce_58 ?_
          refine e_dup2 dX11_stepsOnce_59 rfl rfl ?_
          first | ((with_reducible refine mk_ldw ?_); refine e_ldw dX11_stepsOnce_60 (by omega) ?_) | refine e_iald _ dX11_stepsOnce_60 ⟨by decide, by decide⟩ rfl rfl (by simp only [lenK]; omega) ?_
          rw [r10]
          refine e_iconst (v := nI 1) dX11_stepsOnce_61 rfl ?_
          first | ((with_reducible refine mk_nn ?_); refine n_isub dX11_stepsOnce_62 (by omega) ?_) | refine e_isub dX11_stepsOnce_62 ?_
          first | ((with_reducible refine mk_stw ?_); refine e_stw dX11_stepsOnce_63 (by omega) ?_) | refine e_iast _ dX11_stepsOnce_63 ⟨by decide, by decide⟩ rfl rfl (by simp only [lenK]; omega) ?_
          first | rw [show upN (so2 w m) (7694 + 72 * m + 10) (w (7694 + 72 * m + 10) - 1) = so3 w m from (if_pos (by omega)).symm] | rw [show so2 w m = so3 w m from (if_neg (by omega)).symm]
          refine e_iload_n dX11_stepsOnce_64 rfl rfl ?_
          first | ((with_reducible refine mk_b ?_); refine b_if_eq (tgt := 76) dX11_stepsOnce_65 (by decide) (fun h65 => ?_) (fun h65 => ?_)) | ((with_reducible refine mk_ll ?_); refine m_if_eq (tgt := 76) dX11_stepsOnce_65 (by decide) (by omega) (by omega) (fun h65 => ?_) (fun h65 => ?_)) | ((with_reducible refine mk_lc ?_); refine l_if_eq (tgt := 76) dX11_stepsOnce_65 (by decide) (fun h65 => ?_) (fun h65 => ?_)) | ((with_reducible refine mk_n ?_); refine n_if_eq (tgt := 76) dX11_stepsOnce_65 (by decide) (by omega) (fun h65 => ?_) (fun h65 => ?_)) | refine e_if_eq (tgt := 76) dX11_stepsOnce_65 (by decide) (fun h65 => ?_) (fun h65 => ?_)
          · try first | contradiction | omega | (simp only [decide_eq_true_eq, decide_eq_false_iff_not] at h65; omega)
            all_goals
              refine e_aload_n dX11_stepsOnce_76 rfl rfl ?_
              refine e_iload_n dX11_stepsOnce_77 rfl rfl ?_
              refine y_V1 (M' := mX11_steps) dX11_stepsOnce_78 ml_X11_186 ok_X11_steps (by decide) rfl im_X11_steps se_X11_steps (ct_X11_steps ‹_› iv3 hm3) (Nat.le_of_ble_eq_true rfl) (by decide) (Nat.le_of_ble_eq_true rfl) ?_
              refine e_ret none rfl (r_void dX11_stepsOnce_81 rfl) ?_
              refine xq rfl rfl rfl ?_ rfl rfl
              unfold sonA sonW
              repeat' split
              all_goals first | rfl | (exfalso; omega)
          · try first | contradiction | omega | (simp only [decide_eq_true_eq, decide_eq_false_iff_not] at h65; omega)
            all_goals
              refine e_aload_n dX11_stepsOnce_68 rfl rfl ?_
              refine e_iload_n dX11_stepsOnce_69 rfl rfl ?_
              refine y_V1 (M' := mX11_fails) dX11_stepsOnce_70 ml_X11_183 ok_X11_fails (by decide) rfl im_X11_fails se_X11_fails (ct_X11_fails ‹_› iv3 hm3 (by omega)) (Nat.le_of_ble_eq_true rfl) (by decide) (Nat.le_of_ble_eq_true rfl) ?_
              refine e_goto (tgt := 81) dX11_stepsOnce_73 (by decide) ?_
              refine e_ret none rfl (r_void dX11_stepsOnce_81 rfl) ?_
              refine xq rfl rfl rfl ?_ rfl rfl
              unfold sonA sonW
              repeat' split
              all_goals first | rfl | (exfalso; omega)
