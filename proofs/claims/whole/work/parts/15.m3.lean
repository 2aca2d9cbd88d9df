theorem cnt_t {p : Nat → Bool} {n : Nat} (h : p n = true) : cnt p (n + 1) = cnt p n + 1 := by show cnt p n + (if p n then 1 else 0) = _; rw [h]; rfl
theorem cnt_f {p : Nat → Bool} {n : Nat} (h : p n = false) : cnt p (n + 1) = cnt p n + 0 := by show cnt p n + (if p n then 1 else 0) = _; rw [h]; rfl
theorem cnt_le (p : Nat → Bool) : ∀ n, cnt p n ≤ n
  | 0 => Nat.le_refl 0
  | n + 1 => by
    have := cnt_le p n
    unfold cnt
    split <;> omega
theorem rs_s (f : Nat → Nat) (a n : Nat) : rs f a (n + 1) = rs f a n + f (a + n) := rfl
theorem ct_X11_loadOf {fi : FI} {fr : FR} {ai : FI} {ar : FR} {N : Nat} {w : Nat → Nat} (sm : SM fr) (iv : Inv w) {s : Nat} (hs : s < 2147483648) : CP mX11_loadOf 2 0 0 [.ref (rf 11 80), .int (nI s)] fi fr (mW ai w) ar N (xQ (some (.long (lN (ldF w s)))) fi fr (mW ai w) ar N) := by
  obtain ⟨sW, sA, sK, sU, sC, sKC, sT, sCl⟩ := id sm
  have h1 := iv_n iv
  have h3 := iv_mm iv
  change EV mX11_loadOf 2 0 0 0 [some (.ref (rf 11 80)), some (.int (nI s)), none, none, none] [] fi fr (mW ai w) ar N (xQ (some (.long (lN (ldF w s)))) fi fr (mW ai w) ar N)
  have key := ev_up (P := (fun j => EV mX11_loadOf 2 0 0 5 [some (.ref (rf 11 80)), some (.int (nI s)), some (.long (lN (rs (fun i => if w (42 + i) = s then wtF w i else 0) 0 j))), none, some (.int (nI j))] [] fi fr (mW ai w) ar N (xQ (some (.long (lN (ldF w s)))) fi fr (mW ai w) ar N))) (w 1) (fun j hj ih => by
    have ho := iv_own iv hj
    refine e_iload dX11_loadOf_5 rfl ?_
    refine e_aload_n dX11_loadOf_7 rfl rfl ?_
    refine e_getR dX11_loadOf_8 fl_X11_7 rfl (by assumption) ?_
    refine e_iconst (v := nI 1) dX11_loadOf_11 rfl ?_
    first | ((with_reducible refine mk_ldw ?_); refine e_ldw dX11_loadOf_12 (by omega) ?_) | refine e_iald _ dX11_loadOf_12 ⟨by decide, by decide⟩ rfl rfl (by simp only [lenK]; omega) ?_
    first | ((with_reducible refine mk_nn ?_); refine n_icmp_ge (tgt := 49) dX11_loadOf_13 (by decide) (by omega) (by omega) (fun h13 => ?_) (fun h13 => ?_)) | refine e_icmp_ge (tgt := 49) dX11_loadOf_13 (by decide) (fun h13 => ?_) (fun h13 => ?_)
    · try first | contradiction | omega
      all_goals
        refine e_lload_n dX11_loadOf_49 rfl rfl ?_
        refine e_ret (some _) rfl (r_long dX11_loadOf_50 rfl) ?_
        exact xq (by first | rfl | simp_all [bI_t, bI_f]) rfl rfl rfl rfl rfl
    · try first | contradiction | omega
      all_goals
        refine e_lload_n dX11_loadOf_16 rfl rfl ?_
        refine e_aload_n dX11_loadOf_17 rfl rfl ?_
        refine e_getR dX11_loadOf_18 fl_X11_7 rfl (by assumption) ?_
        refine e_bipush (v := nI 42) dX11_loadOf_21 rfl ?_
        refine e_iload dX11_loadOf_23 rfl ?_
        first | ((with_reducible refine mk_nn ?_); refine n_iadd dX11_loadOf_25 ?_) | refine e_iadd dX11_loadOf_25 ?_
        first | ((with_reducible refine mk_ldw ?_); refine e_ldw dX11_loadOf_26 (by omega) ?_) | refine e_iald _ dX11_loadOf_26 ⟨by decide, by decide⟩ rfl rfl (by simp only [lenK]; omega) ?_
        refine e_iload_n dX11_loadOf_27 rfl rfl ?_
        first | ((with_reducible refine mk_mo ?_); refine p_icmp_ne (tgt := 40) dX11_loadOf_28 (by decide) (fun h28 => ?_) (fun h28 => ?_)) | ((with_reducible refine mk_ms ?_); refine s_icmp_ne (tgt := 40) dX11_loadOf_28 (by decide) (by omega) (fun h28 => ?_) (fun h28 => ?_)) | ((with_reducible refine mk_mn ?_); refine q_icmp_ne (tgt := 40) dX11_loadOf_28 (by decide) (by omega) (fun h28 => ?_) (fun h28 => ?_)) | ((with_reducible refine mk_nn ?_); refine n_icmp_ne (tgt := 40) dX11_loadOf_28 (by decide) (by omega) (by omega) (fun h28 => ?_) (fun h28 => ?_)) | refine e_icmp_ne (tgt := 40) dX11_loadOf_28 (by decide) (fun h28 => ?_) (fun h28 => ?_)
        · try first | contradiction | omega
          all_goals
            refine e_lconst (v := lN 0) dX11_loadOf_40 rfl ?_
            first | ((with_reducible refine mk_LL ?_); refine n_ladd dX11_loadOf_41 ?_) | refine e_ladd dX11_loadOf_41 ?_
            refine e_lstore_n dX11_loadOf_42 rfl (Nat.le_of_ble_eq_true rfl) rfl ?_
            first | refine n_inc dX11_loadOf_43 rfl (Nat.le_of_ble_eq_true rfl) rfl ?_ | refine e_iinc dX11_loadOf_43 rfl rfl (Nat.le_of_ble_eq_true rfl) rfl ?_
            refine e_goto (tgt := 5) dX11_loadOf_46 (by decide) ?_
            have e : rs (fun i => if w (42 + i) = s then wtF w i else 0) 0 (j + 1) = rs (fun i => if w (42 + i) = s then wtF w i else 0) 0 j + (if w (42 + j) = s then wtF w j else 0) := by rw [rs_s, Nat.zero_add]
            first | (rw [if_pos (by assumption)] at e; rw [e] at ih; exact ih) | (rw [if_neg (by assumption)] at e; rw [e] at ih; exact ih)
        · try first | contradiction | omega
          all_goals
            refine e_aload_n dX11_loadOf_31 rfl rfl ?_
            refine e_iload dX11_loadOf_32 rfl ?_
            refine x_V1 (M' := mX11_weightOf) dX11_loadOf_34 ml_X11_73 ok_X11_weightOf (by decide) rfl im_X11_weightOf se_X11_weightOf (ct_X11_weightOf ‹_› ‹_› (by omega)) (Nat.le_of_ble_eq_true rfl) (by decide) (Nat.le_of_ble_eq_true rfl) ?_
            refine e_goto (tgt := 41) dX11_loadOf_37 (by decide) ?_
            first | ((with_reducible refine mk_LL ?_); refine n_ladd dX11_loadOf_41 ?_) | refine e_ladd dX11_loadOf_41 ?_
            refine e_lstore_n dX11_loadOf_42 rfl (Nat.le_of_ble_eq_true rfl) rfl ?_
            first | refine n_inc dX11_loadOf_43 rfl (Nat.le_of_ble_eq_true rfl) rfl ?_ | refine e_iinc dX11_loadOf_43 rfl rfl (Nat.le_of_ble_eq_true rfl) rfl ?_
            refine e_goto (tgt := 5) dX11_loadOf_46 (by decide) ?_
            have e : rs (fun i => if w (42 + i) = s then wtF w i else 0) 0 (j + 1) = rs (fun i => if w (42 + i) = s then wtF w i else 0) 0 j + (if w (42 + j) = s then wtF w j else 0) := by rw [rs_s, Nat.zero_add]
            first | (rw [if_pos (by assumption)] at e; rw [e] at ih; exact ih) | (rw [if_neg (by assumption)] at e; rw [e] at ih; exact ih)
    ) (by
    refine e_iload dX11_loadOf_5 rfl ?_
    refine e_aload_n dX11_loadOf_7 rfl rfl ?_
    refine e_getR dX11_loadOf_8 fl_X11_7 rfl (by assumption) ?_
    refine e_iconst (v := nI 1) dX11_loadOf_11 rfl ?_
    first | ((with_reducible refine mk_ldw ?_); refine e_ldw dX11_loadOf_12 (by omega) ?_) | refine e_iald _ dX11_loadOf_12 ⟨by decide, by decide⟩ rfl rfl (by simp only [lenK]; omega) ?_
    first | ((with_reducible refine mk_nn ?_); refine n_icmp_ge (tgt := 49) dX11_loadOf_13 (by decide) (by omega) (by omega) (fun h13 => ?_) (fun h13 => ?_)) | refine e_icmp_ge (tgt := 49) dX11_loadOf_13 (by decide) (fun h13 => ?_) (fun h13 => ?_)
    · try first | contradiction | omega
      all_goals
        refine e_lload_n dX11_loadOf_49 rfl rfl ?_
        refine e_ret (some _) rfl (r_long dX11_loadOf_50 rfl) ?_
        exact xq rfl rfl rfl rfl rfl rfl
    · try first | contradiction | omega
      all_goals
        refine e_lload_n dX11_loadOf_16 rfl rfl ?_
        refine e_aload_n dX11_loadOf_17 rfl rfl ?_
        refine e_getR dX11_loadOf_18 fl_X11_7 rfl (by assumption) ?_
        refine e_bipush (v := nI 42) dX11_loadOf_21 rfl ?_
        refine e_iload dX11_loadOf_23 rfl ?_
        first | ((with_reducible refine mk_nn ?_); refine n_iadd dX11_loadOf_25 ?_) | refine e_iadd dX11_loadOf_25 ?_
        first | ((with_reducible refine mk_ldw ?_); refine e_ldw dX11_loadOf_26 (by omega) ?_) | refine e_iald _ dX11_loadOf_26 ⟨by decide, by decide⟩ rfl rfl (by simp only [lenK]; omega) ?_
        refine e_iload_n dX11_loadOf_27 rfl rfl ?_
        first | ((with_reducible refine mk_mo ?_); refine p_icmp_ne (tgt := 40) dX11_loadOf_28 (by decide) (fun h28 => ?_) (fun h28 => ?_)) | ((with_reducible refine mk_ms ?_); refine s_icmp_ne (tgt := 40) dX11_loadOf_28 (by decide) (by omega) (fun h28 => ?_) (fun h28 => ?_)) | ((with_reducible refine mk_mn ?_); refine q_icmp_ne (tgt := 40) dX11_loadOf_28 (by decide) (by omega) (fun h28 => ?_) (fun h28 => ?_)) | ((with_reducible refine mk_nn ?_); refine n_icmp_ne (tgt := 40) dX11_loadOf_28 (by decide) (by omega) (by omega) (fun h28 => ?_) (fun h28 => ?_)) | refine e_icmp_ne (tgt := 40) dX11_loadOf_28 (by decide) (fun h28 => ?_) (fun h28 => ?_)
        · try first | contradiction | omega
          all_goals
            refine e_lconst (v := lN 0) dX11_loadOf_40 rfl ?_
            first | ((with_reducible refine mk_LL ?_); refine n_ladd dX11_loadOf_41 ?_) | refine e_ladd dX11_loadOf_41 ?_
            refine e_lstore_n dX11_loadOf_42 rfl (Nat.le_of_ble_eq_true rfl) rfl ?_
            first | refine n_inc dX11_loadOf_43 rfl (Nat.le_of_ble_eq_true rfl) rfl ?_ | refine e_iinc dX11_loadOf_43 rfl rfl (Nat.le_of_ble_eq_true rfl) rfl ?_
            refine e_goto (tgt := 5) dX11_loadOf_46 (by decide) ?_
            have e : rs (fun i => if w (42 + i) = s then wtF w i else 0) 0 (j + 1) = rs (fun i => if w (42 + i) = s then wtF w i else 0) 0 j + (if w (42 + j) = s then wtF w j else 0) := by rw [rs_s, Nat.zero_add]
            first | (rw [if_pos (by assumption)] at e; rw [e] at ih; exact ih) | (rw [if_neg (by assumption)] at e; rw [e] at ih; exact ih)
        · try first | contradiction | omega
          all_goals
            refine e_aload_n dX11_loadOf_31 rfl rfl ?_
            refine e_iload dX11_loadOf_32 rfl ?_
            refine x_V1 (M' := mX11_weightOf) dX11_loadOf_34 ml_X11_73 ok_X11_weightOf (by decide) rfl im_X11_weightOf se_X11_weightOf (ct_X11_weightOf ‹_› ‹_› (by omega)) (Nat.le_of_ble_eq_true rfl) (by decide) (Nat.le_of_ble_eq_true rfl) ?_
            refine e_goto (tgt := 41) dX11_loadOf_37 (by decide) ?_
            first | ((with_reducible refine mk_LL ?_); refine n_ladd dX11_loadOf_41 ?_) | refine e_ladd dX11_loadOf_41 ?_
            refine e_lstore_n dX11_loadOf_42 rfl (Nat.le_of_ble_eq_true rfl) rfl ?_
            first | refine n_inc dX11_loadOf_43 rfl (Nat.le_of_ble_eq_true rfl) rfl ?_ | refine e_iinc dX11_loadOf_43 rfl rfl (Nat.le_of_ble_eq_true rfl) rfl ?_
            refine e_goto (tgt := 5) dX11_loadOf_46 (by decide) ?_
            have e : rs (fun i => if w (42 + i) = s then wtF w i else 0) 0 (j + 1) = rs (fun i => if w (42 + i) = s then wtF w i else 0) 0 j + (if w (42 + j) = s then wtF w j else 0) := by rw [rs_s, Nat.zero_add]
            first | (rw [if_pos (by assumption)] at e; rw [e] at ih; exact ih) | (rw [if_neg (by assumption)] at e; rw [e] at ih; exact ih)
    )
  refine e_lconst (v := lN 0) dX11_loadOf_0 rfl ?_
  refine e_lstore_n dX11_loadOf_1 rfl (Nat.le_of_ble_eq_true rfl) rfl ?_
  refine e_iconst (v := nI 0) dX11_loadOf_2 rfl ?_
  refine e_istore dX11_loadOf_3 (Nat.le_of_ble_eq_true rfl) rfl ?_
  exact key 0 (by omega)
theorem ct_X11_going {fi : FI} {fr : FR} {ai : FI} {ar : FR} {N : Nat} {w : Nat → Nat} (sm : SM fr) (iv : Inv w)  : CP mX11_going 2 0 0 [.ref (rf 11 80)] fi fr (mW ai w) ar N (xQ (some (.int (nI (cnt (goB w) (w 3))))) fi fr (mW ai w) ar N) := by
  obtain ⟨sW, sA, sK, sU, sC, sKC, sT, sCl⟩ := id sm
  have h1 := iv_n iv
  have h3 := iv_mm iv
  change EV mX11_going 2 0 0 0 [some (.ref (rf 11 80)), none, none] [] fi fr (mW ai w) ar N (xQ (some (.int (nI (cnt (goB w) (w 3))))) fi fr (mW ai w) ar N)
  have key := ev_up (P := (fun j => EV mX11_going 2 0 0 4 [some (.ref (rf 11 80)), some (.int (nI (cnt (goB w) j))), some (.int (nI j))] [] fi fr (mW ai w) ar N (xQ (some (.int (nI (cnt (goB w) (w 3))))) fi fr (mW ai w) ar N))) (w 3) (fun j hj ih => by
    refine e_iload_n dX11_going_4 rfl rfl ?_
    refine e_aload_n dX11_going_5 rfl rfl ?_
    refine e_getR dX11_going_6 fl_X11_7 rfl (by assumption) ?_
    refine e_iconst (v := nI 3) dX11_going_9 rfl ?_
    first | ((with_reducible refine mk_ldw ?_); refine e_ldw dX11_going_10 (by omega) ?_) | refine e_iald _ dX11_going_10 ⟨by decide, by decide⟩ rfl rfl (by simp only [lenK]; omega) ?_
    first | ((with_reducible refine mk_nn ?_); refine n_icmp_ge (tgt := 36) dX11_going_11 (by decide) (by omega) (by omega) (fun h11 => ?_) (fun h11 => ?_)) | refine e_icmp_ge (tgt := 36) dX11_going_11 (by decide) (fun h11 => ?_) (fun h11 => ?_)
    · try first | contradiction | omega
      all_goals
        refine e_iload_n dX11_going_36 rfl rfl ?_
        refine e_ret (some _) rfl (r_int dX11_going_37 rfl) ?_
        exact xq (by first | rfl | simp_all [bI_t, bI_f]) rfl rfl rfl rfl rfl
    · try first | contradiction | omega
      all_goals
        refine e_iload_n dX11_going_14 rfl rfl ?_
        refine e_aload_n dX11_going_15 rfl rfl ?_
        refine e_iload_n dX11_going_16 rfl rfl ?_
        refine x_V1 (M' := mX11_isGoing) dX11_going_17 ml_X11_67 ok_X11_isGoing (by decide) rfl im_X11_isGoing se_X11_isGoing (ct_X11_isGoing ‹_› ‹_› (by omega)) (Nat.le_of_ble_eq_true rfl) (by decide) (Nat.le_of_ble_eq_true rfl) ?_
        first | ((with_reducible refine mk_b ?_); refine b_if_eq (tgt := 27) dX11_going_20 (by decide) (fun h20 => ?_) (fun h20 => ?_)) | ((with_reducible refine mk_ll ?_); refine m_if_eq (tgt := 27) dX11_going_20 (by decide) (by omega) (by omega) (fun h20 => ?_) (fun h20 => ?_)) | ((with_reducible refine mk_lc ?_); refine l_if_eq (tgt := 27) dX11_going_20 (by decide) (fun h20 => ?_) (fun h20 => ?_)) | ((with_reducible refine mk_n ?_); refine n_if_eq (tgt := 27) dX11_going_20 (by decide) (by omega) (fun h20 => ?_) (fun h20 => ?_)) | refine e_if_eq (tgt := 27) dX11_going_20 (by decide) (fun h20 => ?_) (fun h20 => ?_)
        · try first | contradiction | omega
          all_goals
            refine e_iconst (v := nI 0) dX11_going_27 rfl ?_
            first | ((with_reducible refine mk_nn ?_); refine n_iadd dX11_going_28 ?_) | refine e_iadd dX11_going_28 ?_
            refine e_istore_n dX11_going_29 rfl (Nat.le_of_ble_eq_true rfl) rfl ?_
            first | refine n_inc dX11_going_30 rfl (Nat.le_of_ble_eq_true rfl) rfl ?_ | refine e_iinc dX11_going_30 rfl rfl (Nat.le_of_ble_eq_true rfl) rfl ?_
            refine e_goto (tgt := 4) dX11_going_33 (by decide) ?_
            first | (rw [cnt_t (n := j) (p := goB w) (by simp_all)] at ih; exact ih) | (rw [cnt_f (n := j) (p := goB w) (by simp_all)] at ih; exact ih)
        · try first | contradiction | omega
          all_goals
            refine e_iconst (v := nI 1) dX11_going_23 rfl ?_
            refine e_goto (tgt := 28) dX11_going_24 (by decide) ?_
            first | ((with_reducible refine mk_nn ?_); refine n_iadd dX11_going_28 ?_) | refine e_iadd dX11_going_28 ?_
            refine e_istore_n dX11_going_29 rfl (Nat.le_of_ble_eq_true rfl) rfl ?_
            first | refine n_inc dX11_going_30 rfl (Nat.le_of_ble_eq_true rfl) rfl ?_ | refine e_iinc dX11_going_30 rfl rfl (Nat.le_of_ble_eq_true rfl) rfl ?_
            refine e_goto (tgt := 4) dX11_going_33 (by decide) ?_
            first | (rw [cnt_t (n := j) (p := goB w) (by simp_all)] at ih; exact ih) | (rw [cnt_f (n := j) (p := goB w) (by simp_all)] at ih; exact ih)
    ) (by
    refine e_iload_n dX11_going_4 rfl rfl ?_
    refine e_aload_n dX11_going_5 rfl rfl ?_
    refine e_getR dX11_going_6 fl_X11_7 rfl (by assumption) ?_
    refine e_iconst (v := nI 3) dX11_going_9 rfl ?_
    first | ((with_reducible refine mk_ldw ?_); refine e_ldw dX11_going_10 (by omega) ?_) | refine e_iald _ dX11_going_10 ⟨by decide, by decide⟩ rfl rfl (by simp only [lenK]; omega) ?_
    first | ((with_reducible refine mk_nn ?_); refine n_icmp_ge (tgt := 36) dX11_going_11 (by decide) (by omega) (by omega) (fun h11 => ?_) (fun h11 => ?_)) | refine e_icmp_ge (tgt := 36) dX11_going_11 (by decide) (fun h11 => ?_) (fun h11 => ?_)
    · try first | contradiction | omega
      all_goals
        refine e_iload_n dX11_going_36 rfl rfl ?_
        refine e_ret (some _) rfl (r_int dX11_going_37 rfl) ?_
        exact xq rfl rfl rfl rfl rfl rfl
    · try first | contradiction | omega
      all_goals
        refine e_iload_n dX11_going_14 rfl rfl ?_
        refine e_aload_n dX11_going_15 rfl rfl ?_
        refine e_iload_n dX11_going_16 rfl rfl ?_
        refine x_V1 (M' := mX11_isGoing) dX11_going_17 ml_X11_67 ok_X11_isGoing (by decide) rfl im_X11_isGoing se_X11_isGoing (ct_X11_isGoing ‹_› ‹_› (by omega)) (Nat.le_of_ble_eq_true rfl) (by decide) (Nat.le_of_ble_eq_true rfl) ?_
        first | ((with_reducible refine mk_b ?_); refine b_if_eq (tgt := 27) dX11_going_20 (by decide) (fun h20 => ?_) (fun h20 => ?_)) | ((with_reducible refine mk_ll ?_); refine m_if_eq (tgt := 27) dX11_going_20 (by decide) (by omega) (by omega) (fun h20 => ?_) (fun h20 => ?_)) | ((with_reducible refine mk_lc ?_); refine l_if_eq (tgt := 27) dX11_going_20 (by decide) (fun h20 => ?_) (fun h20 => ?_)) | ((with_reducible refine mk_n ?_); refine n_if_eq (tgt := 27) dX11_going_20 (by decide) (by omega) (fun h20 => ?_) (fun h20 => ?_)) | refine e_if_eq (tgt := 27) dX11_going_20 (by decide) (fun h20 => ?_) (fun h20 => ?_)
        · try first | contradiction | omega
          all_goals
            refine e_iconst (v := nI 0) dX11_going_27 rfl ?_
            first | ((with_reducible refine mk_nn ?_); refine n_iadd dX11_going_28 ?_) | refine e_iadd dX11_going_28 ?_
            refine e_istore_n dX11_going_29 rfl (Nat.le_of_ble_eq_true rfl) rfl ?_
            first | refine n_inc dX11_going_30 rfl (Nat.le_of_ble_eq_true rfl) rfl ?_ | refine e_iinc dX11_going_30 rfl rfl (Nat.le_of_ble_eq_true rfl) rfl ?_
            refine e_goto (tgt := 4) dX11_going_33 (by decide) ?_
            first | (rw [cnt_t (n := j) (p := goB w) (by simp_all)] at ih; exact ih) | (rw [cnt_f (n := j) (p := goB w) (by simp_all)] at ih; exact ih)
        · try first | contradiction | omega
          all_goals
            refine e_iconst (v := nI 1) dX11_going_23 rfl ?_
            refine e_goto (tgt := 28) dX11_going_24 (by decide) ?_
            first | ((with_reducible refine mk_nn ?_); refine n_iadd dX11_going_28 ?_) | refine e_iadd dX11_going_28 ?_
            refine e_istore_n dX11_going_29 rfl (Nat.le_of_ble_eq_true rfl) rfl ?_
            first | refine n_inc dX11_going_30 rfl (Nat.le_of_ble_eq_true rfl) rfl ?_ | refine e_iinc dX11_going_30 rfl rfl (Nat.le_of_ble_eq_true rfl) rfl ?_
            refine e_goto (tgt := 4) dX11_going_33 (by decide) ?_
            first | (rw [cnt_t (n := j) (p := goB w) (by simp_all)] at ih; exact ih) | (rw [cnt_f (n := j) (p := goB w) (by simp_all)] at ih; exact ih)
    )
  refine e_iconst (v := nI 0) dX11_going_0 rfl ?_
  refine e_istore_n dX11_going_1 rfl (Nat.le_of_ble_eq_true rfl) rfl ?_
  refine e_iconst (v := nI 0) dX11_going_2 rfl ?_
  refine e_istore_n dX11_going_3 rfl (Nat.le_of_ble_eq_true rfl) rfl ?_
  exact key 0 (by omega)
theorem ct_X11_spansOf {fi : FI} {fr : FR} {ai : FI} {ar : FR} {N : Nat} {w : Nat → Nat} (sm : SM fr) (iv : Inv w) {s : Nat} (hs : s < 2147483648) : CP mX11_spansOf 0 0 0 [.ref (rf 11 80), .int (nI s)] fi fr (mW ai w) ar N (xQ (some (.int (nI (cnt (fun i => decide (w (42 + i) = s)) (w 1))))) fi fr (mW ai w) ar N) := by
  obtain ⟨sW, sA, sK, sU, sC, sKC, sT, sCl⟩ := id sm
  have h1 := iv_n iv
  have h3 := iv_mm iv
  change EV mX11_spansOf 0 0 0 0 [some (.ref (rf 11 80)), some (.int (nI s)), none, none] [] fi fr (mW ai w) ar N (xQ (some (.int (nI (cnt (fun i => decide (w (42 + i) = s)) (w 1))))) fi fr (mW ai w) ar N)
  have key := ev_up (P := (fun j => EV mX11_spansOf 0 0 0 4 [some (.ref (rf 11 80)), some (.int (nI s)), some (.int (nI (cnt (fun i => decide (w (42 + i) = s)) j))), some (.int (nI j))] [] fi fr (mW ai w) ar N (xQ (some (.int (nI (cnt (fun i => decide (w (42 + i) = s)) (w 1))))) fi fr (mW ai w) ar N))) (w 1) (fun j hj ih => by
    have ho := iv_own iv hj
    refine e_iload_n dX11_spansOf_4 rfl rfl ?_
    refine e_aload_n dX11_spansOf_5 rfl rfl ?_
    refine e_getR dX11_spansOf_6 fl_X11_7 rfl (by assumption) ?_
    refine e_iconst (v := nI 1) dX11_spansOf_9 rfl ?_
    first | ((with_reducible refine mk_ldw ?_); refine e_ldw dX11_spansOf_10 (by omega) ?_) | refine e_iald _ dX11_spansOf_10 ⟨by decide, by decide⟩ rfl rfl (by simp only [lenK]; omega) ?_
    first | ((with_reducible refine mk_nn ?_); refine n_icmp_ge (tgt := 41) dX11_spansOf_11 (by decide) (by omega) (by omega) (fun h11 => ?_) (fun h11 => ?_)) | refine e_icmp_ge (tgt := 41) dX11_spansOf_11 (by decide) (fun h11 => ?_) (fun h11 => ?_)
    · try first | contradiction | omega
      all_goals
        refine e_iload_n dX11_spansOf_41 rfl rfl ?_
        refine e_ret (some _) rfl (r_int dX11_spansOf_42 rfl) ?_
        exact xq (by first | rfl | simp_all [bI_t, bI_f]) rfl rfl rfl rfl rfl
    · try first | contradiction | omega
      all_goals
        refine e_iload_n dX11_spansOf_14 rfl rfl ?_
        refine e_aload_n dX11_spansOf_15 rfl rfl ?_
        refine e_getR dX11_spansOf_16 fl_X11_7 rfl (by assumption) ?_
        refine e_bipush (v := nI 42) dX11_spansOf_19 rfl ?_
        refine e_iload_n dX11_spansOf_21 rfl rfl ?_
        first | ((with_reducible refine mk_nn ?_); refine n_iadd dX11_spansOf_22 ?_) | refine e_iadd dX11_spansOf_22 ?_
        first | ((with_reducible refine mk_ldw ?_); refine e_ldw dX11_spansOf_23 (by omega) ?_) | refine e_iald _ dX11_spansOf_23 ⟨by decide, by decide⟩ rfl rfl (by simp only [lenK]; omega) ?_
        refine e_iload_n dX11_spansOf_24 rfl rfl ?_
        first | ((with_reducible refine mk_mo ?_); refine p_icmp_ne (tgt := 32) dX11_spansOf_25 (by decide) (fun h25 => ?_) (fun h25 => ?_)) | ((with_reducible refine mk_ms ?_); refine s_icmp_ne (tgt := 32) dX11_spansOf_25 (by decide) (by omega) (fun h25 => ?_) (fun h25 => ?_)) | ((with_reducible refine mk_mn ?_); refine q_icmp_ne (tgt := 32) dX11_spansOf_25 (by decide) (by omega) (fun h25 => ?_) (fun h25 => ?_)) | ((with_reducible refine mk_nn ?_); refine n_icmp_ne (tgt := 32) dX11_spansOf_25 (by decide) (by omega) (by omega) (fun h25 => ?_) (fun h25 => ?_)) | refine e_icmp_ne (tgt := 32) dX11_spansOf_25 (by decide) (fun h25 => ?_) (fun h25 => ?_)
        · try first | contradiction | omega
          all_goals
            refine e_iconst (v := nI 0) dX11_spansOf_32 rfl ?_
            first | ((with_reducible refine mk_nn ?_); refine n_iadd dX11_spansOf_33 ?_) | refine e_iadd dX11_spansOf_33 ?_
            refine e_istore_n dX11_spansOf_34 rfl (Nat.le_of_ble_eq_true rfl) rfl ?_
            first | refine n_inc dX11_spansOf_35 rfl (Nat.le_of_ble_eq_true rfl) rfl ?_ | refine e_iinc dX11_spansOf_35 rfl rfl (Nat.le_of_ble_eq_true rfl) rfl ?_
            refine e_goto (tgt := 4) dX11_spansOf_38 (by decide) ?_
            first | (rw [cnt_t (n := j) (p := fun i => decide (w (42 + i) = s)) (by simp_all)] at ih; exact ih) | (rw [cnt_f (n := j) (p := fun i => decide (w (42 + i) = s)) (by simp_all)] at ih; exact ih)
        · try first | contradiction | omega
          all_goals
            refine e_iconst (v := nI 1) dX11_spansOf_28 rfl ?_
            refine e_goto (tgt := 33) dX11_spansOf_29 (by decide) ?_
            first | ((with_reducible refine mk_nn ?_); refine n_iadd dX11_spansOf_33 ?_) | refine e_iadd dX11_spansOf_33 ?_
            refine e_istore_n dX11_spansOf_34 rfl (Nat.le_of_ble_eq_true rfl) rfl ?_
            first | refine n_inc dX11_spansOf_35 rfl (Nat.le_of_ble_eq_true rfl) rfl ?_ | refine e_iinc dX11_spansOf_35 rfl rfl (Nat.le_of_ble_eq_true rfl) rfl ?_
            refine e_goto (tgt := 4) dX11_spansOf_38 (by decide) ?_
            first | (rw [cnt_t (n := j) (p := fun i => decide (w (42 + i) = s)) (by simp_all)] at ih; exact ih) | (rw [cnt_f (n := j) (p := fun i => decide (w (42 + i) = s)) (by simp_all)] at ih; exact ih)
    ) (by
    refine e_iload_n dX11_spansOf_4 rfl rfl ?_
    refine e_aload_n dX11_spansOf_5 rfl rfl ?_
    refine e_getR dX11_spansOf_6 fl_X11_7 rfl (by assumption) ?_
    refine e_iconst (v := nI 1) dX11_spansOf_9 rfl ?_
    first | ((with_reducible refine mk_ldw ?_); refine e_ldw dX11_spansOf_10 (by omega) ?_) | refine e_iald _ dX11_spansOf_10 ⟨by decide, by decide⟩ rfl rfl (by simp only [lenK]; omega) ?_
    first | ((with_reducible refine mk_nn ?_); refine n_icmp_ge (tgt := 41) dX11_spansOf_11 (by decide) (by omega) (by omega) (fun h11 => ?_) (fun h11 => ?_)) | refine e_icmp_ge (tgt := 41) dX11_spansOf_11 (by decide) (fun h11 => ?_) (fun h11 => ?_)
    · try first | contradiction | omega
      all_goals
        refine e_iload_n dX11_spansOf_41 rfl rfl ?_
        refine e_ret (some _) rfl (r_int dX11_spansOf_42 rfl) ?_
        exact xq rfl rfl rfl rfl rfl rfl
    · try first | contradiction | omega
      all_goals
        refine e_iload_n dX11_spansOf_14 rfl rfl ?_
        refine e_aload_n dX11_spansOf_15 rfl rfl ?_
        refine e_getR dX11_spansOf_16 fl_X11_7 rfl (by assumption) ?_
        refine e_bipush (v := nI 42) dX11_spansOf_19 rfl ?_
        refine e_iload_n dX11_spansOf_21 rfl rfl ?_
        first | ((with_reducible refine mk_nn ?_); refine n_iadd dX11_spansOf_22 ?_) | refine e_iadd dX11_spansOf_22 ?_
        first | ((with_reducible refine mk_ldw ?_); refine e_ldw dX11_spansOf_23 (by omega) ?_) | refine e_iald _ dX11_spansOf_23 ⟨by decide, by decide⟩ rfl rfl (by simp only [lenK]; omega) ?_
        refine e_iload_n dX11_spansOf_24 rfl rfl ?_
        first | ((with_reducible refine mk_mo ?_); refine p_icmp_ne (tgt := 32) dX11_spansOf_25 (by decide) (fun h25 => ?_) (fun h25 => ?_)) | ((with_reducible refine mk_ms ?_); refine s_icmp_ne (tgt := 32) dX11_spansOf_25 (by decide) (by omega) (fun h25 => ?_) (fun h25 => ?_)) | ((with_reducible refine mk_mn ?_); refine q_icmp_ne (tgt := 32) dX11_spansOf_25 (by decide) (by omega) (fun h25 => ?_) (fun h25 => ?_)) | ((with_reducible refine mk_nn ?_); refine n_icmp_ne (tgt := 32) dX11_spansOf_25 (by decide) (by omega) (by omega) (fun h25 => ?_) (fun h25 => ?_)) | refine e_icmp_ne (tgt := 32) dX11_spansOf_25 (by decide) (fun h25 => ?_) (fun h25 => ?_)
        · try first | contradiction | omega
          all_goals
            refine e_iconst (v := nI 0) dX11_spansOf_32 rfl ?_
            first | ((with_reducible refine mk_nn ?_); refine n_iadd dX11_spansOf_33 ?_) | refine e_iadd dX11_spansOf_33 ?_
            refine e_istore_n dX11_spansOf_34 rfl (Nat.le_of_ble_eq_true rfl) rfl ?_
            first | refine n_inc dX11_spansOf_35 rfl (Nat.le_of_ble_eq_true rfl) rfl ?_ | refine e_iinc dX11_spansOf_35 rfl rfl (Nat.le_of_ble_eq_true rfl) rfl ?_
            refine e_goto (tgt := 4) dX11_spansOf_38 (by decide) ?_
            first | (rw [cnt_t (n := j) (p := fun i => decide (w (42 + i) = s)) (by simp_all)] at ih; exact ih) | (rw [cnt_f (n := j) (p := fun i => decide (w (42 + i) = s)) (by simp_all)] at ih; exact ih)
        · try first | contradiction | omega
          all_goals
            refine e_iconst (v := nI 1) dX11_spansOf_28 rfl ?_
            refine e_goto (tgt := 33) dX11_spansOf_29 (by decide) ?_
            first | ((with_reducible refine mk_nn ?_); refine n_iadd dX11_spansOf_33 ?_) | refine e_iadd dX11_spansOf_33 ?_
            refine e_istore_n dX11_spansOf_34 rfl (Nat.le_of_ble_eq_true rfl) rfl ?_
            first | refine n_inc dX11_spansOf_35 rfl (Nat.le_of_ble_eq_true rfl) rfl ?_ | refine e_iinc dX11_spansOf_35 rfl rfl (Nat.le_of_ble_eq_true rfl) rfl ?_
            refine e_goto (tgt := 4) dX11_spansOf_38 (by decide) ?_
            first | (rw [cnt_t (n := j) (p := fun i => decide (w (42 + i) = s)) (by simp_all)] at ih; exact ih) | (rw [cnt_f (n := j) (p := fun i => decide (w (42 + i) = s)) (by simp_all)] at ih; exact ih)
    )
  refine e_iconst (v := nI 0) dX11_spansOf_0 rfl ?_
  refine e_istore_n dX11_spansOf_1 rfl (Nat.le_of_ble_eq_true rfl) rfl ?_
  refine e_iconst (v := nI 0) dX11_spansOf_2 rfl ?_
  refine e_istore_n dX11_spansOf_3 rfl (Nat.le_of_ble_eq_true rfl) rfl ?_
  exact key 0 (by omega)
theorem ct_X11_valuesOf {fi : FI} {fr : FR} {ai : FI} {ar : FR} {N : Nat} {w : Nat → Nat} (sm : SM fr) (iv : Inv w) {s : Nat} (hs : s < 6) : CP mX11_valuesOf 1 0 0 [.ref (rf 11 80), .int (nI s)] fi fr (mW ai w) ar N (xQ (some (.int (nI (cnt (fun k => decide (0 < w (1106 + 1000 * s + k))) 1000)))) fi fr (mW ai w) ar N) := by
  obtain ⟨sW, sA, sK, sU, sC, sKC, sT, sCl⟩ := id sm
  have h1 := iv_n iv
  have h3 := iv_mm iv
  change EV mX11_valuesOf 1 0 0 0 [some (.ref (rf 11 80)), some (.int (nI s)), none, none] [] fi fr (mW ai w) ar N (xQ (some (.int (nI (cnt (fun k => decide (0 < w (1106 + 1000 * s + k))) 1000)))) fi fr (mW ai w) ar N)
  have key := ev_up (P := (fun j => EV mX11_valuesOf 1 0 0 4 [some (.ref (rf 11 80)), some (.int (nI s)), some (.int (nI (cnt (fun k => decide (0 < w (1106 + 1000 * s + k))) j))), some (.int (nI j))] [] fi fr (mW ai w) ar N (xQ (some (.int (nI (cnt (fun k => decide (0 < w (1106 + 1000 * s + k))) 1000)))) fi fr (mW ai w) ar N))) (1000) (fun j hj ih => by
    have hv := iv_va iv (i := 1000 * s + j) (by omega)
    rw [← Nat.add_assoc] at hv
    refine e_iload_n dX11_valuesOf_4 rfl rfl ?_
    refine e_sipush (v := nI 1000) dX11_valuesOf_5 rfl ?_
    first | ((with_reducible refine mk_nn ?_); refine n_icmp_ge (tgt := 38) dX11_valuesOf_8 (by decide) (by omega) (by omega) (fun h8 => ?_) (fun h8 => ?_)) | refine e_icmp_ge (tgt := 38) dX11_valuesOf_8 (by decide) (fun h8 => ?_) (fun h8 => ?_)
    · try first | contradiction | omega
      all_goals
        refine e_iload_n dX11_valuesOf_38 rfl rfl ?_
        refine e_ret (some _) rfl (r_int dX11_valuesOf_39 rfl) ?_
        exact xq (by first | rfl | simp_all [bI_t, bI_f]) rfl rfl rfl rfl rfl
    · try first | contradiction | omega
      all_goals
        refine e_iload_n dX11_valuesOf_11 rfl rfl ?_
        refine e_aload_n dX11_valuesOf_12 rfl rfl ?_
        refine e_getR dX11_valuesOf_13 fl_X11_7 rfl (by assumption) ?_
        refine e_iload_n dX11_valuesOf_16 rfl rfl ?_
        refine e_iload_n dX11_valuesOf_17 rfl rfl ?_
        refine x_S2 (M' := mX11_storeAt) dX11_valuesOf_18 ml_X11_136 ok_X11_storeAt rfl sc_X11_storeAt (ct_X11_storeAt) (Nat.le_of_ble_eq_true rfl) (by decide) (Nat.le_of_ble_eq_true rfl) ?_
        first | ((with_reducible refine mk_ldw ?_); refine e_ldw dX11_valuesOf_21 (by omega) ?_) | refine e_iald _ dX11_valuesOf_21 ⟨by decide, by decide⟩ rfl rfl (by simp only [lenK]; omega) ?_
        first | ((with_reducible refine mk_ll ?_); refine m_if_le (tgt := 29) dX11_valuesOf_22 (by decide) (by omega) (by omega) (fun h22 => ?_) (fun h22 => ?_)) | ((with_reducible refine mk_lc ?_); refine l_if_le (tgt := 29) dX11_valuesOf_22 (by decide) (fun h22 => ?_) (fun h22 => ?_)) | ((with_reducible refine mk_n ?_); refine n_if_le (tgt := 29) dX11_valuesOf_22 (by decide) (by omega) (fun h22 => ?_) (fun h22 => ?_)) | refine e_if_le (tgt := 29) dX11_valuesOf_22 (by decide) (fun h22 => ?_) (fun h22 => ?_)
        · try first | contradiction | omega
          all_goals
            refine e_iconst (v := nI 0) dX11_valuesOf_29 rfl ?_
            first | ((with_reducible refine mk_nn ?_); refine n_iadd dX11_valuesOf_30 ?_) | refine e_iadd dX11_valuesOf_30 ?_
            refine e_istore_n dX11_valuesOf_31 rfl (Nat.le_of_ble_eq_true rfl) rfl ?_
            first | refine n_inc dX11_valuesOf_32 rfl (Nat.le_of_ble_eq_true rfl) rfl ?_ | refine e_iinc dX11_valuesOf_32 rfl rfl (Nat.le_of_ble_eq_true rfl) rfl ?_
            refine e_goto (tgt := 4) dX11_valuesOf_35 (by decide) ?_
            first | (rw [cnt_t (n := j) (p := fun k => decide (0 < w (1106 + 1000 * s + k))) (by simp_all)] at ih; exact ih) | (rw [cnt_f (n := j) (p := fun k => decide (0 < w (1106 + 1000 * s + k))) (by simp_all)] at ih; exact ih)
        · try first | contradiction | omega
          all_goals
            refine e_iconst (v := nI 1) dX11_valuesOf_25 rfl ?_
            refine e_goto (tgt := 30) dX11_valuesOf_26 (by decide) ?_
            first | ((with_reducible refine mk_nn ?_); refine n_iadd dX11_valuesOf_30 ?_) | refine e_iadd dX11_valuesOf_30 ?_
            refine e_istore_n dX11_valuesOf_31 rfl (Nat.le_of_ble_eq_true rfl) rfl ?_
            first | refine n_inc dX11_valuesOf_32 rfl (Nat.le_of_ble_eq_true rfl) rfl ?_ | refine e_iinc dX11_valuesOf_32 rfl rfl (Nat.le_of_ble_eq_true rfl) rfl ?_
            refine e_goto (tgt := 4) dX11_valuesOf_35 (by decide) ?_
            first | (rw [cnt_t (n := j) (p := fun k => decide (0 < w (1106 + 1000 * s + k))) (by simp_all)] at ih; exact ih) | (rw [cnt_f (n := j) (p := fun k => decide (0 < w (1106 + 1000 * s + k))) (by simp_all)] at ih; exact ih)
    ) (by
    refine e_iload_n dX11_valuesOf_4 rfl rfl ?_
    refine e_sipush (v := nI 1000) dX11_valuesOf_5 rfl ?_
    first | ((with_reducible refine mk_nn ?_); refine n_icmp_ge (tgt := 38) dX11_valuesOf_8 (by decide) (by omega) (by omega) (fun h8 => ?_) (fun h8 => ?_)) | refine e_icmp_ge (tgt := 38) dX11_valuesOf_8 (by decide) (fun h8 => ?_) (fun h8 => ?_)
    · try first | contradiction | omega
      all_goals
        refine e_iload_n dX11_valuesOf_38 rfl rfl ?_
        refine e_ret (some _) rfl (r_int dX11_valuesOf_39 rfl) ?_
        exact xq rfl rfl rfl rfl rfl rfl
    · try first | contradiction | omega
      all_goals
        refine e_iload_n dX11_valuesOf_11 rfl rfl ?_
        refine e_aload_n dX11_valuesOf_12 rfl rfl ?_
        refine e_getR dX11_valuesOf_13 fl_X11_7 rfl (by assumption) ?_
        refine e_iload_n dX11_valuesOf_16 rfl rfl ?_
        refine e_iload_n dX11_valuesOf_17 rfl rfl ?_
        refine x_S2 (M' := mX11_storeAt) dX11_valuesOf_18 ml_X11_136 ok_X11_storeAt rfl sc_X11_storeAt (ct_X11_storeAt) (Nat.le_of_ble_eq_true rfl) (by decide) (Nat.le_of_ble_eq_true rfl) ?_
        first | ((with_reducible refine mk_ldw ?_); refine e_ldw dX11_valuesOf_21 (by omega) ?_) | refine e_iald _ dX11_valuesOf_21 ⟨by decide, by decide⟩ rfl rfl (by simp only [lenK]; omega) ?_
        first | ((with_reducible refine mk_ll ?_); refine m_if_le (tgt := 29) dX11_valuesOf_22 (by decide) (by omega) (by omega) (fun h22 => ?_) (fun h22 => ?_)) | ((with_reducible refine mk_lc ?_); refine l_if_le (tgt := 29) dX11_valuesOf_22 (by decide) (fun h22 => ?_) (fun h22 => ?_)) | ((with_reducible refine mk_n ?_); refine n_if_le (tgt := 29) dX11_valuesOf_22 (by decide) (by omega) (fun h22 => ?_) (fun h22 => ?_)) | refine e_if_le (tgt := 29) dX11_valuesOf_22 (by decide) (fun h22 => ?_) (fun h22 => ?_)
        · try first | contradiction | omega
          all_goals
            refine e_iconst (v := nI 0) dX11_valuesOf_29 rfl ?_
            first | ((with_reducible refine mk_nn ?_); refine n_iadd dX11_valuesOf_30 ?_) | refine e_iadd dX11_valuesOf_30 ?_
            refine e_istore_n dX11_valuesOf_31 rfl (Nat.le_of_ble_eq_true rfl) rfl ?_
            first | refine n_inc dX11_valuesOf_32 rfl (Nat.le_of_ble_eq_true rfl) rfl ?_ | refine e_iinc dX11_valuesOf_32 rfl rfl (Nat.le_of_ble_eq_true rfl) rfl ?_
            refine e_goto (tgt := 4) dX11_valuesOf_35 (by decide) ?_
            first | (rw [cnt_t (n := j) (p := fun k => decide (0 < w (1106 + 1000 * s + k))) (by simp_all)] at ih; exact ih) | (rw [cnt_f (n := j) (p := fun k => decide (0 < w (1106 + 1000 * s + k))) (by simp_all)] at ih; exact ih)
        · try first | contradiction | omega
          all_goals
            refine e_iconst (v := nI 1) dX11_valuesOf_25 rfl ?_
            refine e_goto (tgt := 30) dX11_valuesOf_26 (by decide) ?_
            first | ((with_reducible refine mk_nn ?_); refine n_iadd dX11_valuesOf_30 ?_) | refine e_iadd dX11_valuesOf_30 ?_
            refine e_istore_n dX11_valuesOf_31 rfl (Nat.le_of_ble_eq_true rfl) rfl ?_
            first | refine n_inc dX11_valuesOf_32 rfl (Nat.le_of_ble_eq_true rfl) rfl ?_ | refine e_iinc dX11_valuesOf_32 rfl rfl (Nat.le_of_ble_eq_true rfl) rfl ?_
            refine e_goto (tgt := 4) dX11_valuesOf_35 (by decide) ?_
            first | (rw [cnt_t (n := j) (p := fun k => decide (0 < w (1106 + 1000 * s + k))) (by simp_all)] at ih; exact ih) | (rw [cnt_f (n := j) (p := fun k => decide (0 < w (1106 + 1000 * s + k))) (by simp_all)] at ih; exact ih)
    )
  refine e_iconst (v := nI 0) dX11_valuesOf_0 rfl ?_
  refine e_istore_n dX11_valuesOf_1 rfl (Nat.le_of_ble_eq_true rfl) rfl ?_
  refine e_iconst (v := nI 0) dX11_valuesOf_2 rfl ?_
  refine e_istore_n dX11_valuesOf_3 rfl (Nat.le_of_ble_eq_true rfl) rfl ?_
  exact key 0 (by omega)
def viF (w : Nat → Nat) (i : Nat) : Nat := cnt (fun j => decide (0 < w (1106 + 1000 * w (42 + i) + (w (10 + i) + j)))) (enF w i - w (10 + i))
def fzS (w : Nat → Nat) (i : Nat) : Bool := match mvL w (w (10 + i)) with
  | none => false
  | some m => decide (w (7694 + 72 * m + 0) = 3)
theorem mvL_lt {w : Nat → Nat} {l m : Nat} (h : mvL w l = some m) : m < w 3 := by
  unfold mvL fO at h
  split at h
  · obtain rfl := Option.some.inj h
    assumption
  · cases h
theorem ct_X11_valuesIn {fi : FI} {fr : FR} {ai : FI} {ar : FR} {N : Nat} {w : Nat → Nat} (sm : SM fr) (iv : Inv w) {i : Nat} (hi : i < w 1) : CP mX11_valuesIn 1 0 0 [.ref (rf 11 80), .int (nI i)] fi fr (mW ai w) ar N (xQ (some (.int (nI (viF w i)))) fi fr (mW ai w) ar N) := by
  obtain ⟨sW, sA, sK, sU, sC, sKC, sT, sCl⟩ := id sm
  have h1 := iv_n iv
  have h3 := iv_mm iv
  have he := enF_le iv hi
  have ho := iv_own iv hi
  change EV mX11_valuesIn 1 0 0 0 [some (.ref (rf 11 80)), some (.int (nI i)), none, none] [] fi fr (mW ai w) ar N (xQ (some (.int (nI (viF w i)))) fi fr (mW ai w) ar N)
  have key := ev_up (P := (fun j => EV mX11_valuesIn 1 0 0 12 [some (.ref (rf 11 80)), some (.int (nI i)), some (.int (nI (cnt (fun j => decide (0 < w (1106 + 1000 * w (42 + i) + (w (10 + i) + j)))) j))), some (.int (nI (w (10 + i) + j)))] [] fi fr (mW ai w) ar N (xQ (some (.int (nI (viF w i)))) fi fr (mW ai w) ar N))) (enF w i - w (10 + i)) (fun j hj ih => by
    have hv := iv_va iv (i := 1000 * w (42 + i) + (w (10 + i) + j)) (by omega)
    rw [← Nat.add_assoc] at hv
    refine e_iload_n dX11_valuesIn_12 rfl rfl ?_
    refine e_aload_n dX11_valuesIn_13 rfl rfl ?_
    refine e_iload_n dX11_valuesIn_14 rfl rfl ?_
    refine x_V1 (M' := mX11_endOf) dX11_valuesIn_15 ml_X11_70 ok_X11_endOf (by decide) rfl im_X11_endOf se_X11_endOf (ct_X11_endOf ‹_› ‹_› (by omega)) (Nat.le_of_ble_eq_true rfl) (by decide) (Nat.le_of_ble_eq_true rfl) ?_
    first | ((with_reducible refine mk_nn ?_); refine n_icmp_ge (tgt := 56) dX11_valuesIn_18 (by decide) (by omega) (by omega) (fun h18 => ?_) (fun h18 => ?_)) | refine e_icmp_ge (tgt := 56) dX11_valuesIn_18 (by decide) (fun h18 => ?_) (fun h18 => ?_)
    · try first | contradiction | omega
      all_goals
        refine e_iload_n dX11_valuesIn_56 rfl rfl ?_
        refine e_ret (some _) rfl (r_int dX11_valuesIn_57 rfl) ?_
        exact xq (by first | rfl | simp_all [bI_t, bI_f]) rfl rfl rfl rfl rfl
    · try first | contradiction | omega
      all_goals
        refine e_iload_n dX11_valuesIn_21 rfl rfl ?_
        refine e_aload_n dX11_valuesIn_22 rfl rfl ?_
        refine e_getR dX11_valuesIn_23 fl_X11_7 rfl (by assumption) ?_
        refine e_aload_n dX11_valuesIn_26 rfl rfl ?_
        refine e_getR dX11_valuesIn_27 fl_X11_7 rfl (by assumption) ?_
        refine e_bipush (v := nI 42) dX11_valuesIn_30 rfl ?_
        refine e_iload_n dX11_valuesIn_32 rfl rfl ?_
        first | ((with_reducible refine mk_nn ?_); refine n_iadd dX11_valuesIn_33 ?_) | refine e_iadd dX11_valuesIn_33 ?_
        first | ((with_reducible refine mk_ldw ?_); refine e_ldw dX11_valuesIn_34 (by omega) ?_) | refine e_iald _ dX11_valuesIn_34 ⟨by decide, by decide⟩ rfl rfl (by simp only [lenK]; omega) ?_
        refine e_iload_n dX11_valuesIn_35 rfl rfl ?_
        refine x_S2 (M' := mX11_storeAt) dX11_valuesIn_36 ml_X11_136 ok_X11_storeAt rfl sc_X11_storeAt (ct_X11_storeAt) (Nat.le_of_ble_eq_true rfl) (by decide) (Nat.le_of_ble_eq_true rfl) ?_
        first | ((with_reducible refine mk_ldw ?_); refine e_ldw dX11_valuesIn_39 (by omega) ?_) | refine e_iald _ dX11_valuesIn_39 ⟨by decide, by decide⟩ rfl rfl (by simp only [lenK]; omega) ?_
        first | ((with_reducible refine mk_ll ?_); refine m_if_le (tgt := 47) dX11_valuesIn_40 (by decide) (by omega) (by omega) (fun h40 => ?_) (fun h40 => ?_)) | ((with_reducible refine mk_lc ?_); refine l_if_le (tgt := 47) dX11_valuesIn_40 (by decide) (fun h40 => ?_) (fun h40 => ?_)) | ((with_reducible refine mk_n ?_); refine n_if_le (tgt := 47) dX11_valuesIn_40 (by decide) (by omega) (fun h40 => ?_) (fun h40 => ?_)) | refine e_if_le (tgt := 47) dX11_valuesIn_40 (by decide) (fun h40 => ?_) (fun h40 => ?_)
        · try first | contradiction | omega
          all_goals
            refine e_iconst (v := nI 0) dX11_valuesIn_47 rfl ?_
            first | ((with_reducible refine mk_nn ?_); refine n_iadd dX11_valuesIn_48 ?_) | refine e_iadd dX11_valuesIn_48 ?_
            refine e_istore_n dX11_valuesIn_49 rfl (Nat.le_of_ble_eq_true rfl) rfl ?_
            first | refine n_inc dX11_valuesIn_50 rfl (Nat.le_of_ble_eq_true rfl) rfl ?_ | refine e_iinc dX11_valuesIn_50 rfl rfl (Nat.le_of_ble_eq_true rfl) rfl ?_
            refine e_goto (tgt := 12) dX11_valuesIn_53 (by decide) ?_
            first | (rw [cnt_t (n := j) (p := fun j => decide (0 < w (1106 + 1000 * w (42 + i) + (w (10 + i) + j)))) (by simp_all)] at ih; exact ih) | (rw [cnt_f (n := j) (p := fun j => decide (0 < w (1106 + 1000 * w (42 + i) + (w (10 + i) + j)))) (by simp_all)] at ih; exact ih)
        · try first | contradiction | omega
          all_goals
            refine e_iconst (v := nI 1) dX11_valuesIn_43 rfl ?_
            refine e_goto (tgt := 48) dX11_valuesIn_44 (by decide) ?_
            first | ((with_reducible refine mk_nn ?_); refine n_iadd dX11_valuesIn_48 ?_) | refine e_iadd dX11_valuesIn_48 ?_
            refine e_istore_n dX11_valuesIn_49 rfl (Nat.le_of_ble_eq_true rfl) rfl ?_
            first | refine n_inc dX11_valuesIn_50 rfl (Nat.le_of_ble_eq_true rfl) rfl ?_ | refine e_iinc dX11_valuesIn_50 rfl rfl (Nat.le_of_ble_eq_true rfl) rfl ?_
            refine e_goto (tgt := 12) dX11_valuesIn_53 (by decide) ?_
            first | (rw [cnt_t (n := j) (p := fun j => decide (0 < w (1106 + 1000 * w (42 + i) + (w (10 + i) + j)))) (by simp_all)] at ih; exact ih) | (rw [cnt_f (n := j) (p := fun j => decide (0 < w (1106 + 1000 * w (42 + i) + (w (10 + i) + j)))) (by simp_all)] at ih; exact ih)
    ) (by
    refine e_iload_n dX11_valuesIn_12 rfl rfl ?_
    refine e_aload_n dX11_valuesIn_13 rfl rfl ?_
    refine e_iload_n dX11_valuesIn_14 rfl rfl ?_
    refine x_V1 (M' := mX11_endOf) dX11_valuesIn_15 ml_X11_70 ok_X11_endOf (by decide) rfl im_X11_endOf se_X11_endOf (ct_X11_endOf ‹_› ‹_› (by omega)) (Nat.le_of_ble_eq_true rfl) (by decide) (Nat.le_of_ble_eq_true rfl) ?_
    first | ((with_reducible refine mk_nn ?_); refine n_icmp_ge (tgt := 56) dX11_valuesIn_18 (by decide) (by omega) (by omega) (fun h18 => ?_) (fun h18 => ?_)) | refine e_icmp_ge (tgt := 56) dX11_valuesIn_18 (by decide) (fun h18 => ?_) (fun h18 => ?_)
    · try first | contradiction | omega
      all_goals
        refine e_iload_n dX11_valuesIn_56 rfl rfl ?_
        refine e_ret (some _) rfl (r_int dX11_valuesIn_57 rfl) ?_
        exact xq rfl rfl rfl rfl rfl rfl
    · try first | contradiction | omega
      all_goals
        refine e_iload_n dX11_valuesIn_21 rfl rfl ?_
        refine e_aload_n dX11_valuesIn_22 rfl rfl ?_
        refine e_getR dX11_valuesIn_23 fl_X11_7 rfl (by assumption) ?_
        refine e_aload_n dX11_valuesIn_26 rfl rfl ?_
        refine e_getR dX11_valuesIn_27 fl_X11_7 rfl (by assumption) ?_
        refine e_bipush (v := nI 42) dX11_valuesIn_30 rfl ?_
        refine e_iload_n dX11_valuesIn_32 rfl rfl ?_
        first | ((with_reducible refine mk_nn ?_); refine n_iadd dX11_valuesIn_33 ?_) | refine e_iadd dX11_valuesIn_33 ?_
        first | ((with_reducible refine mk_ldw ?_); refine e_ldw dX11_valuesIn_34 (by omega) ?_) | refine e_iald _ dX11_valuesIn_34 ⟨by decide, by decide⟩ rfl rfl (by simp only [lenK]; omega) ?_
        refine e_iload_n dX11_valuesIn_35 rfl rfl ?_
        refine x_S2 (M' := mX11_storeAt) dX11_valuesIn_36 ml_X11_136 ok_X11_storeAt rfl sc_X11_storeAt (ct_X11_storeAt) (Nat.le_of_ble_eq_true rfl) (by decide) (Nat.le_of_ble_eq_true rfl) ?_
        first | ((with_reducible refine mk_ldw ?_); refine e_ldw dX11_valuesIn_39 (by omega) ?_) | refine e_iald _ dX11_valuesIn_39 ⟨by decide, by decide⟩ rfl rfl (by simp only [lenK]; omega) ?_
        first | ((with_reducible refine mk_ll ?_); refine m_if_le (tgt := 47) dX11_valuesIn_40 (by decide) (by omega) (by omega) (fun h40 => ?_) (fun h40 => ?_)) | ((with_reducible refine mk_lc ?_); refine l_if_le (tgt := 47) dX11_valuesIn_40 (by decide) (fun h40 => ?_) (fun h40 => ?_)) | ((with_reducible refine mk_n ?_); refine n_if_le (tgt := 47) dX11_valuesIn_40 (by decide) (by omega) (fun h40 => ?_) (fun h40 => ?_)) | refine e_if_le (tgt := 47) dX11_valuesIn_40 (by decide) (fun h40 => ?_) (fun h40 => ?_)
        · try first | contradiction | omega
          all_goals
            refine e_iconst (v := nI 0) dX11_valuesIn_47 rfl ?_
            first | ((with_reducible refine mk_nn ?_); refine n_iadd dX11_valuesIn_48 ?_) | refine e_iadd dX11_valuesIn_48 ?_
            refine e_istore_n dX11_valuesIn_49 rfl (Nat.le_of_ble_eq_true rfl) rfl ?_
            first | refine n_inc dX11_valuesIn_50 rfl (Nat.le_of_ble_eq_true rfl) rfl ?_ | refine e_iinc dX11_valuesIn_50 rfl rfl (Nat.le_of_ble_eq_true rfl) rfl ?_
            refine e_goto (tgt := 12) dX11_valuesIn_53 (by decide) ?_
            first | (rw [cnt_t (n := j) (p := fun j => decide (0 < w (1106 + 1000 * w (42 + i) + (w (10 + i) + j)))) (by simp_all)] at ih; exact ih) | (rw [cnt_f (n := j) (p := fun j => decide (0 < w (1106 + 1000 * w (42 + i) + (w (10 + i) + j)))) (by simp_all)] at ih; exact ih)
        · try first | contradiction | omega
          all_goals
            refine e_iconst (v := nI 1) dX11_valuesIn_43 rfl ?_
            refine e_goto (tgt := 48) dX11_valuesIn_44 (by decide) ?_
            first | ((with_reducible refine mk_nn ?_); refine n_iadd dX11_valuesIn_48 ?_) | refine e_iadd dX11_valuesIn_48 ?_
            refine e_istore_n dX11_valuesIn_49 rfl (Nat.le_of_ble_eq_true rfl) rfl ?_
            first | refine n_inc dX11_valuesIn_50 rfl (Nat.le_of_ble_eq_true rfl) rfl ?_ | refine e_iinc dX11_valuesIn_50 rfl rfl (Nat.le_of_ble_eq_true rfl) rfl ?_
            refine e_goto (tgt := 12) dX11_valuesIn_53 (by decide) ?_
            first | (rw [cnt_t (n := j) (p := fun j => decide (0 < w (1106 + 1000 * w (42 + i) + (w (10 + i) + j)))) (by simp_all)] at ih; exact ih) | (rw [cnt_f (n := j) (p := fun j => decide (0 < w (1106 + 1000 * w (42 + i) + (w (10 + i) + j)))) (by simp_all)] at ih; exact ih)
    )
  refine e_iconst (v := nI 0) dX11_valuesIn_0 rfl ?_
  refine e_istore_n dX11_valuesIn_1 rfl (Nat.le_of_ble_eq_true rfl) rfl ?_
  refine e_aload_n dX11_valuesIn_2 rfl rfl ?_
  refine e_getR dX11_valuesIn_3 fl_X11_7 rfl (by assumption) ?_
  refine e_bipush (v := nI 10) dX11_valuesIn_6 rfl ?_
  refine e_iload_n dX11_valuesIn_8 rfl rfl ?_
  first | ((with_reducible refine mk_nn ?_); refine n_iadd dX11_valuesIn_9 ?_) | refine e_iadd dX11_valuesIn_9 ?_
  first | ((with_reducible refine mk_ldw ?_); refine e_ldw dX11_valuesIn_10 (by omega) ?_) | refine e_iald _ dX11_valuesIn_10 ⟨by decide, by decide⟩ rfl rfl (by simp only [lenK]; omega) ?_
  refine e_istore_n dX11_valuesIn_11 rfl (Nat.le_of_ble_eq_true rfl) rfl ?_
  exact key 0 (by omega)
theorem ct_X11_movesBy {fi : FI} {fr : FR} {ai : FI} {ar : FR} {N : Nat} {w : Nat → Nat} (sm : SM fr) (iv : Inv w) {s e : Nat} (hs : s < 2147483648) (he : e = 3 ∨ e = 4) : CP mX11_movesBy 2 0 0 [.ref (rf 11 80), .int (nI s), .int (nI e)] fi fr (mW ai w) ar N (xQ (some (.int (nI (cnt (fun m => goB w m && decide (w (7694 + 72 * m + e) = s)) (w 3))))) fi fr (mW ai w) ar N) := by
  obtain ⟨sW, sA, sK, sU, sC, sKC, sT, sCl⟩ := id sm
  have h1 := iv_n iv
  have h3 := iv_mm iv
  change EV mX11_movesBy 2 0 0 0 [some (.ref (rf 11 80)), some (.int (nI s)), some (.int (nI e)), none, none] [] fi fr (mW ai w) ar N (xQ (some (.int (nI (cnt (fun m => goB w m && decide (w (7694 + 72 * m + e) = s)) (w 3))))) fi fr (mW ai w) ar N)
  have key := ev_up (P := (fun j => EV mX11_movesBy 2 0 0 5 [some (.ref (rf 11 80)), some (.int (nI s)), some (.int (nI e)), some (.int (nI (cnt (fun m => goB w m && decide (w (7694 + 72 * m + e) = s)) j))), some (.int (nI j))] [] fi fr (mW ai w) ar N (xQ (some (.int (nI (cnt (fun m => goB w m && decide (w (7694 + 72 * m + e) = s)) (w 3))))) fi fr (mW ai w) ar N))) (w 3) (fun j hj ih => by
    have hm := iv_mv iv hj
    have hq : w (7694 + 72 * j + e) < 6 := by rcases he with rfl | rfl <;> omega
    refine e_iload dX11_movesBy_5 rfl ?_
    refine e_aload_n dX11_movesBy_7 rfl rfl ?_
    refine e_getR dX11_movesBy_8 fl_X11_7 rfl (by assumption) ?_
    refine e_iconst (v := nI 3) dX11_movesBy_11 rfl ?_
    first | ((with_reducible refine mk_ldw ?_); refine e_ldw dX11_movesBy_12 (by omega) ?_) | refine e_iald _ dX11_movesBy_12 ⟨by decide, by decide⟩ rfl rfl (by simp only [lenK]; omega) ?_
    first | ((with_reducible refine mk_nn ?_); refine n_icmp_ge (tgt := 55) dX11_movesBy_13 (by decide) (by omega) (by omega) (fun h13 => ?_) (fun h13 => ?_)) | refine e_icmp_ge (tgt := 55) dX11_movesBy_13 (by decide) (fun h13 => ?_) (fun h13 => ?_)
    · try first | contradiction | omega
      all_goals
        refine e_iload_n dX11_movesBy_55 rfl rfl ?_
        refine e_ret (some _) rfl (r_int dX11_movesBy_56 rfl) ?_
        exact xq (by first | rfl | simp_all [bI_t, bI_f]) rfl rfl rfl rfl rfl
    · try first | contradiction | omega
      all_goals
        refine e_iload_n dX11_movesBy_16 rfl rfl ?_
        refine e_aload_n dX11_movesBy_17 rfl rfl ?_
        refine e_iload dX11_movesBy_18 rfl ?_
        refine x_V1 (M' := mX11_isGoing) dX11_movesBy_20 ml_X11_67 ok_X11_isGoing (by decide) rfl im_X11_isGoing se_X11_isGoing (ct_X11_isGoing ‹_› ‹_› (by omega)) (Nat.le_of_ble_eq_true rfl) (by decide) (Nat.le_of_ble_eq_true rfl) ?_
        first | ((with_reducible refine mk_b ?_); refine b_if_eq (tgt := 46) dX11_movesBy_23 (by decide) (fun h23 => ?_) (fun h23 => ?_)) | ((with_reducible refine mk_ll ?_); refine m_if_eq (tgt := 46) dX11_movesBy_23 (by decide) (by omega) (by omega) (fun h23 => ?_) (fun h23 => ?_)) | ((with_reducible refine mk_lc ?_); refine l_if_eq (tgt := 46) dX11_movesBy_23 (by decide) (fun h23 => ?_) (fun h23 => ?_)) | ((with_reducible refine mk_n ?_); refine n_if_eq (tgt := 46) dX11_movesBy_23 (by decide) (by omega) (fun h23 => ?_) (fun h23 => ?_)) | refine e_if_eq (tgt := 46) dX11_movesBy_23 (by decide) (fun h23 => ?_) (fun h23 => ?_)
        · try first | contradiction | omega
          all_goals
            refine e_iconst (v := nI 0) dX11_movesBy_46 rfl ?_
            first | ((with_reducible refine mk_nn ?_); refine n_iadd dX11_movesBy_47 ?_) | refine e_iadd dX11_movesBy_47 ?_
            refine e_istore_n dX11_movesBy_48 rfl (Nat.le_of_ble_eq_true rfl) rfl ?_
            first | refine n_inc dX11_movesBy_49 rfl (Nat.le_of_ble_eq_true rfl) rfl ?_ | refine e_iinc dX11_movesBy_49 rfl rfl (Nat.le_of_ble_eq_true rfl) rfl ?_
            refine e_goto (tgt := 5) dX11_movesBy_52 (by decide) ?_
            first | (rw [cnt_t (n := j) (p := fun m => goB w m && decide (w (7694 + 72 * m + e) = s)) (by simp_all)] at ih; exact ih) | (rw [cnt_f (n := j) (p := fun m => goB w m && decide (w (7694 + 72 * m + e) = s)) (by simp_all)] at ih; exact ih)
        · try first | contradiction | omega
          all_goals
            refine e_aload_n dX11_movesBy_26 rfl rfl ?_
            refine e_getR dX11_movesBy_27 fl_X11_7 rfl (by assumption) ?_
            refine e_iload dX11_movesBy_30 rfl ?_
            refine x_S1 (M' := mX11_moveAt) dX11_movesBy_32 ml_X11_62 ok_X11_moveAt rfl sc_X11_moveAt (ct_X11_moveAt) (Nat.le_of_ble_eq_true rfl) (by decide) (Nat.le_of_ble_eq_true rfl) ?_
            refine e_iload_n dX11_movesBy_35 rfl rfl ?_
            first | ((with_reducible refine mk_nn ?_); refine n_iadd dX11_movesBy_36 ?_) | refine e_iadd dX11_movesBy_36 ?_
            first | ((with_reducible refine mk_ldw ?_); refine e_ldw dX11_movesBy_37 (by omega) ?_) | refine e_iald _ dX11_movesBy_37 ⟨by decide, by decide⟩ rfl rfl (by simp only [lenK]; omega) ?_
            refine e_iload_n dX11_movesBy_38 rfl rfl ?_
            first | ((with_reducible refine mk_mo ?_); refine p_icmp_ne (tgt := 46) dX11_movesBy_39 (by decide) (fun h39 => ?_) (fun h39 => ?_)) | ((with_reducible refine mk_ms ?_); refine s_icmp_ne (tgt := 46) dX11_movesBy_39 (by decide) (by omega) (fun h39 => ?_) (fun h39 => ?_)) | ((with_reducible refine mk_mn ?_); refine q_icmp_ne (tgt := 46) dX11_movesBy_39 (by decide) (by omega) (fun h39 => ?_) (fun h39 => ?_)) | ((with_reducible refine mk_nn ?_); refine n_icmp_ne (tgt := 46) dX11_movesBy_39 (by decide) (by omega) (by omega) (fun h39 => ?_) (fun h39 => ?_)) | refine e_icmp_ne (tgt := 46) dX11_movesBy_39 (by decide) (fun h39 => ?_) (fun h39 => ?_)
            · try first | contradiction | omega
              all_goals
                refine e_iconst (v := nI 0) dX11_movesBy_46 rfl ?_
                first | ((with_reducible refine mk_nn ?_); refine n_iadd dX11_movesBy_47 ?_) | refine e_iadd dX11_movesBy_47 ?_
                refine e_istore_n dX11_movesBy_48 rfl (Nat.le_of_ble_eq_true rfl) rfl ?_
                first | refine n_inc dX11_movesBy_49 rfl (Nat.le_of_ble_eq_true rfl) rfl ?_ | refine e_iinc dX11_movesBy_49 rfl rfl (Nat.le_of_ble_eq_true rfl) rfl ?_
                refine e_goto (tgt := 5) dX11_movesBy_52 (by decide) ?_
                first | (rw [cnt_t (n := j) (p := fun m => goB w m && decide (w (7694 + 72 * m + e) = s)) (by simp_all)] at ih; exact ih) | (rw [cnt_f (n := j) (p := fun m => goB w m && decide (w (7694 + 72 * m + e) = s)) (by simp_all)] at ih; exact ih)
            · try first | contradiction | omega
              all_goals
                refine e_iconst (v := nI 1) dX11_movesBy_42 rfl ?_
                refine e_goto (tgt := 47) dX11_movesBy_43 (by decide) ?_
                first | ((with_reducible refine mk_nn ?_); refine n_iadd dX11_movesBy_47 ?_) | refine e_iadd dX11_movesBy_47 ?_
                refine e_istore_n dX11_movesBy_48 rfl (Nat.le_of_ble_eq_true rfl) rfl ?_
                first | refine n_inc dX11_movesBy_49 rfl (Nat.le_of_ble_eq_true rfl) rfl ?_ | refine e_iinc dX11_movesBy_49 rfl rfl (Nat.le_of_ble_eq_true rfl) rfl ?_
                refine e_goto (tgt := 5) dX11_movesBy_52 (by decide) ?_
                first | (rw [cnt_t (n := j) (p := fun m => goB w m && decide (w (7694 + 72 * m + e) = s)) (by simp_all)] at ih; exact ih) | (rw [cnt_f (n := j) (p := fun m => goB w m && decide (w (7694 + 72 * m + e) = s)) (by simp_all)] at ih; exact ih)
    ) (by
    refine e_iload dX11_movesBy_5 rfl ?_
    refine e_aload_n dX11_movesBy_7 rfl rfl ?_
    refine e_getR dX11_movesBy_8 fl_X11_7 rfl (by assumption) ?_
    refine e_iconst (v := nI 3) dX11_movesBy_11 rfl ?_
    first | ((with_reducible refine mk_ldw ?_); refine e_ldw dX11_movesBy_12 (by omega) ?_) | refine e_iald _ dX11_movesBy_12 ⟨by decide, by decide⟩ rfl rfl (by simp only [lenK]; omega) ?_
    first | ((with_reducible refine mk_nn ?_); refine n_icmp_ge (tgt := 55) dX11_movesBy_13 (by decide) (by omega) (by omega) (fun h13 => ?_) (fun h13 => ?_)) | refine e_icmp_ge (tgt := 55) dX11_movesBy_13 (by decide) (fun h13 => ?_) (fun h13 => ?_)
    · try first | contradiction | omega
      all_goals
        refine e_iload_n dX11_movesBy_55 rfl rfl ?_
        refine e_ret (some _) rfl (r_int dX11_movesBy_56 rfl) ?_
        exact xq rfl rfl rfl rfl rfl rfl
    · try first | contradiction | omega
      all_goals
        refine e_iload_n dX11_movesBy_16 rfl rfl ?_
        refine e_aload_n dX11_movesBy_17 rfl rfl ?_
        refine e_iload dX11_movesBy_18 rfl ?_
        refine x_V1 (M' := mX11_isGoing) dX11_movesBy_20 ml_X11_67 ok_X11_isGoing (by decide) rfl im_X11_isGoing se_X11_isGoing (ct_X11_isGoing ‹_› ‹_› (by omega)) (Nat.le_of_ble_eq_true rfl) (by decide) (Nat.le_of_ble_eq_true rfl) ?_
        first | ((with_reducible refine mk_b ?_); refine b_if_eq (tgt := 46) dX11_movesBy_23 (by decide) (fun h23 => ?_) (fun h23 => ?_)) | ((with_reducible refine mk_ll ?_); refine m_if_eq (tgt := 46) dX11_movesBy_23 (by decide) (by omega) (by omega) (fun h23 => ?_) (fun h23 => ?_)) | ((with_reducible refine mk_lc ?_); refine l_if_eq (tgt := 46) dX11_movesBy_23 (by decide) (fun h23 => ?_) (fun h23 => ?_)) | ((with_reducible refine mk_n ?_); refine n_if_eq (tgt := 46) dX11_movesBy_23 (by decide) (by omega) (fun h23 => ?_) (fun h23 => ?_)) | refine e_if_eq (tgt := 46) dX11_movesBy_23 (by decide) (fun h23 => ?_) (fun h23 => ?_)
        · try first | contradiction | omega
          all_goals
            refine e_iconst (v := nI 0) dX11_movesBy_46 rfl ?_
            first | ((with_reducible refine mk_nn ?_); refine n_iadd dX11_movesBy_47 ?_) | refine e_iadd dX11_movesBy_47 ?_
            refine e_istore_n dX11_movesBy_48 rfl (Nat.le_of_ble_eq_true rfl) rfl ?_
            first | refine n_inc dX11_movesBy_49 rfl (Nat.le_of_ble_eq_true rfl) rfl ?_ | refine e_iinc dX11_movesBy_49 rfl rfl (Nat.le_of_ble_eq_true rfl) rfl ?_
            refine e_goto (tgt := 5) dX11_movesBy_52 (by decide) ?_
            first | (rw [cnt_t (n := j) (p := fun m => goB w m && decide (w (7694 + 72 * m + e) = s)) (by simp_all)] at ih; exact ih) | (rw [cnt_f (n := j) (p := fun m => goB w m && decide (w (7694 + 72 * m + e) = s)) (by simp_all)] at ih; exact ih)
        · try first | contradiction | omega
          all_goals
            refine e_aload_n dX11_movesBy_26 rfl rfl ?_
            refine e_getR dX11_movesBy_27 fl_X11_7 rfl (by assumption) ?_
            refine e_iload dX11_movesBy_30 rfl ?_
            refine x_S1 (M' := mX11_moveAt) dX11_movesBy_32 ml_X11_62 ok_X11_moveAt rfl sc_X11_moveAt (ct_X11_moveAt) (Nat.le_of_ble_eq_true rfl) (by decide) (Nat.le_of_ble_eq_true rfl) ?_
            refine e_iload_n dX11_movesBy_35 rfl rfl ?_
            first | ((with_reducible refine mk_nn ?_); refine n_iadd dX11_movesBy_36 ?_) | refine e_iadd dX11_movesBy_36 ?_
            first | ((with_reducible refine mk_ldw ?_); refine e_ldw dX11_movesBy_37 (by omega) ?_) | refine e_iald _ dX11_movesBy_37 ⟨by decide, by decide⟩ rfl rfl (by simp only [lenK]; omega) ?_
            refine e_iload_n dX11_movesBy_38 rfl rfl ?_
            first | ((with_reducible refine mk_mo ?_); refine p_icmp_ne (tgt := 46) dX11_movesBy_39 (by decide) (fun h39 => ?_) (fun h39 => ?_)) | ((with_reducible refine mk_ms ?_); refine s_icmp_ne (tgt := 46) dX11_movesBy_39 (by decide) (by omega) (fun h39 => ?_) (fun h39 => ?_)) | ((with_reducible refine mk_mn ?_); refine q_icmp_ne (tgt := 46) dX11_movesBy_39 (by decide) (by omega) (fun h39 => ?_) (fun h39 => ?_)) | ((with_reducible refine mk_nn ?_); refine n_icmp_ne (tgt := 46) dX11_movesBy_39 (by decide) (by omega) (by omega) (fun h39 => ?_) (fun h39 => ?_)) | refine e_icmp_ne (tgt := 46) dX11_movesBy_39 (by decide) (fun h39 => ?_) (fun h39 => ?_)
            · try first | contradiction | omega
              all_goals
                refine e_iconst (v := nI 0) dX11_movesBy_46 rfl ?_
                first | ((with_reducible refine mk_nn ?_); refine n_iadd dX11_movesBy_47 ?_) | refine e_iadd dX11_movesBy_47 ?_
                refine e_istore_n dX11_movesBy_48 rfl (Nat.le_of_ble_eq_true rfl) rfl ?_
                first | refine n_inc dX11_movesBy_49 rfl (Nat.le_of_ble_eq_true rfl) rfl ?_ | refine e_iinc dX11_movesBy_49 rfl rfl (Nat.le_of_ble_eq_true rfl) rfl ?_
                refine e_goto (tgt := 5) dX11_movesBy_52 (by decide) ?_
                first | (rw [cnt_t (n := j) (p := fun m => goB w m && decide (w (7694 + 72 * m + e) = s)) (by simp_all)] at ih; exact ih) | (rw [cnt_f (n := j) (p := fun m => goB w m && decide (w (7694 + 72 * m + e) = s)) (by simp_all)] at ih; exact ih)
            · try first | contradiction | omega
              all_goals
                refine e_iconst (v := nI 1) dX11_movesBy_42 rfl ?_
                refine e_goto (tgt := 47) dX11_movesBy_43 (by decide) ?_
                first | ((with_reducible refine mk_nn ?_); refine n_iadd dX11_movesBy_47 ?_) | refine e_iadd dX11_movesBy_47 ?_
                refine e_istore_n dX11_movesBy_48 rfl (Nat.le_of_ble_eq_true rfl) rfl ?_
                first | refine n_inc dX11_movesBy_49 rfl (Nat.le_of_ble_eq_true rfl) rfl ?_ | refine e_iinc dX11_movesBy_49 rfl rfl (Nat.le_of_ble_eq_true rfl) rfl ?_
                refine e_goto (tgt := 5) dX11_movesBy_52 (by decide) ?_
                first | (rw [cnt_t (n := j) (p := fun m => goB w m && decide (w (7694 + 72 * m + e) = s)) (by simp_all)] at ih; exact ih) | (rw [cnt_f (n := j) (p := fun m => goB w m && decide (w (7694 + 72 * m + e) = s)) (by simp_all)] at ih; exact ih)
    )
  refine e_iconst (v := nI 0) dX11_movesBy_0 rfl ?_
  refine e_istore_n dX11_movesBy_1 rfl (Nat.le_of_ble_eq_true rfl) rfl ?_
  refine e_iconst (v := nI 0) dX11_movesBy_2 rfl ?_
  refine e_istore dX11_movesBy_3 (Nat.le_of_ble_eq_true rfl) rfl ?_
  exact key 0 (by omega)
theorem ct_X11_isFrozenSpan {fi : FI} {fr : FR} {ai : FI} {ar : FR} {N : Nat} {w : Nat → Nat} (sm : SM fr) (iv : Inv w) {i : Nat} (hi : i < w 1) : CP mX11_isFrozenSpan 3 0 0 [.ref (rf 11 80), .int (nI i)] fi fr (mW ai w) ar N (xQ (some (.int (bI (fzS w i)))) fi fr (mW ai w) ar N) := by
  obtain ⟨sW, sA, sK, sU, sC, sKC, sT, sCl⟩ := id sm
  have h1 := iv_n iv
  have h3 := iv_mm iv
  change EV mX11_isFrozenSpan 3 0 0 0 [some (.ref (rf 11 80)), some (.int (nI i)), none] [] fi fr (mW ai w) ar N (xQ (some (.int (bI (fzS w i)))) fi fr (mW ai w) ar N)
  cases hmv : mvL w (w (10 + i)) with
  | none =>
    have e : fzS w i = false := by unfold fzS; rw [hmv]
    rw [e]
    refine e_aload_n dX11_isFrozenSpan_0 rfl rfl ?_
    refine e_iload_n dX11_isFrozenSpan_1 rfl rfl ?_
    refine x_V1 (M' := mX11_moveOfSpan) dX11_isFrozenSpan_2 ml_X11_79 ok_X11_moveOfSpan (by decide) rfl im_X11_moveOfSpan se_X11_moveOfSpan (ct_X11_moveOfSpan ‹_› ‹_› (by omega)) (Nat.le_of_ble_eq_true rfl) (by decide) (Nat.le_of_ble_eq_true rfl) ?_
    rw [hmv]
    refine e_istore_n dX11_isFrozenSpan_5 rfl (Nat.le_of_ble_eq_true rfl) rfl ?_
    refine e_iload_n dX11_isFrozenSpan_6 rfl rfl ?_
    refine e_iconst (v := -1) dX11_isFrozenSpan_7 rfl ?_
    first | ((with_reducible refine mk_mo ?_); refine p_icmp_eq (tgt := 30) dX11_isFrozenSpan_8 (by decide) (fun h8 => ?_) (fun h8 => ?_)) | ((with_reducible refine mk_ms ?_); refine s_icmp_eq (tgt := 30) dX11_isFrozenSpan_8 (by decide) (by omega) (fun h8 => ?_) (fun h8 => ?_)) | ((with_reducible refine mk_mn ?_); refine q_icmp_eq (tgt := 30) dX11_isFrozenSpan_8 (by decide) (by omega) (fun h8 => ?_) (fun h8 => ?_)) | ((with_reducible refine mk_nn ?_); refine n_icmp_eq (tgt := 30) dX11_isFrozenSpan_8 (by decide) (by omega) (by omega) (fun h8 => ?_) (fun h8 => ?_)) | refine e_icmp_eq (tgt := 30) dX11_isFrozenSpan_8 (by decide) (fun h8 => ?_) (fun h8 => ?_)
    · try first | contradiction | omega
      all_goals
        refine e_iconst (v := nI 0) dX11_isFrozenSpan_30 rfl ?_
        first | ((with_reducible refine mk_b ?_); refine e_ret (some _) rfl (r_bool dX11_isFrozenSpan_31 rfl) ?_) | ((with_reducible refine mk_n1 ?_); refine e_ret (some _) rfl (r_b1 dX11_isFrozenSpan_31 rfl) ?_) | ((with_reducible refine mk_n0 ?_); refine e_ret (some _) rfl (r_b0 dX11_isFrozenSpan_31 rfl) ?_)
        exact xq (by first | rfl | simp_all [bI_t, bI_f]) rfl rfl rfl rfl rfl
    · try first | contradiction | omega
      all_goals
        refine e_aload_n dX11_isFrozenSpan_11 rfl rfl ?_
        refine e_getR dX11_isFrozenSpan_12 fl_X11_7 rfl (by assumption) ?_
        refine e_iload_n dX11_isFrozenSpan_15 rfl rfl ?_
        refine x_S1 (M' := mX11_moveAt) dX11_isFrozenSpan_16 ml_X11_62 ok_X11_moveAt rfl sc_X11_moveAt (ct_X11_moveAt) (Nat.le_of_ble_eq_true rfl) (by decide) (Nat.le_of_ble_eq_true rfl) ?_
        refine e_iconst (v := nI 0) dX11_isFrozenSpan_19 rfl ?_
        first | ((with_reducible refine mk_nn ?_); refine n_iadd dX11_isFrozenSpan_20 ?_) | refine e_iadd dX11_isFrozenSpan_20 ?_
        first | ((with_reducible refine mk_ldw ?_); refine e_ldw dX11_isFrozenSpan_21 (by omega) ?_) | refine e_iald _ dX11_isFrozenSpan_21 ⟨by decide, by decide⟩ rfl rfl (by simp only [lenK]; omega) ?_
        refine e_iconst (v := nI 3) dX11_isFrozenSpan_22 rfl ?_
        first | ((with_reducible refine mk_mo ?_); refine p_icmp_ne (tgt := 30) dX11_isFrozenSpan_23 (by decide) (fun h23 => ?_) (fun h23 => ?_)) | ((with_reducible refine mk_ms ?_); refine s_icmp_ne (tgt := 30) dX11_isFrozenSpan_23 (by decide) (by omega) (fun h23 => ?_) (fun h23 => ?_)) | ((with_reducible refine mk_mn ?_); refine q_icmp_ne (tgt := 30) dX11_isFrozenSpan_23 (by decide) (by omega) (fun h23 => ?_) (fun h23 => ?_)) | ((with_reducible refine mk_nn ?_); refine n_icmp_ne (tgt := 30) dX11_isFrozenSpan_23 (by decide) (by omega) (by omega) (fun h23 => ?_) (fun h23 => ?_)) | refine e_icmp_ne (tgt := 30) dX11_isFrozenSpan_23 (by decide) (fun h23 => ?_) (fun h23 => ?_)
        · try first | contradiction | omega
          all_goals
            refine e_iconst (v := nI 0) dX11_isFrozenSpan_30 rfl ?_
            first | ((with_reducible refine mk_b ?_); refine e_ret (some _) rfl (r_bool dX11_isFrozenSpan_31 rfl) ?_) | ((with_reducible refine mk_n1 ?_); refine e_ret (some _) rfl (r_b1 dX11_isFrozenSpan_31 rfl) ?_) | ((with_reducible refine mk_n0 ?_); refine e_ret (some _) rfl (r_b0 dX11_isFrozenSpan_31 rfl) ?_)
            exact xq (by first | rfl | simp_all [bI_t, bI_f]) rfl rfl rfl rfl rfl
        · try first | contradiction | omega
          all_goals
            refine e_iconst (v := nI 1) dX11_isFrozenSpan_26 rfl ?_
            refine e_goto (tgt := 31) dX11_isFrozenSpan_27 (by decide) ?_
            first | ((with_reducible refine mk_b ?_); refine e_ret (some _) rfl (r_bool dX11_isFrozenSpan_31 rfl) ?_) | ((with_reducible refine mk_n1 ?_); refine e_ret (some _) rfl (r_b1 dX11_isFrozenSpan_31 rfl) ?_) | ((with_reducible refine mk_n0 ?_); refine e_ret (some _) rfl (r_b0 dX11_isFrozenSpan_31 rfl) ?_)
            exact xq (by first | rfl | simp_all [bI_t, bI_f]) rfl rfl rfl rfl rfl
  | some m =>
    have hm := mvL_lt hmv
    have hq := iv_mv iv hm
    have e : fzS w i = decide (w (7694 + 72 * m + 0) = 3) := by unfold fzS; rw [hmv]
    rw [e]
    refine e_aload_n dX11_isFrozenSpan_0 rfl rfl ?_
    refine e_iload_n dX11_isFrozenSpan_1 rfl rfl ?_
    refine x_V1 (M' := mX11_moveOfSpan) dX11_isFrozenSpan_2 ml_X11_79 ok_X11_moveOfSpan (by decide) rfl im_X11_moveOfSpan se_X11_moveOfSpan (ct_X11_moveOfSpan ‹_› ‹_› (by omega)) (Nat.le_of_ble_eq_true rfl) (by decide) (Nat.le_of_ble_eq_true rfl) ?_
    rw [hmv]
    refine e_istore_n dX11_isFrozenSpan_5 rfl (Nat.le_of_ble_eq_true rfl) rfl ?_
    refine e_iload_n dX11_isFrozenSpan_6 rfl rfl ?_
    refine e_iconst (v := -1) dX11_isFrozenSpan_7 rfl ?_
    first | ((with_reducible refine mk_mo ?_); refine p_icmp_eq (tgt := 30) dX11_isFrozenSpan_8 (by decide) (fun h8 => ?_) (fun h8 => ?_)) | ((with_reducible refine mk_ms ?_); refine s_icmp_eq (tgt := 30) dX11_isFrozenSpan_8 (by decide) (by omega) (fun h8 => ?_) (fun h8 => ?_)) | ((with_reducible refine mk_mn ?_); refine q_icmp_eq (tgt := 30) dX11_isFrozenSpan_8 (by decide) (by omega) (fun h8 => ?_) (fun h8 => ?_)) | ((with_reducible refine mk_nn ?_); refine n_icmp_eq (tgt := 30) dX11_isFrozenSpan_8 (by decide) (by omega) (by omega) (fun h8 => ?_) (fun h8 => ?_)) | refine e_icmp_eq (tgt := 30) dX11_isFrozenSpan_8 (by decide) (fun h8 => ?_) (fun h8 => ?_)
    · try first | contradiction | omega
      all_goals
        refine e_iconst (v := nI 0) dX11_isFrozenSpan_30 rfl ?_
        first | ((with_reducible refine mk_b ?_); refine e_ret (some _) rfl (r_bool dX11_isFrozenSpan_31 rfl) ?_) | ((with_reducible refine mk_n1 ?_); refine e_ret (some _) rfl (r_b1 dX11_isFrozenSpan_31 rfl) ?_) | ((with_reducible refine mk_n0 ?_); refine e_ret (some _) rfl (r_b0 dX11_isFrozenSpan_31 rfl) ?_)
        exact xq (by first | rfl | simp_all [bI_t, bI_f]) rfl rfl rfl rfl rfl
    · try first | contradiction | omega
      all_goals
        refine e_aload_n dX11_isFrozenSpan_11 rfl rfl ?_
        refine e_getR dX11_isFrozenSpan_12 fl_X11_7 rfl (by assumption) ?_
        refine e_iload_n dX11_isFrozenSpan_15 rfl rfl ?_
        refine x_S1 (M' := mX11_moveAt) dX11_isFrozenSpan_16 ml_X11_62 ok_X11_moveAt rfl sc_X11_moveAt (ct_X11_moveAt) (Nat.le_of_ble_eq_true rfl) (by decide) (Nat.le_of_ble_eq_true rfl) ?_
        refine e_iconst (v := nI 0) dX11_isFrozenSpan_19 rfl ?_
        first | ((with_reducible refine mk_nn ?_); refine n_iadd dX11_isFrozenSpan_20 ?_) | refine e_iadd dX11_isFrozenSpan_20 ?_
        first | ((with_reducible refine mk_ldw ?_); refine e_ldw dX11_isFrozenSpan_21 (by omega) ?_) | refine e_iald _ dX11_isFrozenSpan_21 ⟨by decide, by decide⟩ rfl rfl (by simp only [lenK]; omega) ?_
        refine e_iconst (v := nI 3) dX11_isFrozenSpan_22 rfl ?_
        first | ((with_reducible refine mk_mo ?_); refine p_icmp_ne (tgt := 30) dX11_isFrozenSpan_23 (by decide) (fun h23 => ?_) (fun h23 => ?_)) | ((with_reducible refine mk_ms ?_); refine s_icmp_ne (tgt := 30) dX11_isFrozenSpan_23 (by decide) (by omega) (fun h23 => ?_) (fun h23 => ?_)) | ((with_reducible refine mk_mn ?_); refine q_icmp_ne (tgt := 30) dX11_isFrozenSpan_23 (by decide) (by omega) (fun h23 => ?_) (fun h23 => ?_)) | ((with_reducible refine mk_nn ?_); refine n_icmp_ne (tgt := 30) dX11_isFrozenSpan_23 (by decide) (by omega) (by omega) (fun h23 => ?_) (fun h23 => ?_)) | refine e_icmp_ne (tgt := 30) dX11_isFrozenSpan_23 (by decide) (fun h23 => ?_) (fun h23 => ?_)
        · try first | contradiction | omega
          all_goals
            refine e_iconst (v := nI 0) dX11_isFrozenSpan_30 rfl ?_
            first | ((with_reducible refine mk_b ?_); refine e_ret (some _) rfl (r_bool dX11_isFrozenSpan_31 rfl) ?_) | ((with_reducible refine mk_n1 ?_); refine e_ret (some _) rfl (r_b1 dX11_isFrozenSpan_31 rfl) ?_) | ((with_reducible refine mk_n0 ?_); refine e_ret (some _) rfl (r_b0 dX11_isFrozenSpan_31 rfl) ?_)
            exact xq (by first | rfl | simp_all [bI_t, bI_f]) rfl rfl rfl rfl rfl
        · try first | contradiction | omega
          all_goals
            refine e_iconst (v := nI 1) dX11_isFrozenSpan_26 rfl ?_
            refine e_goto (tgt := 31) dX11_isFrozenSpan_27 (by decide) ?_
            first | ((with_reducible refine mk_b ?_); refine e_ret (some _) rfl (r_bool dX11_isFrozenSpan_31 rfl) ?_) | ((with_reducible refine mk_n1 ?_); refine e_ret (some _) rfl (r_b1 dX11_isFrozenSpan_31 rfl) ?_) | ((with_reducible refine mk_n0 ?_); refine e_ret (some _) rfl (r_b0 dX11_isFrozenSpan_31 rfl) ?_)
            exact xq (by first | rfl | simp_all [bI_t, bI_f]) rfl rfl rfl rfl rfl
theorem ct_X11_frozenOnes {fi : FI} {fr : FR} {ai : FI} {ar : FR} {N : Nat} {w : Nat → Nat} (sm : SM fr) (iv : Inv w)  : CP mX11_frozenOnes 4 0 0 [.ref (rf 11 80)] fi fr (mW ai w) ar N (xQ (some (.int (nI (cnt (fzS w) (w 1))))) fi fr (mW ai w) ar N) := by
  obtain ⟨sW, sA, sK, sU, sC, sKC, sT, sCl⟩ := id sm
  have h1 := iv_n iv
  have h3 := iv_mm iv
  change EV mX11_frozenOnes 4 0 0 0 [some (.ref (rf 11 80)), none, none] [] fi fr (mW ai w) ar N (xQ (some (.int (nI (cnt (fzS w) (w 1))))) fi fr (mW ai w) ar N)
  have key := ev_up (P := (fun j => EV mX11_frozenOnes 4 0 0 4 [some (.ref (rf 11 80)), some (.int (nI (cnt (fzS w) j))), some (.int (nI j))] [] fi fr (mW ai w) ar N (xQ (some (.int (nI (cnt (fzS w) (w 1))))) fi fr (mW ai w) ar N))) (w 1) (fun j hj ih => by
    refine e_iload_n dX11_frozenOnes_4 rfl rfl ?_
    refine e_aload_n dX11_frozenOnes_5 rfl rfl ?_
    refine e_getR dX11_frozenOnes_6 fl_X11_7 rfl (by assumption) ?_
    refine e_iconst (v := nI 1) dX11_frozenOnes_9 rfl ?_
    first | ((with_reducible refine mk_ldw ?_); refine e_ldw dX11_frozenOnes_10 (by omega) ?_) | refine e_iald _ dX11_frozenOnes_10 ⟨by decide, by decide⟩ rfl rfl (by simp only [lenK]; omega) ?_
    first | ((with_reducible refine mk_nn ?_); refine n_icmp_ge (tgt := 36) dX11_frozenOnes_11 (by decide) (by omega) (by omega) (fun h11 => ?_) (fun h11 => ?_)) | refine e_icmp_ge (tgt := 36) dX11_frozenOnes_11 (by decide) (fun h11 => ?_) (fun h11 => ?_)
    · try first | contradiction | omega
      all_goals
        refine e_iload_n dX11_frozenOnes_36 rfl rfl ?_
        refine e_ret (some _) rfl (r_int dX11_frozenOnes_37 rfl) ?_
        exact xq (by first | rfl | simp_all [bI_t, bI_f]) rfl rfl rfl rfl rfl
    · try first | contradiction | omega
      all_goals
        refine e_iload_n dX11_frozenOnes_14 rfl rfl ?_
        refine e_aload_n dX11_frozenOnes_15 rfl rfl ?_
        refine e_iload_n dX11_frozenOnes_16 rfl rfl ?_
        refine x_V1 (M' := mX11_isFrozenSpan) dX11_frozenOnes_17 ml_X11_320 ok_X11_isFrozenSpan (by decide) rfl im_X11_isFrozenSpan se_X11_isFrozenSpan (ct_X11_isFrozenSpan ‹_› ‹_› (by omega)) (Nat.le_of_ble_eq_true rfl) (by decide) (Nat.le_of_ble_eq_true rfl) ?_
        first | ((with_reducible refine mk_b ?_); refine b_if_eq (tgt := 27) dX11_frozenOnes_20 (by decide) (fun h20 => ?_) (fun h20 => ?_)) | ((with_reducible refine mk_ll ?_); refine m_if_eq (tgt := 27) dX11_frozenOnes_20 (by decide) (by omega) (by omega) (fun h20 => ?_) (fun h20 => ?_)) | ((with_reducible refine mk_lc ?_); refine l_if_eq (tgt := 27) dX11_frozenOnes_20 (by decide) (fun h20 => ?_) (fun h20 => ?_)) | ((with_reducible refine mk_n ?_); refine n_if_eq (tgt := 27) dX11_frozenOnes_20 (by decide) (by omega) (fun h20 => ?_) (fun h20 => ?_)) | refine e_if_eq (tgt := 27) dX11_frozenOnes_20 (by decide) (fun h20 => ?_) (fun h20 => ?_)
        · try first | contradiction | omega
          all_goals
            refine e_iconst (v := nI 0) dX11_frozenOnes_27 rfl ?_
            first | ((with_reducible refine mk_nn ?_); refine n_iadd dX11_frozenOnes_28 ?_) | refine e_iadd dX11_frozenOnes_28 ?_
            refine e_istore_n dX11_frozenOnes_29 rfl (Nat.le_of_ble_eq_true rfl) rfl ?_
            first | refine n_inc dX11_frozenOnes_30 rfl (Nat.le_of_ble_eq_true rfl) rfl ?_ | refine e_iinc dX11_frozenOnes_30 rfl rfl (Nat.le_of_ble_eq_true rfl) rfl ?_
            refine e_goto (tgt := 4) dX11_frozenOnes_33 (by decide) ?_
            first | (rw [cnt_t (n := j) (p := fzS w) (by simp_all)] at ih; exact ih) | (rw [cnt_f (n := j) (p := fzS w) (by simp_all)] at ih; exact ih)
        · try first | contradiction | omega
          all_goals
            refine e_iconst (v := nI 1) dX11_frozenOnes_23 rfl ?_
            refine e_goto (tgt := 28) dX11_frozenOnes_24 (by decide) ?_
            first | ((with_reducible refine mk_nn ?_); refine n_iadd dX11_frozenOnes_28 ?_) | refine e_iadd dX11_frozenOnes_28 ?_
            refine e_istore_n dX11_frozenOnes_29 rfl (Nat.le_of_ble_eq_true rfl) rfl ?_
            first | refine n_inc dX11_frozenOnes_30 rfl (Nat.le_of_ble_eq_true rfl) rfl ?_ | refine e_iinc dX11_frozenOnes_30 rfl rfl (Nat.le_of_ble_eq_true rfl) rfl ?_
            refine e_goto (tgt := 4) dX11_frozenOnes_33 (by decide) ?_
            first | (rw [cnt_t (n := j) (p := fzS w) (by simp_all)] at ih; exact ih) | (rw [cnt_f (n := j) (p := fzS w) (by simp_all)] at ih; exact ih)
    ) (by
    refine e_iload_n dX11_frozenOnes_4 rfl rfl ?_
    refine e_aload_n dX11_frozenOnes_5 rfl rfl ?_
    refine e_getR dX11_frozenOnes_6 fl_X11_7 rfl (by assumption) ?_
    refine e_iconst (v := nI 1) dX11_frozenOnes_9 rfl ?_
    first | ((with_reducible refine mk_ldw ?_); refine e_ldw dX11_frozenOnes_10 (by omega) ?_) | refine e_iald _ dX11_frozenOnes_10 ⟨by decide, by decide⟩ rfl rfl (by simp only [lenK]; omega) ?_
    first | ((with_reducible refine mk_nn ?_); refine n_icmp_ge (tgt := 36) dX11_frozenOnes_11 (by decide) (by omega) (by omega) (fun h11 => ?_) (fun h11 => ?_)) | refine e_icmp_ge (tgt := 36) dX11_frozenOnes_11 (by decide) (fun h11 => ?_) (fun h11 => ?_)
    · try first | contradiction | omega
      all_goals
        refine e_iload_n dX11_frozenOnes_36 rfl rfl ?_
        refine e_ret (some _) rfl (r_int dX11_frozenOnes_37 rfl) ?_
        exact xq rfl rfl rfl rfl rfl rfl
    · try first | contradiction | omega
      all_goals
        refine e_iload_n dX11_frozenOnes_14 rfl rfl ?_
        refine e_aload_n dX11_frozenOnes_15 rfl rfl ?_
        refine e_iload_n dX11_frozenOnes_16 rfl rfl ?_
        refine x_V1 (M' := mX11_isFrozenSpan) dX11_frozenOnes_17 ml_X11_320 ok_X11_isFrozenSpan (by decide) rfl im_X11_isFrozenSpan se_X11_isFrozenSpan (ct_X11_isFrozenSpan ‹_› ‹_› (by omega)) (Nat.le_of_ble_eq_true rfl) (by decide) (Nat.le_of_ble_eq_true rfl) ?_
        first | ((with_reducible refine mk_b ?_); refine b_if_eq (tgt := 27) dX11_frozenOnes_20 (by decide) (fun h20 => ?_) (fun h20 => ?_)) | ((with_reducible refine mk_ll ?_); refine m_if_eq (tgt := 27) dX11_frozenOnes_20 (by decide) (by omega) (by omega) (fun h20 => ?_) (fun h20 => ?_)) | ((with_reducible refine mk_lc ?_); refine l_if_eq (tgt := 27) dX11_frozenOnes_20 (by decide) (fun h20 => ?_) (fun h20 => ?_)) | ((with_reducible refine mk_n ?_); refine n_if_eq (tgt := 27) dX11_frozenOnes_20 (by decide) (by omega) (fun h20 => ?_) (fun h20 => ?_)) | refine e_if_eq (tgt := 27) dX11_frozenOnes_20 (by decide) (fun h20 => ?_) (fun h20 => ?_)
        · try first | contradiction | omega
          all_goals
            refine e_iconst (v := nI 0) dX11_frozenOnes_27 rfl ?_
            first | ((with_reducible refine mk_nn ?_); refine n_iadd dX11_frozenOnes_28 ?_) | refine e_iadd dX11_frozenOnes_28 ?_
            refine e_istore_n dX11_frozenOnes_29 rfl (Nat.le_of_ble_eq_true rfl) rfl ?_
            first | refine n_inc dX11_frozenOnes_30 rfl (Nat.le_of_ble_eq_true rfl) rfl ?_ | refine e_iinc dX11_frozenOnes_30 rfl rfl (Nat.le_of_ble_eq_true rfl) rfl ?_
            refine e_goto (tgt := 4) dX11_frozenOnes_33 (by decide) ?_
            first | (rw [cnt_t (n := j) (p := fzS w) (by simp_all)] at ih; exact ih) | (rw [cnt_f (n := j) (p := fzS w) (by simp_all)] at ih; exact ih)
        · try first | contradiction | omega
          all_goals
            refine e_iconst (v := nI 1) dX11_frozenOnes_23 rfl ?_
            refine e_goto (tgt := 28) dX11_frozenOnes_24 (by decide) ?_
            first | ((with_reducible refine mk_nn ?_); refine n_iadd dX11_frozenOnes_28 ?_) | refine e_iadd dX11_frozenOnes_28 ?_
            refine e_istore_n dX11_frozenOnes_29 rfl (Nat.le_of_ble_eq_true rfl) rfl ?_
            first | refine n_inc dX11_frozenOnes_30 rfl (Nat.le_of_ble_eq_true rfl) rfl ?_ | refine e_iinc dX11_frozenOnes_30 rfl rfl (Nat.le_of_ble_eq_true rfl) rfl ?_
            refine e_goto (tgt := 4) dX11_frozenOnes_33 (by decide) ?_
            first | (rw [cnt_t (n := j) (p := fzS w) (by simp_all)] at ih; exact ih) | (rw [cnt_f (n := j) (p := fzS w) (by simp_all)] at ih; exact ih)
    )
  refine e_iconst (v := nI 0) dX11_frozenOnes_0 rfl ?_
  refine e_istore_n dX11_frozenOnes_1 rfl (Nat.le_of_ble_eq_true rfl) rfl ?_
  refine e_iconst (v := nI 0) dX11_frozenOnes_2 rfl ?_
  refine e_istore_n dX11_frozenOnes_3 rfl (Nat.le_of_ble_eq_true rfl) rfl ?_
  exact key 0 (by omega)
theorem ct_X11_owners {fi : FI} {fr : FR} {ai : FI} {ar : FR} {N : Nat} {w : Nat → Nat} (sm : SM fr) (iv : Inv w)  : CP mX11_owners 2 0 0 [.ref (rf 11 80)] fi fr (mW ai w) ar N (xQ (some (.int (nI (rs (viF w) 0 (w 1))))) fi fr (mW ai w) ar N) := by
  obtain ⟨sW, sA, sK, sU, sC, sKC, sT, sCl⟩ := id sm
  have h1 := iv_n iv
  have h3 := iv_mm iv
  change EV mX11_owners 2 0 0 0 [some (.ref (rf 11 80)), none, none] [] fi fr (mW ai w) ar N (xQ (some (.int (nI (rs (viF w) 0 (w 1))))) fi fr (mW ai w) ar N)
  have key := ev_up (P := (fun j => EV mX11_owners 2 0 0 4 [some (.ref (rf 11 80)), some (.int (nI (rs (viF w) 0 j))), some (.int (nI j))] [] fi fr (mW ai w) ar N (xQ (some (.int (nI (rs (viF w) 0 (w 1))))) fi fr (mW ai w) ar N))) (w 1) (fun j hj ih => by
    refine e_iload_n dX11_owners_4 rfl rfl ?_
    refine e_aload_n dX11_owners_5 rfl rfl ?_
    refine e_getR dX11_owners_6 fl_X11_7 rfl (by assumption) ?_
    refine e_iconst (v := nI 1) dX11_owners_9 rfl ?_
    first | ((with_reducible refine mk_ldw ?_); refine e_ldw dX11_owners_10 (by omega) ?_) | refine e_iald _ dX11_owners_10 ⟨by decide, by decide⟩ rfl rfl (by simp only [lenK]; omega) ?_
    first | ((with_reducible refine mk_nn ?_); refine n_icmp_ge (tgt := 28) dX11_owners_11 (by decide) (by omega) (by omega) (fun h11 => ?_) (fun h11 => ?_)) | refine e_icmp_ge (tgt := 28) dX11_owners_11 (by decide) (fun h11 => ?_) (fun h11 => ?_)
    · try first | contradiction | omega
      all_goals
        refine e_iload_n dX11_owners_28 rfl rfl ?_
        refine e_ret (some _) rfl (r_int dX11_owners_29 rfl) ?_
        exact xq (by first | rfl | simp_all [bI_t, bI_f]) rfl rfl rfl rfl rfl
    · try first | contradiction | omega
      all_goals
        refine e_iload_n dX11_owners_14 rfl rfl ?_
        refine e_aload_n dX11_owners_15 rfl rfl ?_
        refine e_iload_n dX11_owners_16 rfl rfl ?_
        refine x_V1 (M' := mX11_valuesIn) dX11_owners_17 ml_X11_323 ok_X11_valuesIn (by decide) rfl im_X11_valuesIn se_X11_valuesIn (ct_X11_valuesIn ‹_› ‹_› (by omega)) (Nat.le_of_ble_eq_true rfl) (by decide) (Nat.le_of_ble_eq_true rfl) ?_
        first | ((with_reducible refine mk_nn ?_); refine n_iadd dX11_owners_20 ?_) | refine e_iadd dX11_owners_20 ?_
        refine e_istore_n dX11_owners_21 rfl (Nat.le_of_ble_eq_true rfl) rfl ?_
        first | refine n_inc dX11_owners_22 rfl (Nat.le_of_ble_eq_true rfl) rfl ?_ | refine e_iinc dX11_owners_22 rfl rfl (Nat.le_of_ble_eq_true rfl) rfl ?_
        refine e_goto (tgt := 4) dX11_owners_25 (by decide) ?_
        rw [rs_s, Nat.zero_add] at ih
        exact ih
    ) (by
    refine e_iload_n dX11_owners_4 rfl rfl ?_
    refine e_aload_n dX11_owners_5 rfl rfl ?_
    refine e_getR dX11_owners_6 fl_X11_7 rfl (by assumption) ?_
    refine e_iconst (v := nI 1) dX11_owners_9 rfl ?_
    first | ((with_reducible refine mk_ldw ?_); refine e_ldw dX11_owners_10 (by omega) ?_) | refine e_iald _ dX11_owners_10 ⟨by decide, by decide⟩ rfl rfl (by simp only [lenK]; omega) ?_
    first | ((with_reducible refine mk_nn ?_); refine n_icmp_ge (tgt := 28) dX11_owners_11 (by decide) (by omega) (by omega) (fun h11 => ?_) (fun h11 => ?_)) | refine e_icmp_ge (tgt := 28) dX11_owners_11 (by decide) (fun h11 => ?_) (fun h11 => ?_)
    · try first | contradiction | omega
      all_goals
        refine e_iload_n dX11_owners_28 rfl rfl ?_
        refine e_ret (some _) rfl (r_int dX11_owners_29 rfl) ?_
        exact xq rfl rfl rfl rfl rfl rfl
    · try first | contradiction | omega
      all_goals
        refine e_iload_n dX11_owners_14 rfl rfl ?_
        refine e_aload_n dX11_owners_15 rfl rfl ?_
        refine e_iload_n dX11_owners_16 rfl rfl ?_
        refine x_V1 (M' := mX11_valuesIn) dX11_owners_17 ml_X11_323 ok_X11_valuesIn (by decide) rfl im_X11_valuesIn se_X11_valuesIn (ct_X11_valuesIn ‹_› ‹_› (by omega)) (Nat.le_of_ble_eq_true rfl) (by decide) (Nat.le_of_ble_eq_true rfl) ?_
        first | ((with_reducible refine mk_nn ?_); refine n_iadd dX11_owners_20 ?_) | refine e_iadd dX11_owners_20 ?_
        refine e_istore_n dX11_owners_21 rfl (Nat.le_of_ble_eq_true rfl) rfl ?_
        first | refine n_inc dX11_owners_22 rfl (Nat.le_of_ble_eq_true rfl) rfl ?_ | refine e_iinc dX11_owners_22 rfl rfl (Nat.le_of_ble_eq_true rfl) rfl ?_
        refine e_goto (tgt := 4) dX11_owners_25 (by decide) ?_
        rw [rs_s, Nat.zero_add] at ih
        exact ih
    )
  refine e_iconst (v := nI 0) dX11_owners_0 rfl ?_
  refine e_istore_n dX11_owners_1 rfl (Nat.le_of_ble_eq_true rfl) rfl ?_
  refine e_iconst (v := nI 0) dX11_owners_2 rfl ?_
  refine e_istore_n dX11_owners_3 rfl (Nat.le_of_ble_eq_true rfl) rfl ?_
  exact key 0 (by omega)
theorem ct_X11_brokenOnes {fi : FI} {fr : FR} {ai : FI} {ar : FR} {N : Nat} {w : Nat → Nat} (sm : SM fr) (iv : Inv w)  : CP mX11_brokenOnes 1 0 0 [.ref (rf 11 80)] fi fr (mW ai w) ar N (xQ (some (.int (nI (rs (fun m => w (7694 + 72 * m + 7)) 0 (w 3))))) fi fr (mW ai w) ar N) := by
  obtain ⟨sW, sA, sK, sU, sC, sKC, sT, sCl⟩ := id sm
  have h1 := iv_n iv
  have h3 := iv_mm iv
  change EV mX11_brokenOnes 1 0 0 0 [some (.ref (rf 11 80)), none, none] [] fi fr (mW ai w) ar N (xQ (some (.int (nI (rs (fun m => w (7694 + 72 * m + 7)) 0 (w 3))))) fi fr (mW ai w) ar N)
  have key := ev_up (P := (fun j => EV mX11_brokenOnes 1 0 0 4 [some (.ref (rf 11 80)), some (.int (nI (rs (fun m => w (7694 + 72 * m + 7)) 0 j))), some (.int (nI j))] [] fi fr (mW ai w) ar N (xQ (some (.int (nI (rs (fun m => w (7694 + 72 * m + 7)) 0 (w 3))))) fi fr (mW ai w) ar N))) (w 3) (fun j hj ih => by
    refine e_iload_n dX11_brokenOnes_4 rfl rfl ?_
    refine e_aload_n dX11_brokenOnes_5 rfl rfl ?_
    refine e_getR dX11_brokenOnes_6 fl_X11_7 rfl (by assumption) ?_
    refine e_iconst (v := nI 3) dX11_brokenOnes_9 rfl ?_
    first | ((with_reducible refine mk_ldw ?_); refine e_ldw dX11_brokenOnes_10 (by omega) ?_) | refine e_iald _ dX11_brokenOnes_10 ⟨by decide, by decide⟩ rfl rfl (by simp only [lenK]; omega) ?_
    first | ((with_reducible refine mk_nn ?_); refine n_icmp_ge (tgt := 35) dX11_brokenOnes_11 (by decide) (by omega) (by omega) (fun h11 => ?_) (fun h11 => ?_)) | refine e_icmp_ge (tgt := 35) dX11_brokenOnes_11 (by decide) (fun h11 => ?_) (fun h11 => ?_)
    · try first | contradiction | omega
      all_goals
        refine e_iload_n dX11_brokenOnes_35 rfl rfl ?_
        refine e_ret (some _) rfl (r_int dX11_brokenOnes_36 rfl) ?_
        exact xq (by first | rfl | simp_all [bI_t, bI_f]) rfl rfl rfl rfl rfl
    · try first | contradiction | omega
      all_goals
        refine e_iload_n dX11_brokenOnes_14 rfl rfl ?_
        refine e_aload_n dX11_brokenOnes_15 rfl rfl ?_
        refine e_getR dX11_brokenOnes_16 fl_X11_7 rfl (by assumption) ?_
        refine e_iload_n dX11_brokenOnes_19 rfl rfl ?_
        refine x_S1 (M' := mX11_moveAt) dX11_brokenOnes_20 ml_X11_62 ok_X11_moveAt rfl sc_X11_moveAt (ct_X11_moveAt) (Nat.le_of_ble_eq_true rfl) (by decide) (Nat.le_of_ble_eq_true rfl) ?_
        refine e_bipush (v := nI 7) dX11_brokenOnes_23 rfl ?_
        first | ((with_reducible refine mk_nn ?_); refine n_iadd dX11_brokenOnes_25 ?_) | refine e_iadd dX11_brokenOnes_25 ?_
        first | ((with_reducible refine mk_ldw ?_); refine e_ldw dX11_brokenOnes_26 (by omega) ?_) | refine e_iald _ dX11_brokenOnes_26 ⟨by decide, by decide⟩ rfl rfl (by simp only [lenK]; omega) ?_
        first | ((with_reducible refine mk_nn ?_); refine n_iadd dX11_brokenOnes_27 ?_) | refine e_iadd dX11_brokenOnes_27 ?_
        refine e_istore_n dX11_brokenOnes_28 rfl (Nat.le_of_ble_eq_true rfl) rfl ?_
        first | refine n_inc dX11_brokenOnes_29 rfl (Nat.le_of_ble_eq_true rfl) rfl ?_ | refine e_iinc dX11_brokenOnes_29 rfl rfl (Nat.le_of_ble_eq_true rfl) rfl ?_
        refine e_goto (tgt := 4) dX11_brokenOnes_32 (by decide) ?_
        rw [rs_s, Nat.zero_add] at ih
        exact ih
    ) (by
    refine e_iload_n dX11_brokenOnes_4 rfl rfl ?_
    refine e_aload_n dX11_brokenOnes_5 rfl rfl ?_
    refine e_getR dX11_brokenOnes_6 fl_X11_7 rfl (by assumption) ?_
    refine e_iconst (v := nI 3) dX11_brokenOnes_9 rfl ?_
    first | ((with_reducible refine mk_ldw ?_); refine e_ldw dX11_brokenOnes_10 (by omega) ?_) | refine e_iald _ dX11_brokenOnes_10 ⟨by decide, by decide⟩ rfl rfl (by simp only [lenK]; omega) ?_
    first | ((with_reducible refine mk_nn ?_); refine n_icmp_ge (tgt := 35) dX11_brokenOnes_11 (by decide) (by omega) (by omega) (fun h11 => ?_) (fun h11 => ?_)) | refine e_icmp_ge (tgt := 35) dX11_brokenOnes_11 (by decide) (fun h11 => ?_) (fun h11 => ?_)
    · try first | contradiction | omega
      all_goals
        refine e_iload_n dX11_brokenOnes_35 rfl rfl ?_
        refine e_ret (some _) rfl (r_int dX11_brokenOnes_36 rfl) ?_
        exact xq rfl rfl rfl rfl rfl rfl
    · try first | contradiction | omega
      all_goals
        refine e_iload_n dX11_brokenOnes_14 rfl rfl ?_
        refine e_aload_n dX11_brokenOnes_15 rfl rfl ?_
        refine e_getR dX11_brokenOnes_16 fl_X11_7 rfl (by assumption) ?_
        refine e_iload_n dX11_brokenOnes_19 rfl rfl ?_
        refine x_S1 (M' := mX11_moveAt) dX11_brokenOnes_20 ml_X11_62 ok_X11_moveAt rfl sc_X11_moveAt (ct_X11_moveAt) (Nat.le_of_ble_eq_true rfl) (by decide) (Nat.le_of_ble_eq_true rfl) ?_
        refine e_bipush (v := nI 7) dX11_brokenOnes_23 rfl ?_
        first | ((with_reducible refine mk_nn ?_); refine n_iadd dX11_brokenOnes_25 ?_) | refine e_iadd dX11_brokenOnes_25 ?_
        first | ((with_reducible refine mk_ldw ?_); refine e_ldw dX11_brokenOnes_26 (by omega) ?_) | refine e_iald _ dX11_brokenOnes_26 ⟨by decide, by decide⟩ rfl rfl (by simp only [lenK]; omega) ?_
        first | ((with_reducible refine mk_nn ?_); refine n_iadd dX11_brokenOnes_27 ?_) | refine e_iadd dX11_brokenOnes_27 ?_
        refine e_istore_n dX11_brokenOnes_28 rfl (Nat.le_of_ble_eq_true rfl) rfl ?_
        first | refine n_inc dX11_brokenOnes_29 rfl (Nat.le_of_ble_eq_true rfl) rfl ?_ | refine e_iinc dX11_brokenOnes_29 rfl rfl (Nat.le_of_ble_eq_true rfl) rfl ?_
        refine e_goto (tgt := 4) dX11_brokenOnes_32 (by decide) ?_
        rw [rs_s, Nat.zero_add] at ih
        exact ih
    )
  refine e_iconst (v := nI 0) dX11_brokenOnes_0 rfl ?_
  refine e_istore_n dX11_brokenOnes_1 rfl (Nat.le_of_ble_eq_true rfl) rfl ?_
  refine e_iconst (v := nI 0) dX11_brokenOnes_2 rfl ?_
  refine e_istore_n dX11_brokenOnes_3 rfl (Nat.le_of_ble_eq_true rfl) rfl ?_
  exact key 0 (by omega)
theorem ct_X11_allWeight {fi : FI} {fr : FR} {ai : FI} {ar : FR} {N : Nat} {w : Nat → Nat} (sm : SM fr) (iv : Inv w)  : CP mX11_allWeight 0 0 0 [.ref (rf 11 80)] fi fr (mW ai w) ar N (xQ (some (.long (lN (rs (fun k => w (106 + k)) 0 1000)))) fi fr (mW ai w) ar N) := by
  obtain ⟨sW, sA, sK, sU, sC, sKC, sT, sCl⟩ := id sm
  have h1 := iv_n iv
  have h3 := iv_mm iv
  change EV mX11_allWeight 0 0 0 0 [some (.ref (rf 11 80)), none, none, none] [] fi fr (mW ai w) ar N (xQ (some (.long (lN (rs (fun k => w (106 + k)) 0 1000)))) fi fr (mW ai w) ar N)
  have key := ev_up (P := (fun j => EV mX11_allWeight 0 0 0 4 [some (.ref (rf 11 80)), some (.long (lN (rs (fun k => w (106 + k)) 0 j))), none, some (.int (nI j))] [] fi fr (mW ai w) ar N (xQ (some (.long (lN (rs (fun k => w (106 + k)) 0 1000)))) fi fr (mW ai w) ar N))) (1000) (fun j hj ih => by
    have hw := iv_wt iv hj
    refine e_iload_n dX11_allWeight_4 rfl rfl ?_
    refine e_sipush (v := nI 1000) dX11_allWeight_5 rfl ?_
    first | ((with_reducible refine mk_nn ?_); refine n_icmp_ge (tgt := 30) dX11_allWeight_8 (by decide) (by omega) (by omega) (fun h8 => ?_) (fun h8 => ?_)) | refine e_icmp_ge (tgt := 30) dX11_allWeight_8 (by decide) (fun h8 => ?_) (fun h8 => ?_)
    · try first | contradiction | omega
      all_goals
        refine e_lload_n dX11_allWeight_30 rfl rfl ?_
        refine e_ret (some _) rfl (r_long dX11_allWeight_31 rfl) ?_
        exact xq (by first | rfl | simp_all [bI_t, bI_f]) rfl rfl rfl rfl rfl
    · try first | contradiction | omega
      all_goals
        refine e_lload_n dX11_allWeight_11 rfl rfl ?_
        refine e_aload_n dX11_allWeight_12 rfl rfl ?_
        refine e_getR dX11_allWeight_13 fl_X11_7 rfl (by assumption) ?_
        refine e_bipush (v := nI 106) dX11_allWeight_16 rfl ?_
        refine e_iload_n dX11_allWeight_18 rfl rfl ?_
        first | ((with_reducible refine mk_nn ?_); refine n_iadd dX11_allWeight_19 ?_) | refine e_iadd dX11_allWeight_19 ?_
        first | ((with_reducible refine mk_ldw ?_); refine e_ldw dX11_allWeight_20 (by omega) ?_) | refine e_iald _ dX11_allWeight_20 ⟨by decide, by decide⟩ rfl rfl (by simp only [lenK]; omega) ?_
        first | ((with_reducible refine mk_n ?_); refine n_i2l dX11_allWeight_21 (by omega) ?_) | refine e_i2l dX11_allWeight_21 ?_
        first | ((with_reducible refine mk_LL ?_); refine n_ladd dX11_allWeight_22 ?_) | refine e_ladd dX11_allWeight_22 ?_
        refine e_lstore_n dX11_allWeight_23 rfl (Nat.le_of_ble_eq_true rfl) rfl ?_
        first | refine n_inc dX11_allWeight_24 rfl (Nat.le_of_ble_eq_true rfl) rfl ?_ | refine e_iinc dX11_allWeight_24 rfl rfl (Nat.le_of_ble_eq_true rfl) rfl ?_
        refine e_goto (tgt := 4) dX11_allWeight_27 (by decide) ?_
        rw [rs_s, Nat.zero_add] at ih
        exact ih
    ) (by
    refine e_iload_n dX11_allWeight_4 rfl rfl ?_
    refine e_sipush (v := nI 1000) dX11_allWeight_5 rfl ?_
    first | ((with_reducible refine mk_nn ?_); refine n_icmp_ge (tgt := 30) dX11_allWeight_8 (by decide) (by omega) (by omega) (fun h8 => ?_) (fun h8 => ?_)) | refine e_icmp_ge (tgt := 30) dX11_allWeight_8 (by decide) (fun h8 => ?_) (fun h8 => ?_)
    · try first | contradiction | omega
      all_goals
        refine e_lload_n dX11_allWeight_30 rfl rfl ?_
        refine e_ret (some _) rfl (r_long dX11_allWeight_31 rfl) ?_
        exact xq rfl rfl rfl rfl rfl rfl
    · try first | contradiction | omega
      all_goals
        refine e_lload_n dX11_allWeight_11 rfl rfl ?_
        refine e_aload_n dX11_allWeight_12 rfl rfl ?_
        refine e_getR dX11_allWeight_13 fl_X11_7 rfl (by assumption) ?_
        refine e_bipush (v := nI 106) dX11_allWeight_16 rfl ?_
        refine e_iload_n dX11_allWeight_18 rfl rfl ?_
        first | ((with_reducible refine mk_nn ?_); refine n_iadd dX11_allWeight_19 ?_) | refine e_iadd dX11_allWeight_19 ?_
        first | ((with_reducible refine mk_ldw ?_); refine e_ldw dX11_allWeight_20 (by omega) ?_) | refine e_iald _ dX11_allWeight_20 ⟨by decide, by decide⟩ rfl rfl (by simp only [lenK]; omega) ?_
        first | ((with_reducible refine mk_n ?_); refine n_i2l dX11_allWeight_21 (by omega) ?_) | refine e_i2l dX11_allWeight_21 ?_
        first | ((with_reducible refine mk_LL ?_); refine n_ladd dX11_allWeight_22 ?_) | refine e_ladd dX11_allWeight_22 ?_
        refine e_lstore_n dX11_allWeight_23 rfl (Nat.le_of_ble_eq_true rfl) rfl ?_
        first | refine n_inc dX11_allWeight_24 rfl (Nat.le_of_ble_eq_true rfl) rfl ?_ | refine e_iinc dX11_allWeight_24 rfl rfl (Nat.le_of_ble_eq_true rfl) rfl ?_
        refine e_goto (tgt := 4) dX11_allWeight_27 (by decide) ?_
        rw [rs_s, Nat.zero_add] at ih
        exact ih
    )
  refine e_lconst (v := lN 0) dX11_allWeight_0 rfl ?_
  refine e_lstore_n dX11_allWeight_1 rfl (Nat.le_of_ble_eq_true rfl) rfl ?_
  refine e_iconst (v := nI 0) dX11_allWeight_2 rfl ?_
  refine e_istore_n dX11_allWeight_3 rfl (Nat.le_of_ble_eq_true rfl) rfl ?_
  exact key 0 (by omega)
