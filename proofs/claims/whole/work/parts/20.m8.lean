-- who owned what
def owF (w : Nat → Nat) (t k : Nat) : Nat → Nat → Nat → Nat
  | 0, _, o => o
  | n + 1, e, o => match sbO w e t k with
    | none => o
    | some m => owF w t k n (w (7694 + 72 * m + 11)) (w (7694 + 72 * m + 4))
def pasF (w : Nat → Nat) (k : Nat) : Nat → Nat → Option Nat
  | 0, e => (sbO w e (w 0) k).map (fun m => w (7694 + 72 * m + 11))
  | n + 1, e => match sbO w e (w 0) k with
    | none => none
    | some m => pasF w k n (w (7694 + 72 * m + 11))
theorem sbO_in {w : Nat → Nat} {e t k m : Nat} (h : sbO w e t k = some m) : m < w 3 ∧ e < w (7694 + 72 * m + 11) ∧ w (7694 + 72 * m + 11) ≤ t := by
  have h1 := bst_in h
  have h2 := h1.2
  simp only [Bool.and_eq_true, decide_eq_true_eq] at h2
  exact ⟨h1.1, by omega, by omega⟩
def owdR (w : Nat → Nat) (x y : Int32) : Int32 := if 1 ≤ x.toInt ∧ x.toInt ≤ w 0 ∧ inR y 1000 then nI (owF w x.toNatClampNeg y.toNatClampNeg 2000 1 0) else -1
def pasR (w : Nat → Nat) (x y : Int32) : Int32 := if inR x 1000 ∧ 0 ≤ y.toInt then oI (pasF w x.toNatClampNeg y.toNatClampNeg 1) else -1
theorem owF_fix {w : Nat → Nat} {t k : Nat} : ∀ (n n' e o : Nat), t < e + n → t < e + n' → owF w t k n e o = owF w t k n' e o
  | 0, 0, e, o, _, _ => rfl
  | 0, n' + 1, e, o, h, _ => by
    show o = _
    unfold owF
    cases hs : sbO w e t k with
    | none => rfl
    | some m => have := sbO_in hs; omega
  | n + 1, 0, e, o, _, h => by
    show _ = o
    unfold owF
    cases hs : sbO w e t k with
    | none => rfl
    | some m => have := sbO_in hs; omega
  | n + 1, n' + 1, e, o, h, h' => by
    unfold owF
    cases hs : sbO w e t k with
    | none => rfl
    | some m => have := sbO_in hs; exact owF_fix n n' _ _ (by omega) (by omega)
theorem int_ex {x : Int32} (h0 : 0 ≤ x.toInt) : ∃ a, a < 2147483648 ∧ x = nI a ∧ x.toInt = a ∧ x.toNatClampNeg = a := by
  have h2 := x.toInt_lt
  have e : x = nI x.toInt.toNat := by
    apply Int32.toInt_inj.mp
    rw [nI_toInt (b31 (by omega))]
    omega
  have hb : x.toInt.toNat < 2147483648 := by omega
  exact ⟨x.toInt.toNat, hb, e, by omega, by rw [e, nI_clamp hb, nI_toInt hb]; rfl⟩
theorem ct_X11_owned {fi : FI} {fr : FR} {ai : FI} {ar : FR} {N : Nat} {w : Nat → Nat} (sm : SM fr) (iv : Inv w) (y0 y1 : Int32) : CP mX11_owned 2 0 0 [.ref (rf 11 80), .int y0, .int y1] fi fr (mW ai w) ar N (xQ (some (.int (owdR w y0 y1))) fi fr (mW ai w) ar N) := by
  obtain ⟨sW, sA, sK, sU, sC, sKC, sT, sCl⟩ := id sm
  have h1 := iv_n iv
  have h3 := iv_mm iv
  have he0 := iv_ep0 iv
  change EV mX11_owned 2 0 0 0 [some (.ref (rf 11 80)), some (.int y0), some (.int y1), none, none, none] [] fi fr (mW ai w) ar N (xQ (some (.int (owdR w y0 y1))) fi fr (mW ai w) ar N)
  by_cases hx : 1 ≤ y0.toInt ∧ y0.toInt ≤ w 0
  · obtain ⟨t, ht, rfl, hti, htc⟩ := int_ex (x := y0) (by omega)
    cases hy : inR y1 1000 with
    | false =>
      have hy2 := inR_f hy
      refine e_iload_n dX11_owned_0 rfl rfl ?_
      first | ((with_reducible refine mk_n ?_); refine n_i2l dX11_owned_1 (by omega) ?_) | refine e_i2l dX11_owned_1 ?_
      refine e_lconst (v := lN 1) dX11_owned_2 rfl ?_
      refine e_aload_n dX11_owned_3 rfl rfl ?_
      refine e_getR dX11_owned_4 fl_X11_7 rfl (by assumption) ?_
      refine e_iconst (v := nI 0) dX11_owned_7 rfl ?_
      first | ((with_reducible refine mk_ldw ?_); refine e_ldw dX11_owned_8 (by omega) ?_) | refine e_iald _ dX11_owned_8 ⟨by decide, by decide⟩ rfl rfl (by simp only [lenK]; omega) ?_
      first | ((with_reducible refine mk_n ?_); refine n_i2l dX11_owned_9 (by omega) ?_) | refine e_i2l dX11_owned_9 ?_
      refine x_S3 (M' := mX11_isIn) dX11_owned_10 ml_X11_45 ok_X11_isIn rfl sc_X11_isIn (by first | ((with_reducible refine ct_isInN ?_ ?_ ?_) <;> omega) | ((with_reducible refine ct_isInX ?_ ?_) <;> omega) | exact ct_X11_isIn _ _ _) (Nat.le_of_ble_eq_true rfl) (by decide) (Nat.le_of_ble_eq_true rfl) ?_
      first | ((with_reducible refine mk_b ?_); refine b_if_eq (tgt := 23) dX11_owned_13 (by decide) (fun h13 => ?_) (fun h13 => ?_)) | ((with_reducible refine mk_ll ?_); refine m_if_eq (tgt := 23) dX11_owned_13 (by decide) (by omega) (by omega) (fun h13 => ?_) (fun h13 => ?_)) | ((with_reducible refine mk_lc ?_); refine l_if_eq (tgt := 23) dX11_owned_13 (by decide) (fun h13 => ?_) (fun h13 => ?_)) | ((with_reducible refine mk_n ?_); refine n_if_eq (tgt := 23) dX11_owned_13 (by decide) (by omega) (fun h13 => ?_) (fun h13 => ?_)) | refine e_if_eq (tgt := 23) dX11_owned_13 (by decide) (fun h13 => ?_) (fun h13 => ?_)
      · try first | contradiction | omega | (simp only [decide_eq_true_eq, decide_eq_false_iff_not] at h13; omega)
        all_goals
          refine e_iconst (v := -1) dX11_owned_23 rfl ?_
          refine e_ret (some _) rfl (r_int dX11_owned_24 rfl) ?_
          refine xq ?_ rfl rfl rfl rfl rfl
          unfold owdR
          grind
      · try first | contradiction | omega | (simp only [decide_eq_true_eq, decide_eq_false_iff_not] at h13; omega)
        all_goals
          refine e_iload_n dX11_owned_16 rfl rfl ?_
          refine x_S1 (M' := mX11_isKey) dX11_owned_17 ml_X11_54 ok_X11_isKey rfl sc_X11_isKey (ct_X11_isKey _) (Nat.le_of_ble_eq_true rfl) (by decide) (Nat.le_of_ble_eq_true rfl) ?_
          rw [hy]
          first | ((with_reducible refine mk_b ?_); refine b_if_ne (tgt := 25) dX11_owned_20 (by decide) (fun h20 => ?_) (fun h20 => ?_)) | ((with_reducible refine mk_ll ?_); refine m_if_ne (tgt := 25) dX11_owned_20 (by decide) (by omega) (by omega) (fun h20 => ?_) (fun h20 => ?_)) | ((with_reducible refine mk_lc ?_); refine l_if_ne (tgt := 25) dX11_owned_20 (by decide) (fun h20 => ?_) (fun h20 => ?_)) | ((with_reducible refine mk_n ?_); refine n_if_ne (tgt := 25) dX11_owned_20 (by decide) (by omega) (fun h20 => ?_) (fun h20 => ?_)) | refine e_if_ne (tgt := 25) dX11_owned_20 (by decide) (fun h20 => ?_) (fun h20 => ?_)
          · try first | contradiction | omega | (simp only [decide_eq_true_eq, decide_eq_false_iff_not] at h20; omega)
            all_goals
              refine e_iconst (v := nI 0) dX11_owned_25 rfl ?_
              refine e_istore_n dX11_owned_26 rfl (Nat.le_of_ble_eq_true rfl) rfl ?_
              refine e_iconst (v := nI 1) dX11_owned_27 rfl ?_
              refine e_istore dX11_owned_28 (Nat.le_of_ble_eq_true rfl) rfl ?_
              refine e_aload_n dX11_owned_30 rfl rfl ?_
              refine e_iload dX11_owned_31 rfl ?_
              refine e_iload_n dX11_owned_33 rfl rfl ?_
              refine e_iload_n dX11_owned_34 rfl rfl ?_
              refine x_V3 (M' := mX11_switchBehind) dX11_owned_35 ml_X11_345 ok_X11_switchBehind (by decide) rfl im_X11_switchBehind se_X11_switchBehind (ct_X11_switchBehind ‹_› ‹_› (by omega) (by omega) (by omega)) (Nat.le_of_ble_eq_true rfl) (by decide) (Nat.le_of_ble_eq_true rfl) ?_
              refine e_istore dX11_owned_38 (Nat.le_of_ble_eq_true rfl) rfl ?_
              contradiction
          · try first | contradiction | omega | (simp only [decide_eq_true_eq, decide_eq_false_iff_not] at h20; omega)
            all_goals
              refine e_iconst (v := -1) dX11_owned_23 rfl ?_
              refine e_ret (some _) rfl (r_int dX11_owned_24 rfl) ?_
              refine xq ?_ rfl rfl rfl rfl rfl
              unfold owdR
              grind
    | true =>
      obtain ⟨k, hk, hk2, rfl⟩ := inR_ex hy
      have hkc : (nI k).toNatClampNeg = k := nI_clamp hk2
      have key : ∀ (n e o : Nat), t < e + n → e < 2000 → EV mX11_owned 2 0 0 40 [some (.ref (rf 11 80)), some (.int (nI t)), some (.int (nI k)), some (.int (nI o)), some (.int (nI e)), some (.int (oI (sbO w e t k)))] [] fi fr (mW ai w) ar N (xQ (some (.int (nI (owF w t k n e o)))) fi fr (mW ai w) ar N) := by
        intro n
        induction n with
        | zero =>
          intro e o hn he
          have hs : sbO w e t k = none := by
            cases hs : sbO w e t k with
            | none => rfl
            | some m => have := sbO_in hs; omega
          rw [hs]
          refine e_iload dX11_owned_40 rfl ?_
          refine e_iconst (v := -1) dX11_owned_42 rfl ?_
          first | ((with_reducible refine mk_mo ?_); refine p_icmp_eq (tgt := 87) dX11_owned_43 (by decide) (fun h43 => ?_) (fun h43 => ?_)) | ((with_reducible refine mk_ms ?_); refine s_icmp_eq (tgt := 87) dX11_owned_43 (by decide) (by omega) (fun h43 => ?_) (fun h43 => ?_)) | ((with_reducible refine mk_mn ?_); refine q_icmp_eq (tgt := 87) dX11_owned_43 (by decide) (by omega) (fun h43 => ?_) (fun h43 => ?_)) | ((with_reducible refine mk_nn ?_); refine n_icmp_eq (tgt := 87) dX11_owned_43 (by decide) (by omega) (by omega) (fun h43 => ?_) (fun h43 => ?_)) | refine e_icmp_eq (tgt := 87) dX11_owned_43 (by decide) (fun h43 => ?_) (fun h43 => ?_)
          · try first | contradiction | omega
            all_goals
              refine e_iload_n dX11_owned_87 rfl rfl ?_
              refine e_ret (some _) rfl (r_int dX11_owned_88 rfl) ?_
              exact xq rfl rfl rfl rfl rfl rfl
          · try first | contradiction | omega
            all_goals
              refine e_aload_n dX11_owned_46 rfl rfl ?_
              refine e_getR dX11_owned_47 fl_X11_7 rfl (by assumption) ?_
              refine e_iload dX11_owned_50 rfl ?_
              refine x_S1 (M' := mX11_moveAt) dX11_owned_52 ml_X11_62 ok_X11_moveAt rfl sc_X11_moveAt (ct_X11_moveAt) (Nat.le_of_ble_eq_true rfl) (by decide) (Nat.le_of_ble_eq_true rfl) ?_
              refine e_iconst (v := nI 4) dX11_owned_55 rfl ?_
              first | ((with_reducible refine mk_nn ?_); refine n_iadd dX11_owned_56 ?_) | refine e_iadd dX11_owned_56 ?_
              first | ((with_reducible refine mk_ldw ?_); refine e_ldw dX11_owned_57 (by omega) ?_) | refine e_iald _ dX11_owned_57 ⟨by decide, by decide⟩ rfl rfl (by simp only [lenK]; omega) ?_
              refine e_istore_n dX11_owned_58 rfl (Nat.le_of_ble_eq_true rfl) rfl ?_
              refine e_aload_n dX11_owned_59 rfl rfl ?_
              refine e_getR dX11_owned_60 fl_X11_7 rfl (by assumption) ?_
              refine e_iload dX11_owned_63 rfl ?_
              refine x_S1 (M' := mX11_moveAt) dX11_owned_65 ml_X11_62 ok_X11_moveAt rfl sc_X11_moveAt (ct_X11_moveAt) (Nat.le_of_ble_eq_true rfl) (by decide) (Nat.le_of_ble_eq_true rfl) ?_
              refine e_bipush (v := nI 11) dX11_owned_68 rfl ?_
              first | ((with_reducible refine mk_nn ?_); refine n_iadd dX11_owned_70 ?_) | refine e_iadd dX11_owned_70 ?_
              first | ((with_reducible refine mk_ldw ?_); refine e_ldw dX11_owned_71 (by omega) ?_) | refine e_iald _ dX11_owned_71 ⟨by decide, by decide⟩ rfl rfl (by simp only [lenK]; omega) ?_
              refine e_istore dX11_owned_72 (Nat.le_of_ble_eq_true rfl) rfl ?_
              refine e_aload_n dX11_owned_74 rfl rfl ?_
              refine e_iload dX11_owned_75 rfl ?_
              refine e_iload_n dX11_owned_77 rfl rfl ?_
              refine e_iload_n dX11_owned_78 rfl rfl ?_
              refine x_V3 (M' := mX11_switchBehind) dX11_owned_79 ml_X11_345 ok_X11_switchBehind (by decide) rfl im_X11_switchBehind se_X11_switchBehind (ct_X11_switchBehind ‹_› ‹_› (by omega) (by omega) (by omega)) (Nat.le_of_ble_eq_true rfl) (by decide) (Nat.le_of_ble_eq_true rfl) ?_
              refine e_istore dX11_owned_82 (Nat.le_of_ble_eq_true rfl) rfl ?_
              refine e_goto (tgt := 40) dX11_owned_84 (by decide) ?_
              contradiction
        | succ n ih =>
          intro e o hn he
          cases hs : sbO w e t k with
          | none =>
            have e1 : owF w t k (n + 1) e o = o := by unfold owF; rw [hs]
            rw [e1]
            refine e_iload dX11_owned_40 rfl ?_
            refine e_iconst (v := -1) dX11_owned_42 rfl ?_
            first | ((with_reducible refine mk_mo ?_); refine p_icmp_eq (tgt := 87) dX11_owned_43 (by decide) (fun h43 => ?_) (fun h43 => ?_)) | ((with_reducible refine mk_ms ?_); refine s_icmp_eq (tgt := 87) dX11_owned_43 (by decide) (by omega) (fun h43 => ?_) (fun h43 => ?_)) | ((with_reducible refine mk_mn ?_); refine q_icmp_eq (tgt := 87) dX11_owned_43 (by decide) (by omega) (fun h43 => ?_) (fun h43 => ?_)) | ((with_reducible refine mk_nn ?_); refine n_icmp_eq (tgt := 87) dX11_owned_43 (by decide) (by omega) (by omega) (fun h43 => ?_) (fun h43 => ?_)) | refine e_icmp_eq (tgt := 87) dX11_owned_43 (by decide) (fun h43 => ?_) (fun h43 => ?_)
            · try first | contradiction | omega
              all_goals
                refine e_iload_n dX11_owned_87 rfl rfl ?_
                refine e_ret (some _) rfl (r_int dX11_owned_88 rfl) ?_
                exact xq rfl rfl rfl rfl rfl rfl
            · try first | contradiction | omega
              all_goals
                refine e_aload_n dX11_owned_46 rfl rfl ?_
                refine e_getR dX11_owned_47 fl_X11_7 rfl (by assumption) ?_
                refine e_iload dX11_owned_50 rfl ?_
                refine x_S1 (M' := mX11_moveAt) dX11_owned_52 ml_X11_62 ok_X11_moveAt rfl sc_X11_moveAt (ct_X11_moveAt) (Nat.le_of_ble_eq_true rfl) (by decide) (Nat.le_of_ble_eq_true rfl) ?_
                refine e_iconst (v := nI 4) dX11_owned_55 rfl ?_
                first | ((with_reducible refine mk_nn ?_); refine n_iadd dX11_owned_56 ?_) | refine e_iadd dX11_owned_56 ?_
                first | ((with_reducible refine mk_ldw ?_); refine e_ldw dX11_owned_57 (by omega) ?_) | refine e_iald _ dX11_owned_57 ⟨by decide, by decide⟩ rfl rfl (by simp only [lenK]; omega) ?_
                refine e_istore_n dX11_owned_58 rfl (Nat.le_of_ble_eq_true rfl) rfl ?_
                refine e_aload_n dX11_owned_59 rfl rfl ?_
                refine e_getR dX11_owned_60 fl_X11_7 rfl (by assumption) ?_
                refine e_iload dX11_owned_63 rfl ?_
                refine x_S1 (M' := mX11_moveAt) dX11_owned_65 ml_X11_62 ok_X11_moveAt rfl sc_X11_moveAt (ct_X11_moveAt) (Nat.le_of_ble_eq_true rfl) (by decide) (Nat.le_of_ble_eq_true rfl) ?_
                refine e_bipush (v := nI 11) dX11_owned_68 rfl ?_
                first | ((with_reducible refine mk_nn ?_); refine n_iadd dX11_owned_70 ?_) | refine e_iadd dX11_owned_70 ?_
                first | ((with_reducible refine mk_ldw ?_); refine e_ldw dX11_owned_71 (by omega) ?_) | refine e_iald _ dX11_owned_71 ⟨by decide, by decide⟩ rfl rfl (by simp only [lenK]; omega) ?_
                refine e_istore dX11_owned_72 (Nat.le_of_ble_eq_true rfl) rfl ?_
                refine e_aload_n dX11_owned_74 rfl rfl ?_
                refine e_iload dX11_owned_75 rfl ?_
                refine e_iload_n dX11_owned_77 rfl rfl ?_
                refine e_iload_n dX11_owned_78 rfl rfl ?_
                refine x_V3 (M' := mX11_switchBehind) dX11_owned_79 ml_X11_345 ok_X11_switchBehind (by decide) rfl im_X11_switchBehind se_X11_switchBehind (ct_X11_switchBehind ‹_› ‹_› (by omega) (by omega) (by omega)) (Nat.le_of_ble_eq_true rfl) (by decide) (Nat.le_of_ble_eq_true rfl) ?_
                refine e_istore dX11_owned_82 (Nat.le_of_ble_eq_true rfl) rfl ?_
                refine e_goto (tgt := 40) dX11_owned_84 (by decide) ?_
                contradiction
          | some m =>
            have hm := sbO_in hs
            have hmv := iv_mv iv hm.1
            have e1 : owF w t k (n + 1) e o = owF w t k n (w (7694 + 72 * m + 11)) (w (7694 + 72 * m + 4)) := by show (match sbO w e t k with | none => o | some m => owF w t k n (w (7694 + 72 * m + 11)) (w (7694 + 72 * m + 4))) = _; rw [hs]
            rw [e1]
            refine e_iload dX11_owned_40 rfl ?_
            refine e_iconst (v := -1) dX11_owned_42 rfl ?_
            first | ((with_reducible refine mk_mo ?_); refine p_icmp_eq (tgt := 87) dX11_owned_43 (by decide) (fun h43 => ?_) (fun h43 => ?_)) | ((with_reducible refine mk_ms ?_); refine s_icmp_eq (tgt := 87) dX11_owned_43 (by decide) (by omega) (fun h43 => ?_) (fun h43 => ?_)) | ((with_reducible refine mk_mn ?_); refine q_icmp_eq (tgt := 87) dX11_owned_43 (by decide) (by omega) (fun h43 => ?_) (fun h43 => ?_)) | ((with_reducible refine mk_nn ?_); refine n_icmp_eq (tgt := 87) dX11_owned_43 (by decide) (by omega) (by omega) (fun h43 => ?_) (fun h43 => ?_)) | refine e_icmp_eq (tgt := 87) dX11_owned_43 (by decide) (fun h43 => ?_) (fun h43 => ?_)
            · try first | contradiction | omega
              all_goals
                refine e_iload_n dX11_owned_87 rfl rfl ?_
                refine e_ret (some _) rfl (r_int dX11_owned_88 rfl) ?_
                exact xq rfl rfl rfl rfl rfl rfl
            · try first | contradiction | omega
              all_goals
                refine e_aload_n dX11_owned_46 rfl rfl ?_
                refine e_getR dX11_owned_47 fl_X11_7 rfl (by assumption) ?_
                refine e_iload dX11_owned_50 rfl ?_
                refine x_S1 (M' := mX11_moveAt) dX11_owned_52 ml_X11_62 ok_X11_moveAt rfl sc_X11_moveAt (ct_X11_moveAt) (Nat.le_of_ble_eq_true rfl) (by decide) (Nat.le_of_ble_eq_true rfl) ?_
                refine e_iconst (v := nI 4) dX11_owned_55 rfl ?_
                first | ((with_reducible refine mk_nn ?_); refine n_iadd dX11_owned_56 ?_) | refine e_iadd dX11_owned_56 ?_
                first | ((with_reducible refine mk_ldw ?_); refine e_ldw dX11_owned_57 (by omega) ?_) | refine e_iald _ dX11_owned_57 ⟨by decide, by decide⟩ rfl rfl (by simp only [lenK]; omega) ?_
                refine e_istore_n dX11_owned_58 rfl (Nat.le_of_ble_eq_true rfl) rfl ?_
                refine e_aload_n dX11_owned_59 rfl rfl ?_
                refine e_getR dX11_owned_60 fl_X11_7 rfl (by assumption) ?_
                refine e_iload dX11_owned_63 rfl ?_
                refine x_S1 (M' := mX11_moveAt) dX11_owned_65 ml_X11_62 ok_X11_moveAt rfl sc_X11_moveAt (ct_X11_moveAt) (Nat.le_of_ble_eq_true rfl) (by decide) (Nat.le_of_ble_eq_true rfl) ?_
                refine e_bipush (v := nI 11) dX11_owned_68 rfl ?_
                first | ((with_reducible refine mk_nn ?_); refine n_iadd dX11_owned_70 ?_) | refine e_iadd dX11_owned_70 ?_
                first | ((with_reducible refine mk_ldw ?_); refine e_ldw dX11_owned_71 (by omega) ?_) | refine e_iald _ dX11_owned_71 ⟨by decide, by decide⟩ rfl rfl (by simp only [lenK]; omega) ?_
                refine e_istore dX11_owned_72 (Nat.le_of_ble_eq_true rfl) rfl ?_
                refine e_aload_n dX11_owned_74 rfl rfl ?_
                refine e_iload dX11_owned_75 rfl ?_
                refine e_iload_n dX11_owned_77 rfl rfl ?_
                refine e_iload_n dX11_owned_78 rfl rfl ?_
                refine x_V3 (M' := mX11_switchBehind) dX11_owned_79 ml_X11_345 ok_X11_switchBehind (by decide) rfl im_X11_switchBehind se_X11_switchBehind (ct_X11_switchBehind ‹_› ‹_› (by omega) (by omega) (by omega)) (Nat.le_of_ble_eq_true rfl) (by decide) (Nat.le_of_ble_eq_true rfl) ?_
                refine e_istore dX11_owned_82 (Nat.le_of_ble_eq_true rfl) rfl ?_
                refine e_goto (tgt := 40) dX11_owned_84 (by decide) ?_
                exact ih _ _ (by omega) (by omega)
      refine e_iload_n dX11_owned_0 rfl rfl ?_
      first | ((with_reducible refine mk_n ?_); refine n_i2l dX11_owned_1 (by omega) ?_) | refine e_i2l dX11_owned_1 ?_
      refine e_lconst (v := lN 1) dX11_owned_2 rfl ?_
      refine e_aload_n dX11_owned_3 rfl rfl ?_
      refine e_getR dX11_owned_4 fl_X11_7 rfl (by assumption) ?_
      refine e_iconst (v := nI 0) dX11_owned_7 rfl ?_
      first | ((with_reducible refine mk_ldw ?_); refine e_ldw dX11_owned_8 (by omega) ?_) | refine e_iald _ dX11_owned_8 ⟨by decide, by decide⟩ rfl rfl (by simp only [lenK]; omega) ?_
      first | ((with_reducible refine mk_n ?_); refine n_i2l dX11_owned_9 (by omega) ?_) | refine e_i2l dX11_owned_9 ?_
      refine x_S3 (M' := mX11_isIn) dX11_owned_10 ml_X11_45 ok_X11_isIn rfl sc_X11_isIn (by first | ((with_reducible refine ct_isInN ?_ ?_ ?_) <;> omega) | ((with_reducible refine ct_isInX ?_ ?_) <;> omega) | exact ct_X11_isIn _ _ _) (Nat.le_of_ble_eq_true rfl) (by decide) (Nat.le_of_ble_eq_true rfl) ?_
      first | ((with_reducible refine mk_b ?_); refine b_if_eq (tgt := 23) dX11_owned_13 (by decide) (fun h13 => ?_) (fun h13 => ?_)) | ((with_reducible refine mk_ll ?_); refine m_if_eq (tgt := 23) dX11_owned_13 (by decide) (by omega) (by omega) (fun h13 => ?_) (fun h13 => ?_)) | ((with_reducible refine mk_lc ?_); refine l_if_eq (tgt := 23) dX11_owned_13 (by decide) (fun h13 => ?_) (fun h13 => ?_)) | ((with_reducible refine mk_n ?_); refine n_if_eq (tgt := 23) dX11_owned_13 (by decide) (by omega) (fun h13 => ?_) (fun h13 => ?_)) | refine e_if_eq (tgt := 23) dX11_owned_13 (by decide) (fun h13 => ?_) (fun h13 => ?_)
      · try first | contradiction | omega | (simp only [decide_eq_true_eq, decide_eq_false_iff_not] at h13; omega)
        all_goals
          refine e_iconst (v := -1) dX11_owned_23 rfl ?_
          refine e_ret (some _) rfl (r_int dX11_owned_24 rfl) ?_
          contradiction
      · try first | contradiction | omega | (simp only [decide_eq_true_eq, decide_eq_false_iff_not] at h13; omega)
        all_goals
          refine e_iload_n dX11_owned_16 rfl rfl ?_
          refine x_S1 (M' := mX11_isKey) dX11_owned_17 ml_X11_54 ok_X11_isKey rfl sc_X11_isKey (ct_X11_isKey _) (Nat.le_of_ble_eq_true rfl) (by decide) (Nat.le_of_ble_eq_true rfl) ?_
          rw [hy]
          first | ((with_reducible refine mk_b ?_); refine b_if_ne (tgt := 25) dX11_owned_20 (by decide) (fun h20 => ?_) (fun h20 => ?_)) | ((with_reducible refine mk_ll ?_); refine m_if_ne (tgt := 25) dX11_owned_20 (by decide) (by omega) (by omega) (fun h20 => ?_) (fun h20 => ?_)) | ((with_reducible refine mk_lc ?_); refine l_if_ne (tgt := 25) dX11_owned_20 (by decide) (fun h20 => ?_) (fun h20 => ?_)) | ((with_reducible refine mk_n ?_); refine n_if_ne (tgt := 25) dX11_owned_20 (by decide) (by omega) (fun h20 => ?_) (fun h20 => ?_)) | refine e_if_ne (tgt := 25) dX11_owned_20 (by decide) (fun h20 => ?_) (fun h20 => ?_)
          · try first | contradiction | omega | (simp only [decide_eq_true_eq, decide_eq_false_iff_not] at h20; omega)
            all_goals
              refine e_iconst (v := nI 0) dX11_owned_25 rfl ?_
              refine e_istore_n dX11_owned_26 rfl (Nat.le_of_ble_eq_true rfl) rfl ?_
              refine e_iconst (v := nI 1) dX11_owned_27 rfl ?_
              refine e_istore dX11_owned_28 (Nat.le_of_ble_eq_true rfl) rfl ?_
              refine e_aload_n dX11_owned_30 rfl rfl ?_
              refine e_iload dX11_owned_31 rfl ?_
              refine e_iload_n dX11_owned_33 rfl rfl ?_
              refine e_iload_n dX11_owned_34 rfl rfl ?_
              refine x_V3 (M' := mX11_switchBehind) dX11_owned_35 ml_X11_345 ok_X11_switchBehind (by decide) rfl im_X11_switchBehind se_X11_switchBehind (ct_X11_switchBehind ‹_› ‹_› (by omega) (by omega) (by omega)) (Nat.le_of_ble_eq_true rfl) (by decide) (Nat.le_of_ble_eq_true rfl) ?_
              refine e_istore dX11_owned_38 (Nat.le_of_ble_eq_true rfl) rfl ?_
              have kk := key 2000 1 0 (by omega) (by omega)
              have er : owdR w (nI t) (nI k) = nI (owF w t k 2000 1 0) := by unfold owdR; rw [if_pos ⟨by omega, by omega, hy⟩, htc, hkc]
              rw [er]
              exact kk
          · try first | contradiction | omega | (simp only [decide_eq_true_eq, decide_eq_false_iff_not] at h20; omega)
            all_goals
              refine e_iconst (v := -1) dX11_owned_23 rfl ?_
              refine e_ret (some _) rfl (r_int dX11_owned_24 rfl) ?_
              contradiction
  · skip
    refine e_iload_n dX11_owned_0 rfl rfl ?_
    first | ((with_reducible refine mk_n ?_); refine n_i2l dX11_owned_1 (by omega) ?_) | refine e_i2l dX11_owned_1 ?_
    refine e_lconst (v := lN 1) dX11_owned_2 rfl ?_
    refine e_aload_n dX11_owned_3 rfl rfl ?_
    refine e_getR dX11_owned_4 fl_X11_7 rfl (by assumption) ?_
    refine e_iconst (v := nI 0) dX11_owned_7 rfl ?_
    first | ((with_reducible refine mk_ldw ?_); refine e_ldw dX11_owned_8 (by omega) ?_) | refine e_iald _ dX11_owned_8 ⟨by decide, by decide⟩ rfl rfl (by simp only [lenK]; omega) ?_
    first | ((with_reducible refine mk_n ?_); refine n_i2l dX11_owned_9 (by omega) ?_) | refine e_i2l dX11_owned_9 ?_
    refine x_S3 (M' := mX11_isIn) dX11_owned_10 ml_X11_45 ok_X11_isIn rfl sc_X11_isIn (by first | ((with_reducible refine ct_isInN ?_ ?_ ?_) <;> omega) | ((with_reducible refine ct_isInX ?_ ?_) <;> omega) | exact ct_X11_isIn _ _ _) (Nat.le_of_ble_eq_true rfl) (by decide) (Nat.le_of_ble_eq_true rfl) ?_
    first | ((with_reducible refine mk_b ?_); refine b_if_eq (tgt := 23) dX11_owned_13 (by decide) (fun h13 => ?_) (fun h13 => ?_)) | ((with_reducible refine mk_ll ?_); refine m_if_eq (tgt := 23) dX11_owned_13 (by decide) (by omega) (by omega) (fun h13 => ?_) (fun h13 => ?_)) | ((with_reducible refine mk_lc ?_); refine l_if_eq (tgt := 23) dX11_owned_13 (by decide) (fun h13 => ?_) (fun h13 => ?_)) | ((with_reducible refine mk_n ?_); refine n_if_eq (tgt := 23) dX11_owned_13 (by decide) (by omega) (fun h13 => ?_) (fun h13 => ?_)) | refine e_if_eq (tgt := 23) dX11_owned_13 (by decide) (fun h13 => ?_) (fun h13 => ?_)
    · try first | contradiction | omega | (simp only [decide_eq_true_eq, decide_eq_false_iff_not] at h13; omega)
      all_goals
        refine e_iconst (v := -1) dX11_owned_23 rfl ?_
        refine e_ret (some _) rfl (r_int dX11_owned_24 rfl) ?_
        refine xq ?_ rfl rfl rfl rfl rfl
        unfold owdR
        rw [if_neg (by omega)]
    · try first | contradiction | omega | (simp only [decide_eq_true_eq, decide_eq_false_iff_not] at h13; omega)
      all_goals
        refine e_iload_n dX11_owned_16 rfl rfl ?_
        refine x_S1 (M' := mX11_isKey) dX11_owned_17 ml_X11_54 ok_X11_isKey rfl sc_X11_isKey (ct_X11_isKey _) (Nat.le_of_ble_eq_true rfl) (by decide) (Nat.le_of_ble_eq_true rfl) ?_
        first | ((with_reducible refine mk_b ?_); refine b_if_ne (tgt := 25) dX11_owned_20 (by decide) (fun h20 => ?_) (fun h20 => ?_)) | ((with_reducible refine mk_ll ?_); refine m_if_ne (tgt := 25) dX11_owned_20 (by decide) (by omega) (by omega) (fun h20 => ?_) (fun h20 => ?_)) | ((with_reducible refine mk_lc ?_); refine l_if_ne (tgt := 25) dX11_owned_20 (by decide) (fun h20 => ?_) (fun h20 => ?_)) | ((with_reducible refine mk_n ?_); refine n_if_ne (tgt := 25) dX11_owned_20 (by decide) (by omega) (fun h20 => ?_) (fun h20 => ?_)) | refine e_if_ne (tgt := 25) dX11_owned_20 (by decide) (fun h20 => ?_) (fun h20 => ?_)
        · try first | contradiction | omega | (simp only [decide_eq_true_eq, decide_eq_false_iff_not] at h20; omega)
          all_goals
            refine e_iconst (v := nI 0) dX11_owned_25 rfl ?_
            refine e_istore_n dX11_owned_26 rfl (Nat.le_of_ble_eq_true rfl) rfl ?_
            refine e_iconst (v := nI 1) dX11_owned_27 rfl ?_
            refine e_istore dX11_owned_28 (Nat.le_of_ble_eq_true rfl) rfl ?_
            refine e_aload_n dX11_owned_30 rfl rfl ?_
            refine e_iload dX11_owned_31 rfl ?_
            refine e_iload_n dX11_owned_33 rfl rfl ?_
            refine e_iload_n dX11_owned_34 rfl rfl ?_
            refine x_V3 (M' := mX11_switchBehind) dX11_owned_35 ml_X11_345 ok_X11_switchBehind (by decide) rfl im_X11_switchBehind se_X11_switchBehind (by contradiction) (Nat.le_of_ble_eq_true rfl) (by decide) (Nat.le_of_ble_eq_true rfl) ?_
            refine e_istore dX11_owned_38 (Nat.le_of_ble_eq_true rfl) rfl ?_
            omega
        · try first | contradiction | omega | (simp only [decide_eq_true_eq, decide_eq_false_iff_not] at h20; omega)
          all_goals
            refine e_iconst (v := -1) dX11_owned_23 rfl ?_
            refine e_ret (some _) rfl (r_int dX11_owned_24 rfl) ?_
            refine xq ?_ rfl rfl rfl rfl rfl
            unfold owdR
            rw [if_neg (by omega)]
