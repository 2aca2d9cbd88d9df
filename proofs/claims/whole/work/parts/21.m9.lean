def sdB (w : Nat → Nat) (s k : Nat) : Bool := decide (0 < w (1106 + 1000 * s + k)) && decide (w (42 + spW w k) ≠ s) && !mhB w s k
def soB (w : Nat → Nat) : Bool := (fO (fun s => (fO (sdB w s) 1000).isSome) 6).isNone
def sprR (w : Nat → Nat) : Int32 := nI (rs (fun s => cnt (fun k => decide (0 < w (1106 + 1000 * s + k))) 1000) 0 6) - nI (rs (viF w) 0 (w 1))
def hotO (w : Nat → Nat) (x : Int32) : Option Nat := fO (fun k => decide (0 < w (106 + k)) && decide (nI (hvN w k) = x)) 1000
def hotK (w : Nat → Nat) (b : Nat) (o : Option Nat) : Int32 := match o with
  | none => -1
  | some k => if b = 0 then nI k else nI (w (106 + k))
def hotR (w : Nat → Nat) (x y : Int32) : Int32 := if inR y 2 then hotK w y.toNatClampNeg (hotO w x) else -1
def cuI (w : Nat → Nat) (n lo : Nat) : Nat → Nat × Nat
  | 0 => (0, w (106 + lo))
  | j + 1 => if n < (cuI w n lo j).2 + w (106 + (lo + 1 + j)) then ((cuI w n lo j).1 + 1, w (106 + (lo + 1 + j))) else ((cuI w n lo j).1 + 0, (cuI w n lo j).2 + w (106 + (lo + 1 + j)))
def cutF (w : Nat → Nat) (n : Nat) (i : Nat) : Nat := (cuI w n (w (10 + i)) (enF w i - w (10 + i) - 1)).1
def cutR (w : Nat → Nat) (x : Int32) : Int32 := if inR x 1000001 then nI (rs (cutF w x.toNatClampNeg) 0 (w 1)) else -1
theorem cuI_le {w : Nat → Nat} (h : Inv w) {n lo : Nat} : ∀ j, lo + j < 1000 → (cuI w n lo j).2 ≤ 100000 * (j + 1)
  | 0, hj => by have := iv_wt h (k := lo) (by omega); show w (106 + lo) ≤ _; omega
  | j + 1, hj => by
    have h1 := cuI_le h (n := n) (lo := lo) j (by omega)
    have h2 := iv_wt h (k := lo + 1 + j) (by omega)
    unfold cuI
    split
    · show w (106 + (lo + 1 + j)) ≤ _; omega
    · show (cuI w n lo j).2 + w (106 + (lo + 1 + j)) ≤ _; omega
theorem cuI_t {w : Nat → Nat} {n lo j : Nat} (h : n < (cuI w n lo j).2 + w (106 + (lo + 1 + j))) : cuI w n lo (j + 1) = ((cuI w n lo j).1 + 1, w (106 + (lo + 1 + j))) := if_pos h
theorem cuI_f {w : Nat → Nat} {n lo j : Nat} (h : ¬ n < (cuI w n lo j).2 + w (106 + (lo + 1 + j))) : cuI w n lo (j + 1) = ((cuI w n lo j).1 + 0, (cuI w n lo j).2 + w (106 + (lo + 1 + j))) := if_neg h
theorem ct_X11_passed {fi : FI} {fr : FR} {ai : FI} {ar : FR} {N : Nat} {w : Nat → Nat} (sm : SM fr) (iv : Inv w) (y0 y1 : Int32) : CP mX11_passed 2 0 0 [.ref (rf 11 80), .int y0, .int y1] fi fr (mW ai w) ar N (xQ (some (.int (pasR w y0 y1))) fi fr (mW ai w) ar N) := by
  obtain ⟨sW, sA, sK, sU, sC, sKC, sT, sCl⟩ := id sm
  have h1 := iv_n iv
  have h3 := iv_mm iv
  have he0 := iv_ep0 iv
  change EV mX11_passed 2 0 0 0 [some (.ref (rf 11 80)), some (.int y0), some (.int y1), none, none, none] [] fi fr (mW ai w) ar N (xQ (some (.int (pasR w y0 y1))) fi fr (mW ai w) ar N)
  cases hx : inR y0 1000 with
  | false =>
    have hx2 := inR_f hx
    refine e_iload_n dX11_passed_0 rfl rfl ?_
    refine x_S1 (M' := mX11_isKey) dX11_passed_1 ml_X11_54 ok_X11_isKey rfl sc_X11_isKey (ct_X11_isKey _) (Nat.le_of_ble_eq_true rfl) (by decide) (Nat.le_of_ble_eq_true rfl) ?_
    rw [hx]
    first | ((with_reducible refine mk_b ?_); refine b_if_eq (tgt := 11) dX11_passed_4 (by decide) (fun h4 => ?_) (fun h4 => ?_)) | ((with_reducible refine mk_ll ?_); refine m_if_eq (tgt := 11) dX11_passed_4 (by decide) (by omega) (by omega) (fun h4 => ?_) (fun h4 => ?_)) | ((with_reducible refine mk_lc ?_); refine l_if_eq (tgt := 11) dX11_passed_4 (by decide) (fun h4 => ?_) (fun h4 => ?_)) | ((with_reducible refine mk_n ?_); refine n_if_eq (tgt := 11) dX11_passed_4 (by decide) (by omega) (fun h4 => ?_) (fun h4 => ?_)) | refine e_if_eq (tgt := 11) dX11_passed_4 (by decide) (fun h4 => ?_) (fun h4 => ?_)
    · try first | contradiction | omega | (simp only [decide_eq_true_eq, decide_eq_false_iff_not] at h4; omega)
      all_goals
        refine e_iconst (v := -1) dX11_passed_11 rfl ?_
        refine e_ret (some _) rfl (r_int dX11_passed_12 rfl) ?_
        refine xq ?_ rfl rfl rfl rfl rfl
        unfold pasR
        grind
    · try first | contradiction | omega | (simp only [decide_eq_true_eq, decide_eq_false_iff_not] at h4; omega)
      all_goals
        refine e_iload_n dX11_passed_7 rfl rfl ?_
        first | ((with_reducible refine mk_ll ?_); refine m_if_ge (tgt := 13) dX11_passed_8 (by decide) (by omega) (by omega) (fun h8 => ?_) (fun h8 => ?_)) | ((with_reducible refine mk_lc ?_); refine l_if_ge (tgt := 13) dX11_passed_8 (by decide) (fun h8 => ?_) (fun h8 => ?_)) | ((with_reducible refine mk_n ?_); refine n_if_ge (tgt := 13) dX11_passed_8 (by decide) (by omega) (fun h8 => ?_) (fun h8 => ?_)) | refine e_if_ge (tgt := 13) dX11_passed_8 (by decide) (fun h8 => ?_) (fun h8 => ?_)
        · try first | contradiction | omega
          all_goals
            refine e_iconst (v := nI 1) dX11_passed_13 rfl ?_
            refine e_istore_n dX11_passed_14 rfl (Nat.le_of_ble_eq_true rfl) rfl ?_
            refine e_iconst (v := nI 0) dX11_passed_15 rfl ?_
            refine e_istore dX11_passed_16 (Nat.le_of_ble_eq_true rfl) rfl ?_
            contradiction
        · try first | contradiction | omega
          all_goals
            refine e_iconst (v := -1) dX11_passed_11 rfl ?_
            refine e_ret (some _) rfl (r_int dX11_passed_12 rfl) ?_
            refine xq ?_ rfl rfl rfl rfl rfl
            unfold pasR
            grind
  | true =>
    obtain ⟨k, hk, hk2, rfl⟩ := inR_ex hx
    have hkc : (nI k).toNatClampNeg = k := nI_clamp hk2
    by_cases hy : 0 ≤ y1.toInt
    · obtain ⟨t, ht, rfl, hti, htc⟩ := int_ex (x := y1) hy
      have key : ∀ (n e c : Nat), w 0 < e + n → e < 2000 → c ≤ t → EV mX11_passed 2 0 0 18 [some (.ref (rf 11 80)), some (.int (nI k)), some (.int (nI t)), some (.int (nI e)), some (.int (nI c)), none] [] fi fr (mW ai w) ar N (xQ (some (.int (oI (pasF w k (t - c) e)))) fi fr (mW ai w) ar N) := by
        intro n
        induction n with
        | zero =>
          intro e c hn he hc
          have hs : sbO w e (w 0) k = none := by
            cases hs : sbO w e (w 0) k with
            | none => rfl
            | some m => have := sbO_in hs; omega
          have e1 : pasF w k (t - c) e = none := by cases t - c <;> (unfold pasF; rw [hs]; try rfl)
          rw [e1]
          refine e_aload_n dX11_passed_18 rfl rfl ?_
          refine e_iload_n dX11_passed_19 rfl rfl ?_
          refine e_aload_n dX11_passed_20 rfl rfl ?_
          refine e_getR dX11_passed_21 fl_X11_7 rfl (by assumption) ?_
          refine e_iconst (v := nI 0) dX11_passed_24 rfl ?_
          first | ((with_reducible refine mk_ldw ?_); refine e_ldw dX11_passed_25 (by omega) ?_) | refine e_iald _ dX11_passed_25 ⟨by decide, by decide⟩ rfl rfl (by simp only [lenK]; omega) ?_
          refine e_iload_n dX11_passed_26 rfl rfl ?_
          refine x_V3 (M' := mX11_switchBehind) dX11_passed_27 ml_X11_345 ok_X11_switchBehind (by decide) rfl im_X11_switchBehind se_X11_switchBehind (ct_X11_switchBehind ‹_› ‹_› (by omega) (by omega) (by omega)) (Nat.le_of_ble_eq_true rfl) (by decide) (Nat.le_of_ble_eq_true rfl) ?_
          rw [hs]
          refine e_istore dX11_passed_30 (Nat.le_of_ble_eq_true rfl) rfl ?_
          refine e_iload dX11_passed_32 rfl ?_
          refine e_iconst (v := -1) dX11_passed_34 rfl ?_
          first | ((with_reducible refine mk_mo ?_); refine p_icmp_ne (tgt := 40) dX11_passed_35 (by decide) (fun h35 => ?_) (fun h35 => ?_)) | ((with_reducible refine mk_ms ?_); refine s_icmp_ne (tgt := 40) dX11_passed_35 (by decide) (by omega) (fun h35 => ?_) (fun h35 => ?_)) | ((with_reducible refine mk_mn ?_); refine q_icmp_ne (tgt := 40) dX11_passed_35 (by decide) (by omega) (fun h35 => ?_) (fun h35 => ?_)) | ((with_reducible refine mk_nn ?_); refine n_icmp_ne (tgt := 40) dX11_passed_35 (by decide) (by omega) (by omega) (fun h35 => ?_) (fun h35 => ?_)) | refine e_icmp_ne (tgt := 40) dX11_passed_35 (by decide) (fun h35 => ?_) (fun h35 => ?_)
          · try first | contradiction | omega
            all_goals
              refine e_aload_n dX11_passed_40 rfl rfl ?_
              refine e_getR dX11_passed_41 fl_X11_7 rfl (by assumption) ?_
              refine e_iload dX11_passed_44 rfl ?_
              refine x_S1 (M' := mX11_moveAt) dX11_passed_46 ml_X11_62 ok_X11_moveAt rfl sc_X11_moveAt (ct_X11_moveAt) (Nat.le_of_ble_eq_true rfl) (by decide) (Nat.le_of_ble_eq_true rfl) ?_
              refine e_bipush (v := nI 11) dX11_passed_49 rfl ?_
              first | ((with_reducible refine mk_nn ?_); refine n_iadd dX11_passed_51 ?_) | refine e_iadd dX11_passed_51 ?_
              first | ((with_reducible refine mk_ldw ?_); refine e_ldw dX11_passed_52 (by omega) ?_) | refine e_iald _ dX11_passed_52 ⟨by decide, by decide⟩ rfl rfl (by simp only [lenK]; omega) ?_
              refine e_istore_n dX11_passed_53 rfl (Nat.le_of_ble_eq_true rfl) rfl ?_
              refine e_iload dX11_passed_54 rfl ?_
              refine e_iload_n dX11_passed_56 rfl rfl ?_
              first | ((with_reducible refine mk_mo ?_); refine p_icmp_ne (tgt := 62) dX11_passed_57 (by decide) (fun h57 => ?_) (fun h57 => ?_)) | ((with_reducible refine mk_ms ?_); refine s_icmp_ne (tgt := 62) dX11_passed_57 (by decide) (by omega) (fun h57 => ?_) (fun h57 => ?_)) | ((with_reducible refine mk_mn ?_); refine q_icmp_ne (tgt := 62) dX11_passed_57 (by decide) (by omega) (fun h57 => ?_) (fun h57 => ?_)) | ((with_reducible refine mk_nn ?_); refine n_icmp_ne (tgt := 62) dX11_passed_57 (by decide) (by omega) (by omega) (fun h57 => ?_) (fun h57 => ?_)) | refine e_icmp_ne (tgt := 62) dX11_passed_57 (by decide) (fun h57 => ?_) (fun h57 => ?_)
              · try first | contradiction | omega
                all_goals
                  first | refine n_inc dX11_passed_62 rfl (Nat.le_of_ble_eq_true rfl) rfl ?_ | refine e_iinc dX11_passed_62 rfl rfl (Nat.le_of_ble_eq_true rfl) rfl ?_
                  refine e_goto (tgt := 18) dX11_passed_65 (by decide) ?_
                  contradiction
              · try first | contradiction | omega
                all_goals
                  refine e_iload_n dX11_passed_60 rfl rfl ?_
                  refine e_ret (some _) rfl (r_int dX11_passed_61 rfl) ?_
                  exact xq rfl rfl rfl rfl rfl rfl
          · try first | contradiction | omega
            all_goals
              refine e_iconst (v := -1) dX11_passed_38 rfl ?_
              refine e_ret (some _) rfl (r_int dX11_passed_39 rfl) ?_
              exact xq rfl rfl rfl rfl rfl rfl
        | succ n ih =>
          intro e c hn he hc
          cases hs : sbO w e (w 0) k with
          | none =>
            have e1 : pasF w k (t - c) e = none := by cases t - c <;> (unfold pasF; rw [hs]; try rfl)
            rw [e1]
            refine e_aload_n dX11_passed_18 rfl rfl ?_
            refine e_iload_n dX11_passed_19 rfl rfl ?_
            refine e_aload_n dX11_passed_20 rfl rfl ?_
            refine e_getR dX11_passed_21 fl_X11_7 rfl (by assumption) ?_
            refine e_iconst (v := nI 0) dX11_passed_24 rfl ?_
            first | ((with_reducible refine mk_ldw ?_); refine e_ldw dX11_passed_25 (by omega) ?_) | refine e_iald _ dX11_passed_25 ⟨by decide, by decide⟩ rfl rfl (by simp only [lenK]; omega) ?_
            refine e_iload_n dX11_passed_26 rfl rfl ?_
            refine x_V3 (M' := mX11_switchBehind) dX11_passed_27 ml_X11_345 ok_X11_switchBehind (by decide) rfl im_X11_switchBehind se_X11_switchBehind (ct_X11_switchBehind ‹_› ‹_› (by omega) (by omega) (by omega)) (Nat.le_of_ble_eq_true rfl) (by decide) (Nat.le_of_ble_eq_true rfl) ?_
            rw [hs]
            refine e_istore dX11_passed_30 (Nat.le_of_ble_eq_true rfl) rfl ?_
            refine e_iload dX11_passed_32 rfl ?_
            refine e_iconst (v := -1) dX11_passed_34 rfl ?_
            first | ((with_reducible refine mk_mo ?_); refine p_icmp_ne (tgt := 40) dX11_passed_35 (by decide) (fun h35 => ?_) (fun h35 => ?_)) | ((with_reducible refine mk_ms ?_); refine s_icmp_ne (tgt := 40) dX11_passed_35 (by decide) (by omega) (fun h35 => ?_) (fun h35 => ?_)) | ((with_reducible refine mk_mn ?_); refine q_icmp_ne (tgt := 40) dX11_passed_35 (by decide) (by omega) (fun h35 => ?_) (fun h35 => ?_)) | ((with_reducible refine mk_nn ?_); refine n_icmp_ne (tgt := 40) dX11_passed_35 (by decide) (by omega) (by omega) (fun h35 => ?_) (fun h35 => ?_)) | refine e_icmp_ne (tgt := 40) dX11_passed_35 (by decide) (fun h35 => ?_) (fun h35 => ?_)
            · try first | contradiction | omega
              all_goals
                refine e_aload_n dX11_passed_40 rfl rfl ?_
                refine e_getR dX11_passed_41 fl_X11_7 rfl (by assumption) ?_
                refine e_iload dX11_passed_44 rfl ?_
                refine x_S1 (M' := mX11_moveAt) dX11_passed_46 ml_X11_62 ok_X11_moveAt rfl sc_X11_moveAt (ct_X11_moveAt) (Nat.le_of_ble_eq_true rfl) (by decide) (Nat.le_of_ble_eq_true rfl) ?_
                refine e_bipush (v := nI 11) dX11_passed_49 rfl ?_
                first | ((with_reducible refine mk_nn ?_); refine n_iadd dX11_passed_51 ?_) | refine e_iadd dX11_passed_51 ?_
                first | ((with_reducible refine mk_ldw ?_); refine e_ldw dX11_passed_52 (by omega) ?_) | refine e_iald _ dX11_passed_52 ⟨by decide, by decide⟩ rfl rfl (by simp only [lenK]; omega) ?_
                refine e_istore_n dX11_passed_53 rfl (Nat.le_of_ble_eq_true rfl) rfl ?_
                refine e_iload dX11_passed_54 rfl ?_
                refine e_iload_n dX11_passed_56 rfl rfl ?_
                first | ((with_reducible refine mk_mo ?_); refine p_icmp_ne (tgt := 62) dX11_passed_57 (by decide) (fun h57 => ?_) (fun h57 => ?_)) | ((with_reducible refine mk_ms ?_); refine s_icmp_ne (tgt := 62) dX11_passed_57 (by decide) (by omega) (fun h57 => ?_) (fun h57 => ?_)) | ((with_reducible refine mk_mn ?_); refine q_icmp_ne (tgt := 62) dX11_passed_57 (by decide) (by omega) (fun h57 => ?_) (fun h57 => ?_)) | ((with_reducible refine mk_nn ?_); refine n_icmp_ne (tgt := 62) dX11_passed_57 (by decide) (by omega) (by omega) (fun h57 => ?_) (fun h57 => ?_)) | refine e_icmp_ne (tgt := 62) dX11_passed_57 (by decide) (fun h57 => ?_) (fun h57 => ?_)
                · try first | contradiction | omega
                  all_goals
                    first | refine n_inc dX11_passed_62 rfl (Nat.le_of_ble_eq_true rfl) rfl ?_ | refine e_iinc dX11_passed_62 rfl rfl (Nat.le_of_ble_eq_true rfl) rfl ?_
                    refine e_goto (tgt := 18) dX11_passed_65 (by decide) ?_
                    contradiction
                · try first | contradiction | omega
                  all_goals
                    refine e_iload_n dX11_passed_60 rfl rfl ?_
                    refine e_ret (some _) rfl (r_int dX11_passed_61 rfl) ?_
                    exact xq rfl rfl rfl rfl rfl rfl
            · try first | contradiction | omega
              all_goals
                refine e_iconst (v := -1) dX11_passed_38 rfl ?_
                refine e_ret (some _) rfl (r_int dX11_passed_39 rfl) ?_
                exact xq rfl rfl rfl rfl rfl rfl
          | some m =>
            have hm := sbO_in hs
            have hmv := iv_mv iv hm.1
            by_cases hct : c = t
            · subst hct
              have e1 : pasF w k (c - c) e = some (w (7694 + 72 * m + 11)) := by rw [Nat.sub_self]; unfold pasF; rw [hs]; rfl
              rw [e1]
              refine e_aload_n dX11_passed_18 rfl rfl ?_
              refine e_iload_n dX11_passed_19 rfl rfl ?_
              refine e_aload_n dX11_passed_20 rfl rfl ?_
              refine e_getR dX11_passed_21 fl_X11_7 rfl (by assumption) ?_
              refine e_iconst (v := nI 0) dX11_passed_24 rfl ?_
              first | ((with_reducible refine mk_ldw ?_); refine e_ldw dX11_passed_25 (by omega) ?_) | refine e_iald _ dX11_passed_25 ⟨by decide, by decide⟩ rfl rfl (by simp only [lenK]; omega) ?_
              refine e_iload_n dX11_passed_26 rfl rfl ?_
              refine x_V3 (M' := mX11_switchBehind) dX11_passed_27 ml_X11_345 ok_X11_switchBehind (by decide) rfl im_X11_switchBehind se_X11_switchBehind (ct_X11_switchBehind ‹_› ‹_› (by omega) (by omega) (by omega)) (Nat.le_of_ble_eq_true rfl) (by decide) (Nat.le_of_ble_eq_true rfl) ?_
              rw [hs]
              refine e_istore dX11_passed_30 (Nat.le_of_ble_eq_true rfl) rfl ?_
              refine e_iload dX11_passed_32 rfl ?_
              refine e_iconst (v := -1) dX11_passed_34 rfl ?_
              first | ((with_reducible refine mk_mo ?_); refine p_icmp_ne (tgt := 40) dX11_passed_35 (by decide) (fun h35 => ?_) (fun h35 => ?_)) | ((with_reducible refine mk_ms ?_); refine s_icmp_ne (tgt := 40) dX11_passed_35 (by decide) (by omega) (fun h35 => ?_) (fun h35 => ?_)) | ((with_reducible refine mk_mn ?_); refine q_icmp_ne (tgt := 40) dX11_passed_35 (by decide) (by omega) (fun h35 => ?_) (fun h35 => ?_)) | ((with_reducible refine mk_nn ?_); refine n_icmp_ne (tgt := 40) dX11_passed_35 (by decide) (by omega) (by omega) (fun h35 => ?_) (fun h35 => ?_)) | refine e_icmp_ne (tgt := 40) dX11_passed_35 (by decide) (fun h35 => ?_) (fun h35 => ?_)
              · try first | contradiction | omega
                all_goals
                  refine e_aload_n dX11_passed_40 rfl rfl ?_
                  refine e_getR dX11_passed_41 fl_X11_7 rfl (by assumption) ?_
                  refine e_iload dX11_passed_44 rfl ?_
                  refine x_S1 (M' := mX11_moveAt) dX11_passed_46 ml_X11_62 ok_X11_moveAt rfl sc_X11_moveAt (ct_X11_moveAt) (Nat.le_of_ble_eq_true rfl) (by decide) (Nat.le_of_ble_eq_true rfl) ?_
                  refine e_bipush (v := nI 11) dX11_passed_49 rfl ?_
                  first | ((with_reducible refine mk_nn ?_); refine n_iadd dX11_passed_51 ?_) | refine e_iadd dX11_passed_51 ?_
                  first | ((with_reducible refine mk_ldw ?_); refine e_ldw dX11_passed_52 (by omega) ?_) | refine e_iald _ dX11_passed_52 ⟨by decide, by decide⟩ rfl rfl (by simp only [lenK]; omega) ?_
                  refine e_istore_n dX11_passed_53 rfl (Nat.le_of_ble_eq_true rfl) rfl ?_
                  refine e_iload dX11_passed_54 rfl ?_
                  refine e_iload_n dX11_passed_56 rfl rfl ?_
                  first | ((with_reducible refine mk_mo ?_); refine p_icmp_ne (tgt := 62) dX11_passed_57 (by decide) (fun h57 => ?_) (fun h57 => ?_)) | ((with_reducible refine mk_ms ?_); refine s_icmp_ne (tgt := 62) dX11_passed_57 (by decide) (by omega) (fun h57 => ?_) (fun h57 => ?_)) | ((with_reducible refine mk_mn ?_); refine q_icmp_ne (tgt := 62) dX11_passed_57 (by decide) (by omega) (fun h57 => ?_) (fun h57 => ?_)) | ((with_reducible refine mk_nn ?_); refine n_icmp_ne (tgt := 62) dX11_passed_57 (by decide) (by omega) (by omega) (fun h57 => ?_) (fun h57 => ?_)) | refine e_icmp_ne (tgt := 62) dX11_passed_57 (by decide) (fun h57 => ?_) (fun h57 => ?_)
                  · try first | contradiction | omega
                    all_goals
                      first | refine n_inc dX11_passed_62 rfl (Nat.le_of_ble_eq_true rfl) rfl ?_ | refine e_iinc dX11_passed_62 rfl rfl (Nat.le_of_ble_eq_true rfl) rfl ?_
                      refine e_goto (tgt := 18) dX11_passed_65 (by decide) ?_
                      contradiction
                  · try first | contradiction | omega
                    all_goals
                      refine e_iload_n dX11_passed_60 rfl rfl ?_
                      refine e_ret (some _) rfl (r_int dX11_passed_61 rfl) ?_
                      exact xq rfl rfl rfl rfl rfl rfl
              · try first | contradiction | omega
                all_goals
                  refine e_iconst (v := -1) dX11_passed_38 rfl ?_
                  refine e_ret (some _) rfl (r_int dX11_passed_39 rfl) ?_
                  exact xq rfl rfl rfl rfl rfl rfl
            · have e1 : pasF w k (t - c) e = pasF w k (t - (c + 1)) (w (7694 + 72 * m + 11)) := by
                rw [show t - c = (t - (c + 1)) + 1 by omega]
                show (match sbO w e (w 0) k with | none => none | some m => pasF w k (t - (c + 1)) (w (7694 + 72 * m + 11))) = _
                rw [hs]
              rw [e1]
              refine e_aload_n dX11_passed_18 rfl rfl ?_
              refine e_iload_n dX11_passed_19 rfl rfl ?_
              refine e_aload_n dX11_passed_20 rfl rfl ?_
              refine e_getR dX11_passed_21 fl_X11_7 rfl (by assumption) ?_
              refine e_iconst (v := nI 0) dX11_passed_24 rfl ?_
              first | ((with_reducible refine mk_ldw ?_); refine e_ldw dX11_passed_25 (by omega) ?_) | refine e_iald _ dX11_passed_25 ⟨by decide, by decide⟩ rfl rfl (by simp only [lenK]; omega) ?_
              refine e_iload_n dX11_passed_26 rfl rfl ?_
              refine x_V3 (M' := mX11_switchBehind) dX11_passed_27 ml_X11_345 ok_X11_switchBehind (by decide) rfl im_X11_switchBehind se_X11_switchBehind (ct_X11_switchBehind ‹_› ‹_› (by omega) (by omega) (by omega)) (Nat.le_of_ble_eq_true rfl) (by decide) (Nat.le_of_ble_eq_true rfl) ?_
              rw [hs]
              refine e_istore dX11_passed_30 (Nat.le_of_ble_eq_true rfl) rfl ?_
              refine e_iload dX11_passed_32 rfl ?_
              refine e_iconst (v := -1) dX11_passed_34 rfl ?_
              first | ((with_reducible refine mk_mo ?_); refine p_icmp_ne (tgt := 40) dX11_passed_35 (by decide) (fun h35 => ?_) (fun h35 => ?_)) | ((with_reducible refine mk_ms ?_); refine s_icmp_ne (tgt := 40) dX11_passed_35 (by decide) (by omega) (fun h35 => ?_) (fun h35 => ?_)) | ((with_reducible refine mk_mn ?_); refine q_icmp_ne (tgt := 40) dX11_passed_35 (by decide) (by omega) (fun h35 => ?_) (fun h35 => ?_)) | ((with_reducible refine mk_nn ?_); refine n_icmp_ne (tgt := 40) dX11_passed_35 (by decide) (by omega) (by omega) (fun h35 => ?_) (fun h35 => ?_)) | refine e_icmp_ne (tgt := 40) dX11_passed_35 (by decide) (fun h35 => ?_) (fun h35 => ?_)
              · try first | contradiction | omega
                all_goals
                  refine e_aload_n dX11_passed_40 rfl rfl ?_
                  refine e_getR dX11_passed_41 fl_X11_7 rfl (by assumption) ?_
                  refine e_iload dX11_passed_44 rfl ?_
                  refine x_S1 (M' := mX11_moveAt) dX11_passed_46 ml_X11_62 ok_X11_moveAt rfl sc_X11_moveAt (ct_X11_moveAt) (Nat.le_of_ble_eq_true rfl) (by decide) (Nat.le_of_ble_eq_true rfl) ?_
                  refine e_bipush (v := nI 11) dX11_passed_49 rfl ?_
                  first | ((with_reducible refine mk_nn ?_); refine n_iadd dX11_passed_51 ?_) | refine e_iadd dX11_passed_51 ?_
                  first | ((with_reducible refine mk_ldw ?_); refine e_ldw dX11_passed_52 (by omega) ?_) | refine e_iald _ dX11_passed_52 ⟨by decide, by decide⟩ rfl rfl (by simp only [lenK]; omega) ?_
                  refine e_istore_n dX11_passed_53 rfl (Nat.le_of_ble_eq_true rfl) rfl ?_
                  refine e_iload dX11_passed_54 rfl ?_
                  refine e_iload_n dX11_passed_56 rfl rfl ?_
                  first | ((with_reducible refine mk_mo ?_); refine p_icmp_ne (tgt := 62) dX11_passed_57 (by decide) (fun h57 => ?_) (fun h57 => ?_)) | ((with_reducible refine mk_ms ?_); refine s_icmp_ne (tgt := 62) dX11_passed_57 (by decide) (by omega) (fun h57 => ?_) (fun h57 => ?_)) | ((with_reducible refine mk_mn ?_); refine q_icmp_ne (tgt := 62) dX11_passed_57 (by decide) (by omega) (fun h57 => ?_) (fun h57 => ?_)) | ((with_reducible refine mk_nn ?_); refine n_icmp_ne (tgt := 62) dX11_passed_57 (by decide) (by omega) (by omega) (fun h57 => ?_) (fun h57 => ?_)) | refine e_icmp_ne (tgt := 62) dX11_passed_57 (by decide) (fun h57 => ?_) (fun h57 => ?_)
                  · try first | contradiction | omega
                    all_goals
                      first | refine n_inc dX11_passed_62 rfl (Nat.le_of_ble_eq_true rfl) rfl ?_ | refine e_iinc dX11_passed_62 rfl rfl (Nat.le_of_ble_eq_true rfl) rfl ?_
                      refine e_goto (tgt := 18) dX11_passed_65 (by decide) ?_
                      exact EV_ls (by repeat (first | exact lsub_0 | refine lsub_n ?_ | refine lsub_s ?_)) (ih _ _ (by omega) (by omega) (by omega))
                  · try first | contradiction | omega
                    all_goals
                      refine e_iload_n dX11_passed_60 rfl rfl ?_
                      refine e_ret (some _) rfl (r_int dX11_passed_61 rfl) ?_
                      exact xq rfl rfl rfl rfl rfl rfl
              · try first | contradiction | omega
                all_goals
                  refine e_iconst (v := -1) dX11_passed_38 rfl ?_
                  refine e_ret (some _) rfl (r_int dX11_passed_39 rfl) ?_
                  exact xq rfl rfl rfl rfl rfl rfl
      refine e_iload_n dX11_passed_0 rfl rfl ?_
      refine x_S1 (M' := mX11_isKey) dX11_passed_1 ml_X11_54 ok_X11_isKey rfl sc_X11_isKey (ct_X11_isKey _) (Nat.le_of_ble_eq_true rfl) (by decide) (Nat.le_of_ble_eq_true rfl) ?_
      rw [hx]
      first | ((with_reducible refine mk_b ?_); refine b_if_eq (tgt := 11) dX11_passed_4 (by decide) (fun h4 => ?_) (fun h4 => ?_)) | ((with_reducible refine mk_ll ?_); refine m_if_eq (tgt := 11) dX11_passed_4 (by decide) (by omega) (by omega) (fun h4 => ?_) (fun h4 => ?_)) | ((with_reducible refine mk_lc ?_); refine l_if_eq (tgt := 11) dX11_passed_4 (by decide) (fun h4 => ?_) (fun h4 => ?_)) | ((with_reducible refine mk_n ?_); refine n_if_eq (tgt := 11) dX11_passed_4 (by decide) (by omega) (fun h4 => ?_) (fun h4 => ?_)) | refine e_if_eq (tgt := 11) dX11_passed_4 (by decide) (fun h4 => ?_) (fun h4 => ?_)
      · try first | contradiction | omega | (simp only [decide_eq_true_eq, decide_eq_false_iff_not] at h4; omega)
        all_goals
          refine e_iconst (v := -1) dX11_passed_11 rfl ?_
          refine e_ret (some _) rfl (r_int dX11_passed_12 rfl) ?_
          contradiction
      · try first | contradiction | omega | (simp only [decide_eq_true_eq, decide_eq_false_iff_not] at h4; omega)
        all_goals
          refine e_iload_n dX11_passed_7 rfl rfl ?_
          first | ((with_reducible refine mk_ll ?_); refine m_if_ge (tgt := 13) dX11_passed_8 (by decide) (by omega) (by omega) (fun h8 => ?_) (fun h8 => ?_)) | ((with_reducible refine mk_lc ?_); refine l_if_ge (tgt := 13) dX11_passed_8 (by decide) (fun h8 => ?_) (fun h8 => ?_)) | ((with_reducible refine mk_n ?_); refine n_if_ge (tgt := 13) dX11_passed_8 (by decide) (by omega) (fun h8 => ?_) (fun h8 => ?_)) | refine e_if_ge (tgt := 13) dX11_passed_8 (by decide) (fun h8 => ?_) (fun h8 => ?_)
          · try first | contradiction | omega
            all_goals
              refine e_iconst (v := nI 1) dX11_passed_13 rfl ?_
              refine e_istore_n dX11_passed_14 rfl (Nat.le_of_ble_eq_true rfl) rfl ?_
              refine e_iconst (v := nI 0) dX11_passed_15 rfl ?_
              refine e_istore dX11_passed_16 (Nat.le_of_ble_eq_true rfl) rfl ?_
              have kk := key 2000 1 0 (by omega) (by omega) (by omega)
              have er : pasR w (nI k) (nI t) = oI (pasF w k (t - 0) 1) := by unfold pasR; rw [if_pos ⟨hx, hy⟩, hkc, htc]; rfl
              rw [er]
              exact kk
          · try first | contradiction | omega
            all_goals
              refine e_iconst (v := -1) dX11_passed_11 rfl ?_
              refine e_ret (some _) rfl (r_int dX11_passed_12 rfl) ?_
              contradiction
    · skip
      refine e_iload_n dX11_passed_0 rfl rfl ?_
      refine x_S1 (M' := mX11_isKey) dX11_passed_1 ml_X11_54 ok_X11_isKey rfl sc_X11_isKey (ct_X11_isKey _) (Nat.le_of_ble_eq_true rfl) (by decide) (Nat.le_of_ble_eq_true rfl) ?_
      rw [hx]
      first | ((with_reducible refine mk_b ?_); refine b_if_eq (tgt := 11) dX11_passed_4 (by decide) (fun h4 => ?_) (fun h4 => ?_)) | ((with_reducible refine mk_ll ?_); refine m_if_eq (tgt := 11) dX11_passed_4 (by decide) (by omega) (by omega) (fun h4 => ?_) (fun h4 => ?_)) | ((with_reducible refine mk_lc ?_); refine l_if_eq (tgt := 11) dX11_passed_4 (by decide) (fun h4 => ?_) (fun h4 => ?_)) | ((with_reducible refine mk_n ?_); refine n_if_eq (tgt := 11) dX11_passed_4 (by decide) (by omega) (fun h4 => ?_) (fun h4 => ?_)) | refine e_if_eq (tgt := 11) dX11_passed_4 (by decide) (fun h4 => ?_) (fun h4 => ?_)
      · try first | contradiction | omega | (simp only [decide_eq_true_eq, decide_eq_false_iff_not] at h4; omega)
        all_goals
          refine e_iconst (v := -1) dX11_passed_11 rfl ?_
          refine e_ret (some _) rfl (r_int dX11_passed_12 rfl) ?_
          refine xq ?_ rfl rfl rfl rfl rfl
          unfold pasR
          rw [if_neg (fun q => hy q.2)]
      · try first | contradiction | omega | (simp only [decide_eq_true_eq, decide_eq_false_iff_not] at h4; omega)
        all_goals
          refine e_iload_n dX11_passed_7 rfl rfl ?_
          first | ((with_reducible refine mk_ll ?_); refine m_if_ge (tgt := 13) dX11_passed_8 (by decide) (by omega) (by omega) (fun h8 => ?_) (fun h8 => ?_)) | ((with_reducible refine mk_lc ?_); refine l_if_ge (tgt := 13) dX11_passed_8 (by decide) (fun h8 => ?_) (fun h8 => ?_)) | ((with_reducible refine mk_n ?_); refine n_if_ge (tgt := 13) dX11_passed_8 (by decide) (by omega) (fun h8 => ?_) (fun h8 => ?_)) | refine e_if_ge (tgt := 13) dX11_passed_8 (by decide) (fun h8 => ?_) (fun h8 => ?_)
          · try first | contradiction | omega
            all_goals
              refine e_iconst (v := nI 1) dX11_passed_13 rfl ?_
              refine e_istore_n dX11_passed_14 rfl (Nat.le_of_ble_eq_true rfl) rfl ?_
              refine e_iconst (v := nI 0) dX11_passed_15 rfl ?_
              refine e_istore dX11_passed_16 (Nat.le_of_ble_eq_true rfl) rfl ?_
              exact absurd (Int32.le_iff_toInt_le.mp h8) hy
          · try first | contradiction | omega
            all_goals
              refine e_iconst (v := -1) dX11_passed_11 rfl ?_
              refine e_ret (some _) rfl (r_int dX11_passed_12 rfl) ?_
              refine xq ?_ rfl rfl rfl rfl rfl
              unfold pasR
              rw [if_neg (fun q => hy q.2)]
theorem ct_X11_spare {fi : FI} {fr : FR} {ai : FI} {ar : FR} {N : Nat} {w : Nat → Nat} (sm : SM fr) (iv : Inv w)  : CP mX11_spare 3 0 0 [.ref (rf 11 80)] fi fr (mW ai w) ar N (xQ (some (.int (sprR w))) fi fr (mW ai w) ar N) := by
  obtain ⟨sW, sA, sK, sU, sC, sKC, sT, sCl⟩ := id sm
  have h1 := iv_n iv
  have h3 := iv_mm iv
  change EV mX11_spare 3 0 0 0 [some (.ref (rf 11 80)), none, none] [] fi fr (mW ai w) ar N (xQ (some (.int (sprR w))) fi fr (mW ai w) ar N)
  have key := ev_up (P := (fun j => EV mX11_spare 3 0 0 4 [some (.ref (rf 11 80)), some (.int (nI (rs (fun s => cnt (fun k => decide (0 < w (1106 + 1000 * s + k))) 1000) 0 j))), some (.int (nI j))] [] fi fr (mW ai w) ar N (xQ (some (.int (sprR w))) fi fr (mW ai w) ar N))) (6) (fun j hj ih => by
    refine e_iload_n dX11_spare_4 rfl rfl ?_
    refine e_bipush (v := nI 6) dX11_spare_5 rfl ?_
    first | ((with_reducible refine mk_nn ?_); refine n_icmp_ge (tgt := 24) dX11_spare_7 (by decide) (by omega) (by omega) (fun h7 => ?_) (fun h7 => ?_)) | refine e_icmp_ge (tgt := 24) dX11_spare_7 (by decide) (fun h7 => ?_) (fun h7 => ?_)
    · try first | contradiction | omega
      all_goals
        refine e_iload_n dX11_spare_24 rfl rfl ?_
        refine e_aload_n dX11_spare_25 rfl rfl ?_
        refine x_V0 (M' := mX11_owners) dX11_spare_26 ml_X11_351 ok_X11_owners (by decide) rfl im_X11_owners se_X11_owners (ct_X11_owners ‹_› ‹_›) (Nat.le_of_ble_eq_true rfl) (by decide) (Nat.le_of_ble_eq_true rfl) ?_
        first | ((with_reducible refine mk_nn ?_); refine n_isub dX11_spare_29 (by omega) ?_) | refine e_isub dX11_spare_29 ?_
        refine e_ret (some _) rfl (r_int dX11_spare_30 rfl) ?_
        exact xq (by first | rfl | simp_all [bI_t, bI_f]) rfl rfl rfl rfl rfl
    · try first | contradiction | omega
      all_goals
        refine e_iload_n dX11_spare_10 rfl rfl ?_
        refine e_aload_n dX11_spare_11 rfl rfl ?_
        refine e_iload_n dX11_spare_12 rfl rfl ?_
        refine x_V1 (M' := mX11_valuesOf) dX11_spare_13 ml_X11_331 ok_X11_valuesOf (by decide) rfl im_X11_valuesOf se_X11_valuesOf (ct_X11_valuesOf ‹_› ‹_› (by omega)) (Nat.le_of_ble_eq_true rfl) (by decide) (Nat.le_of_ble_eq_true rfl) ?_
        first | ((with_reducible refine mk_nn ?_); refine n_iadd dX11_spare_16 ?_) | refine e_iadd dX11_spare_16 ?_
        refine e_istore_n dX11_spare_17 rfl (Nat.le_of_ble_eq_true rfl) rfl ?_
        first | refine n_inc dX11_spare_18 rfl (Nat.le_of_ble_eq_true rfl) rfl ?_ | refine e_iinc dX11_spare_18 rfl rfl (Nat.le_of_ble_eq_true rfl) rfl ?_
        refine e_goto (tgt := 4) dX11_spare_21 (by decide) ?_
        rw [rs_s, Nat.zero_add] at ih
        exact ih
    ) (by
    refine e_iload_n dX11_spare_4 rfl rfl ?_
    refine e_bipush (v := nI 6) dX11_spare_5 rfl ?_
    first | ((with_reducible refine mk_nn ?_); refine n_icmp_ge (tgt := 24) dX11_spare_7 (by decide) (by omega) (by omega) (fun h7 => ?_) (fun h7 => ?_)) | refine e_icmp_ge (tgt := 24) dX11_spare_7 (by decide) (fun h7 => ?_) (fun h7 => ?_)
    · try first | contradiction | omega
      all_goals
        refine e_iload_n dX11_spare_24 rfl rfl ?_
        refine e_aload_n dX11_spare_25 rfl rfl ?_
        refine x_V0 (M' := mX11_owners) dX11_spare_26 ml_X11_351 ok_X11_owners (by decide) rfl im_X11_owners se_X11_owners (ct_X11_owners ‹_› ‹_›) (Nat.le_of_ble_eq_true rfl) (by decide) (Nat.le_of_ble_eq_true rfl) ?_
        first | ((with_reducible refine mk_nn ?_); refine n_isub dX11_spare_29 (by omega) ?_) | refine e_isub dX11_spare_29 ?_
        refine e_ret (some _) rfl (r_int dX11_spare_30 rfl) ?_
        refine xq ?_ rfl rfl rfl rfl rfl
        unfold sprR
        first | rfl | (rw [pk_sub (by assumption)])
    · try first | contradiction | omega
      all_goals
        refine e_iload_n dX11_spare_10 rfl rfl ?_
        refine e_aload_n dX11_spare_11 rfl rfl ?_
        refine e_iload_n dX11_spare_12 rfl rfl ?_
        refine x_V1 (M' := mX11_valuesOf) dX11_spare_13 ml_X11_331 ok_X11_valuesOf (by decide) rfl im_X11_valuesOf se_X11_valuesOf (ct_X11_valuesOf ‹_› ‹_› (by omega)) (Nat.le_of_ble_eq_true rfl) (by decide) (Nat.le_of_ble_eq_true rfl) ?_
        first | ((with_reducible refine mk_nn ?_); refine n_iadd dX11_spare_16 ?_) | refine e_iadd dX11_spare_16 ?_
        refine e_istore_n dX11_spare_17 rfl (Nat.le_of_ble_eq_true rfl) rfl ?_
        first | refine n_inc dX11_spare_18 rfl (Nat.le_of_ble_eq_true rfl) rfl ?_ | refine e_iinc dX11_spare_18 rfl rfl (Nat.le_of_ble_eq_true rfl) rfl ?_
        refine e_goto (tgt := 4) dX11_spare_21 (by decide) ?_
        rw [rs_s, Nat.zero_add] at ih
        exact ih
    )
  refine e_iconst (v := nI 0) dX11_spare_0 rfl ?_
  refine e_istore_n dX11_spare_1 rfl (Nat.le_of_ble_eq_true rfl) rfl ?_
  refine e_iconst (v := nI 0) dX11_spare_2 rfl ?_
  refine e_istore_n dX11_spare_3 rfl (Nat.le_of_ble_eq_true rfl) rfl ?_
  exact key 0 (by omega)
theorem ct_X11_sound {fi : FI} {fr : FR} {ai : FI} {ar : FR} {N : Nat} {w : Nat → Nat} (sm : SM fr) (iv : Inv w)  : CP mX11_sound 4 0 0 [.ref (rf 11 80)] fi fr (mW ai w) ar N (xQ (some (.int (bI (soB w)))) fi fr (mW ai w) ar N) := by
  obtain ⟨sW, sA, sK, sU, sC, sKC, sT, sCl⟩ := id sm
  have h1 := iv_n iv
  have h3 := iv_mm iv
  change EV mX11_sound 4 0 0 0 [some (.ref (rf 11 80)), none, none] [] fi fr (mW ai w) ar N (xQ (some (.int (bI (soB w)))) fi fr (mW ai w) ar N)
  have key := ev_up (P := fun s => (∀ q, q < s → (fO (sdB w q) 1000).isSome = false) → EV mX11_sound 4 0 0 2 [some (.ref (rf 11 80)), some (.int (nI s)), none] [] fi fr (mW ai w) ar N (xQ (some (.int (bI (soB w)))) fi fr (mW ai w) ar N)) 6 (fun s hs ih0 hn0 => by
    have ih0 : (∀ q, q < s + 1 → (fO (sdB w q) 1000).isSome = false) → EV mX11_sound 4 0 0 2 [some (.ref (rf 11 80)), some (.int (nI (s + 1))), some (.int (nI 1000))] [] fi fr (mW ai w) ar N (xQ (some (.int (bI (soB w)))) fi fr (mW ai w) ar N) := fun hq => EV_ls (by repeat (first | exact lsub_0 | refine lsub_n ?_ | refine lsub_s ?_)) (ih0 hq)
    have key1 := ev_up (P := (fun j => (∀ q, q < j → sdB w s q = false) → EV mX11_sound 4 0 0 10 [some (.ref (rf 11 80)), some (.int (nI s)), some (.int (nI j))] [] fi fr (mW ai w) ar N (xQ (some (.int (bI (soB w)))) fi fr (mW ai w) ar N))) (1000) (fun j hj ih hn => by
      have hv := iv_va iv (i := 1000 * s + j) (by omega)
      rw [← Nat.add_assoc] at hv
      have hsp := spW_lt iv j
      have hso := iv_own iv hsp
      refine e_iload_n dX11_sound_10 rfl rfl ?_
      refine e_sipush (v := nI 1000) dX11_sound_11 rfl ?_
      first | ((with_reducible refine mk_nn ?_); refine n_icmp_ge (tgt := 64) dX11_sound_14 (by decide) (by omega) (by omega) (fun h14 => ?_) (fun h14 => ?_)) | refine e_icmp_ge (tgt := 64) dX11_sound_14 (by decide) (fun h14 => ?_) (fun h14 => ?_)
      · try first | contradiction | omega
        all_goals
          first | refine n_inc dX11_sound_64 rfl (Nat.le_of_ble_eq_true rfl) rfl ?_ | refine e_iinc dX11_sound_64 rfl rfl (Nat.le_of_ble_eq_true rfl) rfl ?_
          refine e_goto (tgt := 2) dX11_sound_67 (by decide) ?_
          refine e_iload_n dX11_sound_2 rfl rfl ?_
          refine e_bipush (v := nI 6) dX11_sound_3 rfl ?_
          first | ((with_reducible refine mk_nn ?_); refine n_icmp_ge (tgt := 70) dX11_sound_5 (by decide) (by omega) (by omega) (fun h5 => ?_) (fun h5 => ?_)) | refine e_icmp_ge (tgt := 70) dX11_sound_5 (by decide) (fun h5 => ?_) (fun h5 => ?_)
          · try first | contradiction | omega
            all_goals
              refine e_iconst (v := nI 1) dX11_sound_70 rfl ?_
              refine e_ret (some _) rfl (r_int dX11_sound_71 rfl) ?_
              refine xq (bl0 ?_) rfl rfl rfl rfl rfl
              unfold soB
              rw [fO_eq (i := s) hn0 (by rw [fO_eq (i := j) hn (by grind [sdB]) hj]; rfl) hs]
              rfl
          · try first | contradiction | omega
            all_goals
              refine e_iconst (v := nI 0) dX11_sound_8 rfl ?_
              refine e_istore_n dX11_sound_9 rfl (Nat.le_of_ble_eq_true rfl) rfl ?_
              refine ih (fun q hq => ?_)
              by_cases hqj : q = j
              · subst hqj; grind [sdB]
              · exact hn q (by omega)
      · try first | contradiction | omega
        all_goals
          refine e_aload_n dX11_sound_17 rfl rfl ?_
          refine e_getR dX11_sound_18 fl_X11_7 rfl (by assumption) ?_
          refine e_iload_n dX11_sound_21 rfl rfl ?_
          refine e_iload_n dX11_sound_22 rfl rfl ?_
          refine x_S2 (M' := mX11_storeAt) dX11_sound_23 ml_X11_136 ok_X11_storeAt rfl sc_X11_storeAt (ct_X11_storeAt) (Nat.le_of_ble_eq_true rfl) (by decide) (Nat.le_of_ble_eq_true rfl) ?_
          first | ((with_reducible refine mk_ldw ?_); refine e_ldw dX11_sound_26 (by omega) ?_) | refine e_iald _ dX11_sound_26 ⟨by decide, by decide⟩ rfl rfl (by simp only [lenK]; omega) ?_
          first | ((with_reducible refine mk_ll ?_); refine m_if_le (tgt := 58) dX11_sound_27 (by decide) (by omega) (by omega) (fun h27 => ?_) (fun h27 => ?_)) | ((with_reducible refine mk_lc ?_); refine l_if_le (tgt := 58) dX11_sound_27 (by decide) (fun h27 => ?_) (fun h27 => ?_)) | ((with_reducible refine mk_n ?_); refine n_if_le (tgt := 58) dX11_sound_27 (by decide) (by omega) (fun h27 => ?_) (fun h27 => ?_)) | refine e_if_le (tgt := 58) dX11_sound_27 (by decide) (fun h27 => ?_) (fun h27 => ?_)
          · try first | contradiction | omega
            all_goals
              first | refine n_inc dX11_sound_58 rfl (Nat.le_of_ble_eq_true rfl) rfl ?_ | refine e_iinc dX11_sound_58 rfl rfl (Nat.le_of_ble_eq_true rfl) rfl ?_
              refine e_goto (tgt := 10) dX11_sound_61 (by decide) ?_
              refine ih (fun q hq => ?_)
              by_cases hqj : q = j
              · subst hqj; grind [sdB]
              · exact hn q (by omega)
          · try first | contradiction | omega
            all_goals
              refine e_aload_n dX11_sound_30 rfl rfl ?_
              refine e_getR dX11_sound_31 fl_X11_7 rfl (by assumption) ?_
              refine e_bipush (v := nI 42) dX11_sound_34 rfl ?_
              refine e_aload_n dX11_sound_36 rfl rfl ?_
              refine e_iload_n dX11_sound_37 rfl rfl ?_
              refine x_V1 (M' := mX11_spanWith) dX11_sound_38 ml_X11_58 ok_X11_spanWith (by decide) rfl im_X11_spanWith se_X11_spanWith (ct_X11_spanWith ‹_› ‹_› (by omega)) (Nat.le_of_ble_eq_true rfl) (by decide) (Nat.le_of_ble_eq_true rfl) ?_
              first | ((with_reducible refine mk_nn ?_); refine n_iadd dX11_sound_41 ?_) | refine e_iadd dX11_sound_41 ?_
              first | ((with_reducible refine mk_ldw ?_); refine e_ldw dX11_sound_42 (by omega) ?_) | refine e_iald _ dX11_sound_42 ⟨by decide, by decide⟩ rfl rfl (by simp only [lenK]; omega) ?_
              refine e_iload_n dX11_sound_43 rfl rfl ?_
              first | ((with_reducible refine mk_mo ?_); refine p_icmp_eq (tgt := 58) dX11_sound_44 (by decide) (fun h44 => ?_) (fun h44 => ?_)) | ((with_reducible refine mk_ms ?_); refine s_icmp_eq (tgt := 58) dX11_sound_44 (by decide) (by omega) (fun h44 => ?_) (fun h44 => ?_)) | ((with_reducible refine mk_mn ?_); refine q_icmp_eq (tgt := 58) dX11_sound_44 (by decide) (by omega) (fun h44 => ?_) (fun h44 => ?_)) | ((with_reducible refine mk_nn ?_); refine n_icmp_eq (tgt := 58) dX11_sound_44 (by decide) (by omega) (by omega) (fun h44 => ?_) (fun h44 => ?_)) | refine e_icmp_eq (tgt := 58) dX11_sound_44 (by decide) (fun h44 => ?_) (fun h44 => ?_)
              · try first | contradiction | omega
                all_goals
                  first | refine n_inc dX11_sound_58 rfl (Nat.le_of_ble_eq_true rfl) rfl ?_ | refine e_iinc dX11_sound_58 rfl rfl (Nat.le_of_ble_eq_true rfl) rfl ?_
                  refine e_goto (tgt := 10) dX11_sound_61 (by decide) ?_
                  refine ih (fun q hq => ?_)
                  by_cases hqj : q = j
                  · subst hqj; grind [sdB]
                  · exact hn q (by omega)
              · try first | contradiction | omega
                all_goals
                  refine e_aload_n dX11_sound_47 rfl rfl ?_
                  refine e_iload_n dX11_sound_48 rfl rfl ?_
                  refine e_iload_n dX11_sound_49 rfl rfl ?_
                  refine x_V2 (M' := mX11_mayHave) dX11_sound_50 ml_X11_348 ok_X11_mayHave (by decide) rfl im_X11_mayHave se_X11_mayHave (ct_X11_mayHave ‹_› ‹_› (by omega) (by omega)) (Nat.le_of_ble_eq_true rfl) (by decide) (Nat.le_of_ble_eq_true rfl) ?_
                  first | ((with_reducible refine mk_b ?_); refine b_if_ne (tgt := 58) dX11_sound_53 (by decide) (fun h53 => ?_) (fun h53 => ?_)) | ((with_reducible refine mk_ll ?_); refine m_if_ne (tgt := 58) dX11_sound_53 (by decide) (by omega) (by omega) (fun h53 => ?_) (fun h53 => ?_)) | ((with_reducible refine mk_lc ?_); refine l_if_ne (tgt := 58) dX11_sound_53 (by decide) (fun h53 => ?_) (fun h53 => ?_)) | ((with_reducible refine mk_n ?_); refine n_if_ne (tgt := 58) dX11_sound_53 (by decide) (by omega) (fun h53 => ?_) (fun h53 => ?_)) | refine e_if_ne (tgt := 58) dX11_sound_53 (by decide) (fun h53 => ?_) (fun h53 => ?_)
                  · try first | contradiction | omega | (simp only [decide_eq_true_eq, decide_eq_false_iff_not] at h53; omega)
                    all_goals
                      first | refine n_inc dX11_sound_58 rfl (Nat.le_of_ble_eq_true rfl) rfl ?_ | refine e_iinc dX11_sound_58 rfl rfl (Nat.le_of_ble_eq_true rfl) rfl ?_
                      refine e_goto (tgt := 10) dX11_sound_61 (by decide) ?_
                      refine ih (fun q hq => ?_)
                      by_cases hqj : q = j
                      · subst hqj; grind [sdB]
                      · exact hn q (by omega)
                  · try first | contradiction | omega | (simp only [decide_eq_true_eq, decide_eq_false_iff_not] at h53; omega)
                    all_goals
                      refine e_iconst (v := nI 0) dX11_sound_56 rfl ?_
                      refine e_ret (some _) rfl (r_int dX11_sound_57 rfl) ?_
                      refine xq (bl0 ?_) rfl rfl rfl rfl rfl
                      unfold soB
                      rw [fO_eq (i := s) hn0 (by rw [fO_eq (i := j) hn (by grind [sdB]) hj]; rfl) hs]
                      rfl
      ) (fun hn => by
      refine e_iload_n dX11_sound_10 rfl rfl ?_
      refine e_sipush (v := nI 1000) dX11_sound_11 rfl ?_
      first | ((with_reducible refine mk_nn ?_); refine n_icmp_ge (tgt := 64) dX11_sound_14 (by decide) (by omega) (by omega) (fun h14 => ?_) (fun h14 => ?_)) | refine e_icmp_ge (tgt := 64) dX11_sound_14 (by decide) (fun h14 => ?_) (fun h14 => ?_)
      · try first | contradiction | omega
        all_goals
          first | refine n_inc dX11_sound_64 rfl (Nat.le_of_ble_eq_true rfl) rfl ?_ | refine e_iinc dX11_sound_64 rfl rfl (Nat.le_of_ble_eq_true rfl) rfl ?_
          refine e_goto (tgt := 2) dX11_sound_67 (by decide) ?_
          refine ih0 (fun q hq => ?_)
          by_cases hqj : q = s
          · subst hqj; rw [fO_no hn]; rfl
          · exact hn0 q (by omega)
      · try first | contradiction | omega
        all_goals
          refine e_aload_n dX11_sound_17 rfl rfl ?_
          refine e_getR dX11_sound_18 fl_X11_7 rfl (by assumption) ?_
          refine e_iload_n dX11_sound_21 rfl rfl ?_
          refine e_iload_n dX11_sound_22 rfl rfl ?_
          refine x_S2 (M' := mX11_storeAt) dX11_sound_23 ml_X11_136 ok_X11_storeAt rfl sc_X11_storeAt (ct_X11_storeAt) (Nat.le_of_ble_eq_true rfl) (by decide) (Nat.le_of_ble_eq_true rfl) ?_
          first | ((with_reducible refine mk_ldw ?_); refine e_ldw dX11_sound_26 (by omega) ?_) | refine e_iald _ dX11_sound_26 ⟨by decide, by decide⟩ rfl rfl (by simp only [lenK]; omega) ?_
          first | ((with_reducible refine mk_ll ?_); refine m_if_le (tgt := 58) dX11_sound_27 (by decide) (by omega) (by omega) (fun h27 => ?_) (fun h27 => ?_)) | ((with_reducible refine mk_lc ?_); refine l_if_le (tgt := 58) dX11_sound_27 (by decide) (fun h27 => ?_) (fun h27 => ?_)) | ((with_reducible refine mk_n ?_); refine n_if_le (tgt := 58) dX11_sound_27 (by decide) (by omega) (fun h27 => ?_) (fun h27 => ?_)) | refine e_if_le (tgt := 58) dX11_sound_27 (by decide) (fun h27 => ?_) (fun h27 => ?_)
          · try first | contradiction | omega
            all_goals
              first | refine n_inc dX11_sound_58 rfl (Nat.le_of_ble_eq_true rfl) rfl ?_ | refine e_iinc dX11_sound_58 rfl rfl (Nat.le_of_ble_eq_true rfl) rfl ?_
              refine e_goto (tgt := 10) dX11_sound_61 (by decide) ?_
              refine ih (fun q hq => ?_)
              by_cases hqj : q = j
              · subst hqj; grind [sdB]
              · exact hn q (by omega)
          · try first | contradiction | omega
            all_goals
              refine e_aload_n dX11_sound_30 rfl rfl ?_
              refine e_getR dX11_sound_31 fl_X11_7 rfl (by assumption) ?_
              refine e_bipush (v := nI 42) dX11_sound_34 rfl ?_
              refine e_aload_n dX11_sound_36 rfl rfl ?_
              refine e_iload_n dX11_sound_37 rfl rfl ?_
              refine x_V1 (M' := mX11_spanWith) dX11_sound_38 ml_X11_58 ok_X11_spanWith (by decide) rfl im_X11_spanWith se_X11_spanWith (ct_X11_spanWith ‹_› ‹_› (by omega)) (Nat.le_of_ble_eq_true rfl) (by decide) (Nat.le_of_ble_eq_true rfl) ?_
              first | ((with_reducible refine mk_nn ?_); refine n_iadd dX11_sound_41 ?_) | refine e_iadd dX11_sound_41 ?_
              first | ((with_reducible refine mk_ldw ?_); refine e_ldw dX11_sound_42 (by omega) ?_) | refine e_iald _ dX11_sound_42 ⟨by decide, by decide⟩ rfl rfl (by simp only [lenK]; omega) ?_
              refine e_iload_n dX11_sound_43 rfl rfl ?_
              first | ((with_reducible refine mk_mo ?_); refine p_icmp_eq (tgt := 58) dX11_sound_44 (by decide) (fun h44 => ?_) (fun h44 => ?_)) | ((with_reducible refine mk_ms ?_); refine s_icmp_eq (tgt := 58) dX11_sound_44 (by decide) (by omega) (fun h44 => ?_) (fun h44 => ?_)) | ((with_reducible refine mk_mn ?_); refine q_icmp_eq (tgt := 58) dX11_sound_44 (by decide) (by omega) (fun h44 => ?_) (fun h44 => ?_)) | ((with_reducible refine mk_nn ?_); refine n_icmp_eq (tgt := 58) dX11_sound_44 (by decide) (by omega) (by omega) (fun h44 => ?_) (fun h44 => ?_)) | refine e_icmp_eq (tgt := 58) dX11_sound_44 (by decide) (fun h44 => ?_) (fun h44 => ?_)
              · try first | contradiction | omega
                all_goals
                  first | refine n_inc dX11_sound_58 rfl (Nat.le_of_ble_eq_true rfl) rfl ?_ | refine e_iinc dX11_sound_58 rfl rfl (Nat.le_of_ble_eq_true rfl) rfl ?_
                  refine e_goto (tgt := 10) dX11_sound_61 (by decide) ?_
                  refine ih (fun q hq => ?_)
                  by_cases hqj : q = j
                  · subst hqj; grind [sdB]
                  · exact hn q (by omega)
              · try first | contradiction | omega
                all_goals
                  refine e_aload_n dX11_sound_47 rfl rfl ?_
                  refine e_iload_n dX11_sound_48 rfl rfl ?_
                  refine e_iload_n dX11_sound_49 rfl rfl ?_
                  refine x_V2 (M' := mX11_mayHave) dX11_sound_50 ml_X11_348 ok_X11_mayHave (by decide) rfl im_X11_mayHave se_X11_mayHave (ct_X11_mayHave ‹_› ‹_› (by omega) (by omega)) (Nat.le_of_ble_eq_true rfl) (by decide) (Nat.le_of_ble_eq_true rfl) ?_
                  first | ((with_reducible refine mk_b ?_); refine b_if_ne (tgt := 58) dX11_sound_53 (by decide) (fun h53 => ?_) (fun h53 => ?_)) | ((with_reducible refine mk_ll ?_); refine m_if_ne (tgt := 58) dX11_sound_53 (by decide) (by omega) (by omega) (fun h53 => ?_) (fun h53 => ?_)) | ((with_reducible refine mk_lc ?_); refine l_if_ne (tgt := 58) dX11_sound_53 (by decide) (fun h53 => ?_) (fun h53 => ?_)) | ((with_reducible refine mk_n ?_); refine n_if_ne (tgt := 58) dX11_sound_53 (by decide) (by omega) (fun h53 => ?_) (fun h53 => ?_)) | refine e_if_ne (tgt := 58) dX11_sound_53 (by decide) (fun h53 => ?_) (fun h53 => ?_)
                  · try first | contradiction | omega | (simp only [decide_eq_true_eq, decide_eq_false_iff_not] at h53; omega)
                    all_goals
                      first | refine n_inc dX11_sound_58 rfl (Nat.le_of_ble_eq_true rfl) rfl ?_ | refine e_iinc dX11_sound_58 rfl rfl (Nat.le_of_ble_eq_true rfl) rfl ?_
                      refine e_goto (tgt := 10) dX11_sound_61 (by decide) ?_
                      refine ih (fun q hq => ?_)
                      by_cases hqj : q = j
                      · subst hqj; grind [sdB]
                      · exact hn q (by omega)
                  · try first | contradiction | omega | (simp only [decide_eq_true_eq, decide_eq_false_iff_not] at h53; omega)
                    all_goals
                      refine e_iconst (v := nI 0) dX11_sound_56 rfl ?_
                      refine e_ret (some _) rfl (r_int dX11_sound_57 rfl) ?_
                      refine xq (bl0 ?_) rfl rfl rfl rfl rfl
                      unfold soB
                      rw [fO_eq (i := s) hn0 (by rw [fO_eq (i := j) hn (by grind [sdB]) hj]; rfl) hs]
                      rfl
      )
    refine e_iload_n dX11_sound_2 rfl rfl ?_
    refine e_bipush (v := nI 6) dX11_sound_3 rfl ?_
    first | ((with_reducible refine mk_nn ?_); refine n_icmp_ge (tgt := 70) dX11_sound_5 (by decide) (by omega) (by omega) (fun h5 => ?_) (fun h5 => ?_)) | refine e_icmp_ge (tgt := 70) dX11_sound_5 (by decide) (fun h5 => ?_) (fun h5 => ?_)
    · try first | contradiction | omega
      all_goals
        refine e_iconst (v := nI 1) dX11_sound_70 rfl ?_
        refine e_ret (some _) rfl (r_int dX11_sound_71 rfl) ?_
        refine xq (bl0 ?_) rfl rfl rfl rfl rfl
        unfold soB
        rw [fO_eq (i := s) hn0 (by rw [fO_eq (i := j) hn (by grind [sdB]) hj]; rfl) hs]
        rfl
    · try first | contradiction | omega
      all_goals
        refine e_iconst (v := nI 0) dX11_sound_8 rfl ?_
        refine e_istore_n dX11_sound_9 rfl (Nat.le_of_ble_eq_true rfl) rfl ?_
        exact key1 0 (by omega) (fun q hq => absurd hq (Nat.not_lt_zero q))
    ) (fun hn => by
    refine e_iload_n dX11_sound_2 rfl rfl ?_
    refine e_bipush (v := nI 6) dX11_sound_3 rfl ?_
    first | ((with_reducible refine mk_nn ?_); refine n_icmp_ge (tgt := 70) dX11_sound_5 (by decide) (by omega) (by omega) (fun h5 => ?_) (fun h5 => ?_)) | refine e_icmp_ge (tgt := 70) dX11_sound_5 (by decide) (fun h5 => ?_) (fun h5 => ?_)
    · try first | contradiction | omega
      all_goals
        refine e_iconst (v := nI 1) dX11_sound_70 rfl ?_
        refine e_ret (some _) rfl (r_int dX11_sound_71 rfl) ?_
        refine xq (bl1 ?_) rfl rfl rfl rfl rfl
        unfold soB
        rw [fO_no hn]
        rfl
    · try first | contradiction | omega
      all_goals
        refine e_iconst (v := nI 0) dX11_sound_8 rfl ?_
        refine e_istore_n dX11_sound_9 rfl (Nat.le_of_ble_eq_true rfl) rfl ?_
        contradiction
    )
  refine e_iconst (v := nI 0) dX11_sound_0 rfl ?_
  refine e_istore_n dX11_sound_1 rfl (Nat.le_of_ble_eq_true rfl) rfl ?_
  exact EV_ls (by repeat (first | exact lsub_0 | refine lsub_n ?_ | refine lsub_s ?_)) (key 0 (by omega) (fun q hq => absurd hq (Nat.not_lt_zero q)))
theorem ct_X11_hot {fi : FI} {fr : FR} {ai : FI} {ar : FR} {N : Nat} {w : Nat → Nat} (sm : SM fr) (iv : Inv w) (y0 y1 : Int32) : CP mX11_hot 2 0 0 [.ref (rf 11 80), .int y0, .int y1] fi fr (mW ai w) ar N (xQ (some (.int (hotR w y0 y1))) fi fr (mW ai w) ar N) := by
  obtain ⟨sW, sA, sK, sU, sC, sKC, sT, sCl⟩ := id sm
  have h1 := iv_n iv
  have h3 := iv_mm iv
  change EV mX11_hot 2 0 0 0 [some (.ref (rf 11 80)), some (.int y0), some (.int y1), none] [] fi fr (mW ai w) ar N (xQ (some (.int (hotR w y0 y1))) fi fr (mW ai w) ar N)
  cases hy : inR y1 2 with
  | false =>
    have hy2 := inR_f hy
    refine e_iload_n dX11_hot_0 rfl rfl ?_
    first | ((with_reducible refine mk_n ?_); refine n_i2l dX11_hot_1 (by omega) ?_) | refine e_i2l dX11_hot_1 ?_
    refine e_lconst (v := lN 0) dX11_hot_2 rfl ?_
    refine e_lconst (v := lN 1) dX11_hot_3 rfl ?_
    refine x_S3 (M' := mX11_isIn) dX11_hot_4 ml_X11_45 ok_X11_isIn rfl sc_X11_isIn (by first | ((with_reducible refine ct_isInN ?_ ?_ ?_) <;> omega) | ((with_reducible refine ct_isInX ?_ ?_) <;> omega) | exact ct_X11_isIn _ _ _) (Nat.le_of_ble_eq_true rfl) (by decide) (Nat.le_of_ble_eq_true rfl) ?_
    first | ((with_reducible refine mk_b ?_); refine b_if_ne (tgt := 12) dX11_hot_7 (by decide) (fun h7 => ?_) (fun h7 => ?_)) | ((with_reducible refine mk_ll ?_); refine m_if_ne (tgt := 12) dX11_hot_7 (by decide) (by omega) (by omega) (fun h7 => ?_) (fun h7 => ?_)) | ((with_reducible refine mk_lc ?_); refine l_if_ne (tgt := 12) dX11_hot_7 (by decide) (fun h7 => ?_) (fun h7 => ?_)) | ((with_reducible refine mk_n ?_); refine n_if_ne (tgt := 12) dX11_hot_7 (by decide) (by omega) (fun h7 => ?_) (fun h7 => ?_)) | refine e_if_ne (tgt := 12) dX11_hot_7 (by decide) (fun h7 => ?_) (fun h7 => ?_)
    · try first | contradiction | omega | (simp only [decide_eq_true_eq, decide_eq_false_iff_not] at h7; omega)
      all_goals
        refine e_iconst (v := nI 0) dX11_hot_12 rfl ?_
        refine e_istore_n dX11_hot_13 rfl (Nat.le_of_ble_eq_true rfl) rfl ?_
        contradiction
    · try first | contradiction | omega | (simp only [decide_eq_true_eq, decide_eq_false_iff_not] at h7; omega)
      all_goals
        refine e_iconst (v := -1) dX11_hot_10 rfl ?_
        refine e_ret (some _) rfl (r_int dX11_hot_11 rfl) ?_
        refine xq ?_ rfl rfl rfl rfl rfl
        unfold hotR
        rw [hy]
        rfl
  | true =>
    obtain ⟨b, hb, hb2, rfl⟩ := inR_ex hy
    have hcl : (nI b).toNatClampNeg = b := nI_clamp hb2
    have er : hotR w y0 (nI b) = hotK w b (hotO w y0) := by unfold hotR; rw [hy, hcl, if_pos rfl]
    rw [er]
    have key := ev_up (P := (fun j => (∀ q, q < j → (fun k => decide (0 < w (106 + k)) && decide (nI (hvN w k) = y0)) q = false) → EV mX11_hot 2 0 0 14 [some (.ref (rf 11 80)), some (.int (y0)), some (.int (nI b)), some (.int (nI j))] [] fi fr (mW ai w) ar N (xQ (some (.int (hotK w b (hotO w y0)))) fi fr (mW ai w) ar N))) (1000) (fun j hj ih hn => by
      have hwj := iv_wt iv hj
      refine e_iload_n dX11_hot_14 rfl rfl ?_
      refine e_sipush (v := nI 1000) dX11_hot_15 rfl ?_
      first | ((with_reducible refine mk_nn ?_); refine n_icmp_ge (tgt := 66) dX11_hot_18 (by decide) (by omega) (by omega) (fun h18 => ?_) (fun h18 => ?_)) | refine e_icmp_ge (tgt := 66) dX11_hot_18 (by decide) (fun h18 => ?_) (fun h18 => ?_)
      · try first | contradiction | omega
        all_goals
          refine e_iconst (v := -1) dX11_hot_66 rfl ?_
          refine e_ret (some _) rfl (r_int dX11_hot_67 rfl) ?_
          refine xq ?_ rfl rfl rfl rfl rfl
          unfold hotO
          rw [fO_eq (i := j) hn (by grind) hj]
          grind [hotK]
      · try first | contradiction | omega
        all_goals
          refine e_aload_n dX11_hot_21 rfl rfl ?_
          refine e_getR dX11_hot_22 fl_X11_7 rfl (by assumption) ?_
          refine e_bipush (v := nI 106) dX11_hot_25 rfl ?_
          refine e_iload_n dX11_hot_27 rfl rfl ?_
          first | ((with_reducible refine mk_nn ?_); refine n_iadd dX11_hot_28 ?_) | refine e_iadd dX11_hot_28 ?_
          first | ((with_reducible refine mk_ldw ?_); refine e_ldw dX11_hot_29 (by omega) ?_) | refine e_iald _ dX11_hot_29 ⟨by decide, by decide⟩ rfl rfl (by simp only [lenK]; omega) ?_
          first | ((with_reducible refine mk_ll ?_); refine m_if_le (tgt := 60) dX11_hot_30 (by decide) (by omega) (by omega) (fun h30 => ?_) (fun h30 => ?_)) | ((with_reducible refine mk_lc ?_); refine l_if_le (tgt := 60) dX11_hot_30 (by decide) (fun h30 => ?_) (fun h30 => ?_)) | ((with_reducible refine mk_n ?_); refine n_if_le (tgt := 60) dX11_hot_30 (by decide) (by omega) (fun h30 => ?_) (fun h30 => ?_)) | refine e_if_le (tgt := 60) dX11_hot_30 (by decide) (fun h30 => ?_) (fun h30 => ?_)
          · try first | contradiction | omega
            all_goals
              first | refine n_inc dX11_hot_60 rfl (Nat.le_of_ble_eq_true rfl) rfl ?_ | refine e_iinc dX11_hot_60 rfl rfl (Nat.le_of_ble_eq_true rfl) rfl ?_
              refine e_goto (tgt := 14) dX11_hot_63 (by decide) ?_
              refine ih (fun q hq => ?_)
              by_cases hqj : q = j
              · subst hqj; grind
              · exact hn q (by omega)
          · try first | contradiction | omega
            all_goals
              refine e_aload_n dX11_hot_33 rfl rfl ?_
              refine e_iload_n dX11_hot_34 rfl rfl ?_
              refine x_V1 (M' := mX11_heavier) dX11_hot_35 ml_X11_389 ok_X11_heavier (by decide) rfl im_X11_heavier se_X11_heavier (ct_X11_heavier ‹_› ‹_› (by omega)) (Nat.le_of_ble_eq_true rfl) (by decide) (Nat.le_of_ble_eq_true rfl) ?_
              refine e_iload_n dX11_hot_38 rfl rfl ?_
              first | ((with_reducible refine mk_mo ?_); refine p_icmp_ne (tgt := 60) dX11_hot_39 (by decide) (fun h39 => ?_) (fun h39 => ?_)) | ((with_reducible refine mk_ms ?_); refine s_icmp_ne (tgt := 60) dX11_hot_39 (by decide) (by omega) (fun h39 => ?_) (fun h39 => ?_)) | ((with_reducible refine mk_mn ?_); refine q_icmp_ne (tgt := 60) dX11_hot_39 (by decide) (by omega) (fun h39 => ?_) (fun h39 => ?_)) | ((with_reducible refine mk_nn ?_); refine n_icmp_ne (tgt := 60) dX11_hot_39 (by decide) (by omega) (by omega) (fun h39 => ?_) (fun h39 => ?_)) | refine e_icmp_ne (tgt := 60) dX11_hot_39 (by decide) (fun h39 => ?_) (fun h39 => ?_)
              · try first | contradiction | omega
                all_goals
                  first | refine n_inc dX11_hot_60 rfl (Nat.le_of_ble_eq_true rfl) rfl ?_ | refine e_iinc dX11_hot_60 rfl rfl (Nat.le_of_ble_eq_true rfl) rfl ?_
                  refine e_goto (tgt := 14) dX11_hot_63 (by decide) ?_
                  refine ih (fun q hq => ?_)
                  by_cases hqj : q = j
                  · subst hqj; grind
                  · exact hn q (by omega)
              · try first | contradiction | omega
                all_goals
                  refine e_iload_n dX11_hot_42 rfl rfl ?_
                  first | ((with_reducible refine mk_b ?_); refine b_if_ne (tgt := 50) dX11_hot_43 (by decide) (fun h43 => ?_) (fun h43 => ?_)) | ((with_reducible refine mk_ll ?_); refine m_if_ne (tgt := 50) dX11_hot_43 (by decide) (by omega) (by omega) (fun h43 => ?_) (fun h43 => ?_)) | ((with_reducible refine mk_lc ?_); refine l_if_ne (tgt := 50) dX11_hot_43 (by decide) (fun h43 => ?_) (fun h43 => ?_)) | ((with_reducible refine mk_n ?_); refine n_if_ne (tgt := 50) dX11_hot_43 (by decide) (by omega) (fun h43 => ?_) (fun h43 => ?_)) | refine e_if_ne (tgt := 50) dX11_hot_43 (by decide) (fun h43 => ?_) (fun h43 => ?_)
                  · try first | contradiction | omega | (simp only [decide_eq_true_eq, decide_eq_false_iff_not] at h43; omega)
                    all_goals
                      refine e_aload_n dX11_hot_50 rfl rfl ?_
                      refine e_getR dX11_hot_51 fl_X11_7 rfl (by assumption) ?_
                      refine e_bipush (v := nI 106) dX11_hot_54 rfl ?_
                      refine e_iload_n dX11_hot_56 rfl rfl ?_
                      first | ((with_reducible refine mk_nn ?_); refine n_iadd dX11_hot_57 ?_) | refine e_iadd dX11_hot_57 ?_
                      first | ((with_reducible refine mk_ldw ?_); refine e_ldw dX11_hot_58 (by omega) ?_) | refine e_iald _ dX11_hot_58 ⟨by decide, by decide⟩ rfl rfl (by simp only [lenK]; omega) ?_
                      refine e_ret (some _) rfl (r_int dX11_hot_59 rfl) ?_
                      refine xq ?_ rfl rfl rfl rfl rfl
                      unfold hotO
                      rw [fO_eq (i := j) hn (by grind) hj]
                      grind [hotK]
                  · try first | contradiction | omega | (simp only [decide_eq_true_eq, decide_eq_false_iff_not] at h43; omega)
                    all_goals
                      refine e_iload_n dX11_hot_46 rfl rfl ?_
                      refine e_goto (tgt := 59) dX11_hot_47 (by decide) ?_
                      refine e_ret (some _) rfl (r_int dX11_hot_59 rfl) ?_
                      refine xq ?_ rfl rfl rfl rfl rfl
                      unfold hotO
                      rw [fO_eq (i := j) hn (by grind) hj]
                      grind [hotK]
      ) (fun hn => by
      refine e_iload_n dX11_hot_14 rfl rfl ?_
      refine e_sipush (v := nI 1000) dX11_hot_15 rfl ?_
      first | ((with_reducible refine mk_nn ?_); refine n_icmp_ge (tgt := 66) dX11_hot_18 (by decide) (by omega) (by omega) (fun h18 => ?_) (fun h18 => ?_)) | refine e_icmp_ge (tgt := 66) dX11_hot_18 (by decide) (fun h18 => ?_) (fun h18 => ?_)
      · try first | contradiction | omega
        all_goals
          refine e_iconst (v := -1) dX11_hot_66 rfl ?_
          refine e_ret (some _) rfl (r_int dX11_hot_67 rfl) ?_
          refine xq ?_ rfl rfl rfl rfl rfl
          unfold hotO
          rw [fO_no hn]
          rfl
      · try first | contradiction | omega
        all_goals
          refine e_aload_n dX11_hot_21 rfl rfl ?_
          refine e_getR dX11_hot_22 fl_X11_7 rfl (by assumption) ?_
          refine e_bipush (v := nI 106) dX11_hot_25 rfl ?_
          refine e_iload_n dX11_hot_27 rfl rfl ?_
          first | ((with_reducible refine mk_nn ?_); refine n_iadd dX11_hot_28 ?_) | refine e_iadd dX11_hot_28 ?_
          first | ((with_reducible refine mk_ldw ?_); refine e_ldw dX11_hot_29 (by omega) ?_) | refine e_iald _ dX11_hot_29 ⟨by decide, by decide⟩ rfl rfl (by simp only [lenK]; omega) ?_
          first | ((with_reducible refine mk_ll ?_); refine m_if_le (tgt := 60) dX11_hot_30 (by decide) (by omega) (by omega) (fun h30 => ?_) (fun h30 => ?_)) | ((with_reducible refine mk_lc ?_); refine l_if_le (tgt := 60) dX11_hot_30 (by decide) (fun h30 => ?_) (fun h30 => ?_)) | ((with_reducible refine mk_n ?_); refine n_if_le (tgt := 60) dX11_hot_30 (by decide) (by omega) (fun h30 => ?_) (fun h30 => ?_)) | refine e_if_le (tgt := 60) dX11_hot_30 (by decide) (fun h30 => ?_) (fun h30 => ?_)
          · try first | contradiction | omega
            all_goals
              first | refine n_inc dX11_hot_60 rfl (Nat.le_of_ble_eq_true rfl) rfl ?_ | refine e_iinc dX11_hot_60 rfl rfl (Nat.le_of_ble_eq_true rfl) rfl ?_
              refine e_goto (tgt := 14) dX11_hot_63 (by decide) ?_
              refine ih (fun q hq => ?_)
              by_cases hqj : q = j
              · subst hqj; grind
              · exact hn q (by omega)
          · try first | contradiction | omega
            all_goals
              refine e_aload_n dX11_hot_33 rfl rfl ?_
              refine e_iload_n dX11_hot_34 rfl rfl ?_
              refine x_V1 (M' := mX11_heavier) dX11_hot_35 ml_X11_389 ok_X11_heavier (by decide) rfl im_X11_heavier se_X11_heavier (ct_X11_heavier ‹_› ‹_› (by omega)) (Nat.le_of_ble_eq_true rfl) (by decide) (Nat.le_of_ble_eq_true rfl) ?_
              refine e_iload_n dX11_hot_38 rfl rfl ?_
              first | ((with_reducible refine mk_mo ?_); refine p_icmp_ne (tgt := 60) dX11_hot_39 (by decide) (fun h39 => ?_) (fun h39 => ?_)) | ((with_reducible refine mk_ms ?_); refine s_icmp_ne (tgt := 60) dX11_hot_39 (by decide) (by omega) (fun h39 => ?_) (fun h39 => ?_)) | ((with_reducible refine mk_mn ?_); refine q_icmp_ne (tgt := 60) dX11_hot_39 (by decide) (by omega) (fun h39 => ?_) (fun h39 => ?_)) | ((with_reducible refine mk_nn ?_); refine n_icmp_ne (tgt := 60) dX11_hot_39 (by decide) (by omega) (by omega) (fun h39 => ?_) (fun h39 => ?_)) | refine e_icmp_ne (tgt := 60) dX11_hot_39 (by decide) (fun h39 => ?_) (fun h39 => ?_)
              · try first | contradiction | omega
                all_goals
                  first | refine n_inc dX11_hot_60 rfl (Nat.le_of_ble_eq_true rfl) rfl ?_ | refine e_iinc dX11_hot_60 rfl rfl (Nat.le_of_ble_eq_true rfl) rfl ?_
                  refine e_goto (tgt := 14) dX11_hot_63 (by decide) ?_
                  refine ih (fun q hq => ?_)
                  by_cases hqj : q = j
                  · subst hqj; grind
                  · exact hn q (by omega)
              · try first | contradiction | omega
                all_goals
                  refine e_iload_n dX11_hot_42 rfl rfl ?_
                  first | ((with_reducible refine mk_b ?_); refine b_if_ne (tgt := 50) dX11_hot_43 (by decide) (fun h43 => ?_) (fun h43 => ?_)) | ((with_reducible refine mk_ll ?_); refine m_if_ne (tgt := 50) dX11_hot_43 (by decide) (by omega) (by omega) (fun h43 => ?_) (fun h43 => ?_)) | ((with_reducible refine mk_lc ?_); refine l_if_ne (tgt := 50) dX11_hot_43 (by decide) (fun h43 => ?_) (fun h43 => ?_)) | ((with_reducible refine mk_n ?_); refine n_if_ne (tgt := 50) dX11_hot_43 (by decide) (by omega) (fun h43 => ?_) (fun h43 => ?_)) | refine e_if_ne (tgt := 50) dX11_hot_43 (by decide) (fun h43 => ?_) (fun h43 => ?_)
                  · try first | contradiction | omega | (simp only [decide_eq_true_eq, decide_eq_false_iff_not] at h43; omega)
                    all_goals
                      refine e_aload_n dX11_hot_50 rfl rfl ?_
                      refine e_getR dX11_hot_51 fl_X11_7 rfl (by assumption) ?_
                      refine e_bipush (v := nI 106) dX11_hot_54 rfl ?_
                      refine e_iload_n dX11_hot_56 rfl rfl ?_
                      first | ((with_reducible refine mk_nn ?_); refine n_iadd dX11_hot_57 ?_) | refine e_iadd dX11_hot_57 ?_
                      first | ((with_reducible refine mk_ldw ?_); refine e_ldw dX11_hot_58 (by omega) ?_) | refine e_iald _ dX11_hot_58 ⟨by decide, by decide⟩ rfl rfl (by simp only [lenK]; omega) ?_
                      refine e_ret (some _) rfl (r_int dX11_hot_59 rfl) ?_
                      refine xq ?_ rfl rfl rfl rfl rfl
                      unfold hotO
                      rw [fO_no hn]
                      rfl
                  · try first | contradiction | omega | (simp only [decide_eq_true_eq, decide_eq_false_iff_not] at h43; omega)
                    all_goals
                      refine e_iload_n dX11_hot_46 rfl rfl ?_
                      refine e_goto (tgt := 59) dX11_hot_47 (by decide) ?_
                      refine e_ret (some _) rfl (r_int dX11_hot_59 rfl) ?_
                      refine xq ?_ rfl rfl rfl rfl rfl
                      unfold hotO
                      rw [fO_no hn]
                      rfl
      )
    refine e_iload_n dX11_hot_0 rfl rfl ?_
    first | ((with_reducible refine mk_n ?_); refine n_i2l dX11_hot_1 (by omega) ?_) | refine e_i2l dX11_hot_1 ?_
    refine e_lconst (v := lN 0) dX11_hot_2 rfl ?_
    refine e_lconst (v := lN 1) dX11_hot_3 rfl ?_
    refine x_S3 (M' := mX11_isIn) dX11_hot_4 ml_X11_45 ok_X11_isIn rfl sc_X11_isIn (by first | ((with_reducible refine ct_isInN ?_ ?_ ?_) <;> omega) | ((with_reducible refine ct_isInX ?_ ?_) <;> omega) | exact ct_X11_isIn _ _ _) (Nat.le_of_ble_eq_true rfl) (by decide) (Nat.le_of_ble_eq_true rfl) ?_
    first | ((with_reducible refine mk_b ?_); refine b_if_ne (tgt := 12) dX11_hot_7 (by decide) (fun h7 => ?_) (fun h7 => ?_)) | ((with_reducible refine mk_ll ?_); refine m_if_ne (tgt := 12) dX11_hot_7 (by decide) (by omega) (by omega) (fun h7 => ?_) (fun h7 => ?_)) | ((with_reducible refine mk_lc ?_); refine l_if_ne (tgt := 12) dX11_hot_7 (by decide) (fun h7 => ?_) (fun h7 => ?_)) | ((with_reducible refine mk_n ?_); refine n_if_ne (tgt := 12) dX11_hot_7 (by decide) (by omega) (fun h7 => ?_) (fun h7 => ?_)) | refine e_if_ne (tgt := 12) dX11_hot_7 (by decide) (fun h7 => ?_) (fun h7 => ?_)
    · try first | contradiction | omega | (simp only [decide_eq_true_eq, decide_eq_false_iff_not] at h7; omega)
      all_goals
        refine e_iconst (v := nI 0) dX11_hot_12 rfl ?_
        refine e_istore_n dX11_hot_13 rfl (Nat.le_of_ble_eq_true rfl) rfl ?_
        exact key 0 (by omega) (fun q hq => absurd hq (Nat.not_lt_zero q))
    · try first | contradiction | omega | (simp only [decide_eq_true_eq, decide_eq_false_iff_not] at h7; omega)
      all_goals
        refine e_iconst (v := -1) dX11_hot_10 rfl ?_
        refine e_ret (some _) rfl (r_int dX11_hot_11 rfl) ?_
        refine xq ?_ rfl rfl rfl rfl rfl
        unfold hotO
        rw [fO_no hn]
        rfl
