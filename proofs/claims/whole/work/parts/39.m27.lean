theorem cwB_e2 {x y v : Int32} (h : cwB x y v = true) : ∃ c k n, c < 6 ∧ k < 1000 ∧ 1 ≤ n ∧ n ≤ 99999 ∧ x = nI c ∧ y = nI k ∧ v = nI n ∧ x.toNatClampNeg = c ∧ y.toNatClampNeg = k ∧ v.toNatClampNeg = n := by
  unfold cwB at h
  simp only [Bool.and_eq_true, decide_eq_true_eq] at h
  obtain ⟨⟨h1, h2⟩, h3, h4⟩ := h
  obtain ⟨c, hc, hc2, rfl⟩ := inR_ex h1
  obtain ⟨k, hk, hk2, rfl⟩ := inR_ex h2
  obtain ⟨n, hn, rfl, hni, hnc⟩ := int_ex (x := v) (by omega)
  exact ⟨c, k, n, hc, hk, by omega, by omega, rfl, rfl, rfl, nI_clamp hc2, nI_clamp hk2, hnc⟩
def insW2 (w : Nat → Nat) (c k v : Nat) : Nat → Nat := fetW (askW w c k v) c
def insR (w : Nat → Nat) (x y v : Int32) : Int32 := if cwB x y v then (if asA w x.toNatClampNeg y.toNatClampNeg v.toNatClampNeg = 3 then nI (asA (insW2 w x.toNatClampNeg y.toNatClampNeg v.toNatClampNeg) x.toNatClampNeg y.toNatClampNeg v.toNatClampNeg) else nI (asA w x.toNatClampNeg y.toNatClampNeg v.toNatClampNeg)) else -1
def insW (w : Nat → Nat) (x y v : Int32) : Nat → Nat := if cwB x y v then (if asA w x.toNatClampNeg y.toNatClampNeg v.toNatClampNeg = 3 then askW (insW2 w x.toNatClampNeg y.toNatClampNeg v.toNatClampNeg) x.toNatClampNeg y.toNatClampNeg v.toNatClampNeg else askW w x.toNatClampNeg y.toNatClampNeg v.toNatClampNeg) else w
def insF (fi : FI) (w : Nat → Nat) (x y v : Int32) (sc : Bool) : FI := if cwB x y v then (if asA w x.toNatClampNeg y.toNatClampNeg v.toNatClampNeg = 3 then askF (forF fi sc) (insW2 w x.toNatClampNeg y.toNatClampNeg v.toNatClampNeg) x.toNatClampNeg y.toNatClampNeg v.toNatClampNeg sc else askF fi w x.toNatClampNeg y.toNatClampNeg v.toNatClampNeg sc) else fi
theorem forF_8 (fi : FI) (sc : Bool) : forF fi sc (32 * 11 + 8) (rf 11 80) = fi (32 * 11 + 8) (rf 11 80) := by
  unfold forF
  split
  · rfl
  · exact up2_n _ _ (by decide)
theorem ct_X11_insist {fi : FI} {fr : FR} {ai : FI} {ar : FR} {N : Nat} {w : Nat → Nat} (sm : SM fr) (iv : Inv w) (y0 y1 y2 : Int32) {sc : Bool} (hsc : fi (32 * 11 + 8) (rf 11 80) = bI sc) (hwt : ∀ k, k < 1000 → w (106 + k) + 2 ≤ 100000) (h01 : 1 ≤ w 0) : CP mX11_insist 5 0 0 [.ref (rf 11 80), .int y0, .int y1, .int y2] fi fr (mW ai w) ar N (xQ (some (.int (insR w y0 y1 y2))) (insF fi w y0 y1 y2 sc) fr (mW ai (insW w y0 y1 y2)) ar N) := by
  obtain ⟨sW, sA, sK, sU, sC, sKC, sT, sCl⟩ := id sm
  have h1 := iv_n iv
  have h3 := iv_mm iv
  change EV mX11_insist 5 0 0 0 [some (.ref (rf 11 80)), some (.int y0), some (.int y1), some (.int y2), none, none] [] fi fr (mW ai w) ar N (xQ (some (.int (insR w y0 y1 y2))) (insF fi w y0 y1 y2 sc) fr (mW ai (insW w y0 y1 y2)) ar N)
  cases hc : cwB y0 y1 y2 with
  | false =>
    have e1 : insR w y0 y1 y2 = -1 := by unfold insR; rw [hc]; rfl
    have e2 : insW w y0 y1 y2 = w := by unfold insW; rw [hc]; rfl
    have e3 : insF fi w y0 y1 y2 sc = fi := by unfold insF; rw [hc]; rfl
    rw [e1, e2, e3]
    refine e_iload_n dX11_insist_0 rfl rfl ?_
    refine e_iload_n dX11_insist_1 rfl rfl ?_
    refine e_iload_n dX11_insist_2 rfl rfl ?_
    refine x_S3 (M' := mX11_canWrite) dX11_insist_3 ml_X11_154 ok_X11_canWrite rfl sc_X11_canWrite (ct_X11_canWrite _ _ _) (Nat.le_of_ble_eq_true rfl) (by decide) (Nat.le_of_ble_eq_true rfl) ?_
    rw [hc]
    first | ((with_reducible refine mk_b ?_); refine b_if_ne (tgt := 11) dX11_insist_6 (by decide) (fun h6 => ?_) (fun h6 => ?_)) | ((with_reducible refine mk_ll ?_); refine m_if_ne (tgt := 11) dX11_insist_6 (by decide) (by omega) (by omega) (fun h6 => ?_) (fun h6 => ?_)) | ((with_reducible refine mk_lc ?_); refine l_if_ne (tgt := 11) dX11_insist_6 (by decide) (fun h6 => ?_) (fun h6 => ?_)) | ((with_reducible refine mk_n ?_); refine n_if_ne (tgt := 11) dX11_insist_6 (by decide) (by omega) (fun h6 => ?_) (fun h6 => ?_)) | refine e_if_ne (tgt := 11) dX11_insist_6 (by decide) (fun h6 => ?_) (fun h6 => ?_)
    · try first | contradiction | omega | (simp only [decide_eq_true_eq, decide_eq_false_iff_not] at h6; omega)
      all_goals
        contradiction
    · try first | contradiction | omega | (simp only [decide_eq_true_eq, decide_eq_false_iff_not] at h6; omega)
      all_goals
        refine e_iconst (v := -1) dX11_insist_9 rfl ?_
        refine e_ret (some _) rfl (r_int dX11_insist_10 rfl) ?_
        exact xq rfl rfl rfl rfl rfl rfl
  | true =>
    obtain ⟨c, k, v, hc6, hk, hv1, hv2, rfl, rfl, rfl, ec, ek, ev⟩ := cwB_e2 hc
    have hle : asA w c k v ≤ 4 := by unfold asA; have := anF_le w c k; split <;> omega
    by_cases h3a : asA w c k v = 3
    · have e1 : insR w (nI c) (nI k) (nI v) = nI (asA (insW2 w c k v) c k v) := by unfold insR; rw [hc, ec, ek, ev, h3a]; rfl
      have e2 : insW w (nI c) (nI k) (nI v) = askW (insW2 w c k v) c k v := by unfold insW; rw [hc, ec, ek, ev, h3a]; rfl
      have e3 : insF fi w (nI c) (nI k) (nI v) sc = askF (forF fi sc) (insW2 w c k v) c k v sc := by unfold insF; rw [hc, ec, ek, ev, h3a]; rfl
      have eF : askF fi w c k v sc = fi := by unfold askF; rw [h3a]; rfl
      have fr1 : ∀ q, q < 8558 → askW w c k v q = w q := fun q hq => askN_fr (by omega) hq
      have iv1 : Inv (askW w c k v) := Inv_fr fr1 iv
      have iv2 : Inv (insW2 w c k v) := fet_Inv iv1 (by rw [fr1 0 (by omega)]; exact h01) hc6
      have hr : inR (nI c) 6 = true := by rw [inR_nI (by omega)]; exact decide_eq_true hc6
      have h0m := iv_ep0 iv1
      have ev2 : insW2 w c k v = fetW (askW w c k v) c := rfl
      rw [e1, e2, e3]
      refine e_iload_n dX11_insist_0 rfl rfl ?_
      refine e_iload_n dX11_insist_1 rfl rfl ?_
      refine e_iload_n dX11_insist_2 rfl rfl ?_
      refine x_S3 (M' := mX11_canWrite) dX11_insist_3 ml_X11_154 ok_X11_canWrite rfl sc_X11_canWrite (ct_X11_canWrite _ _ _) (Nat.le_of_ble_eq_true rfl) (by decide) (Nat.le_of_ble_eq_true rfl) ?_
      rw [hc]
      first | ((with_reducible refine mk_b ?_); refine b_if_ne (tgt := 11) dX11_insist_6 (by decide) (fun h6 => ?_) (fun h6 => ?_)) | ((with_reducible refine mk_ll ?_); refine m_if_ne (tgt := 11) dX11_insist_6 (by decide) (by omega) (by omega) (fun h6 => ?_) (fun h6 => ?_)) | ((with_reducible refine mk_lc ?_); refine l_if_ne (tgt := 11) dX11_insist_6 (by decide) (fun h6 => ?_) (fun h6 => ?_)) | ((with_reducible refine mk_n ?_); refine n_if_ne (tgt := 11) dX11_insist_6 (by decide) (by omega) (fun h6 => ?_) (fun h6 => ?_)) | refine e_if_ne (tgt := 11) dX11_insist_6 (by decide) (fun h6 => ?_) (fun h6 => ?_)
      · try first | contradiction | omega | (simp only [decide_eq_true_eq, decide_eq_false_iff_not] at h6; omega)
        all_goals
          refine e_aload_n dX11_insist_11 rfl rfl ?_
          refine e_iload_n dX11_insist_12 rfl rfl ?_
          refine e_iload_n dX11_insist_13 rfl rfl ?_
          refine e_iload_n dX11_insist_14 rfl rfl ?_
          refine x_V3 (M' := mX11_asks) dX11_insist_15 ml_X11_149 ok_X11_asks (by decide) rfl im_X11_asks se_X11_asks (ct_X11_asks ‹_› ‹_› hc6 hk hv2 (hwt k hk) hsc) (Nat.le_of_ble_eq_true rfl) (by decide) (Nat.le_of_ble_eq_true rfl) ?_
          rw [h3a, eF]
          refine e_istore dX11_insist_18 (Nat.le_of_ble_eq_true rfl) rfl ?_
          refine e_iload dX11_insist_20 rfl ?_
          refine e_iconst (v := nI 3) dX11_insist_22 rfl ?_
          first | ((with_reducible refine mk_mo ?_); refine p_icmp_eq (tgt := 29) dX11_insist_23 (by decide) (fun h23 => ?_) (fun h23 => ?_)) | ((with_reducible refine mk_ms ?_); refine s_icmp_eq (tgt := 29) dX11_insist_23 (by decide) (by omega) (fun h23 => ?_) (fun h23 => ?_)) | ((with_reducible refine mk_mn ?_); refine q_icmp_eq (tgt := 29) dX11_insist_23 (by decide) (by omega) (fun h23 => ?_) (fun h23 => ?_)) | ((with_reducible refine mk_nn ?_); refine n_icmp_eq (tgt := 29) dX11_insist_23 (by decide) (by omega) (by omega) (fun h23 => ?_) (fun h23 => ?_)) | refine e_icmp_eq (tgt := 29) dX11_insist_23 (by decide) (fun h23 => ?_) (fun h23 => ?_)
          · try first | contradiction | omega
            all_goals
              refine e_aload_n dX11_insist_29 rfl rfl ?_
              refine e_iload_n dX11_insist_30 rfl rfl ?_
              refine x_V1 (M' := mX11_fetch) dX11_insist_31 ml_X11_158 ok_X11_fetch (by decide) rfl im_X11_fetch se_X11_fetch (ct_X11_fetch ‹_› iv1 _ hsc) (Nat.le_of_ble_eq_true rfl) (by decide) (Nat.le_of_ble_eq_true rfl) ?_
              rw [hr, ec, if_pos rfl, if_pos rfl, if_pos rfl, ← ev2]
              refine e_istore dX11_insist_34 (Nat.le_of_ble_eq_true rfl) rfl ?_
              refine e_iload dX11_insist_36 rfl ?_
              refine e_iconst (v := -1) dX11_insist_38 rfl ?_
              first | ((with_reducible refine mk_mo ?_); refine p_icmp_ne (tgt := 46) dX11_insist_39 (by decide) (fun h39 => ?_) (fun h39 => ?_)) | ((with_reducible refine mk_ms ?_); refine s_icmp_ne (tgt := 46) dX11_insist_39 (by decide) (by omega) (fun h39 => ?_) (fun h39 => ?_)) | ((with_reducible refine mk_mn ?_); refine q_icmp_ne (tgt := 46) dX11_insist_39 (by decide) (by omega) (fun h39 => ?_) (fun h39 => ?_)) | ((with_reducible refine mk_nn ?_); refine n_icmp_ne (tgt := 46) dX11_insist_39 (by decide) (by omega) (by omega) (fun h39 => ?_) (fun h39 => ?_)) | refine e_icmp_ne (tgt := 46) dX11_insist_39 (by decide) (fun h39 => ?_) (fun h39 => ?_)
              · try first | contradiction | omega
                all_goals
                  refine e_aload_n dX11_insist_46 rfl rfl ?_
                  refine e_iload_n dX11_insist_47 rfl rfl ?_
                  refine e_iload_n dX11_insist_48 rfl rfl ?_
                  refine e_iload_n dX11_insist_49 rfl rfl ?_
                  refine x_V3 (M' := mX11_asks) dX11_insist_50 ml_X11_149 ok_X11_asks (by decide) rfl im_X11_asks se_X11_asks (ct_X11_asks ‹_› iv2 hc6 hk hv2 (by rw [ev2]; unfold fetW; rw [fcF_lo _ _ _ _ (by omega), fr1 _ (by omega)]; exact hwt k hk) (by rw [forF_8]; exact hsc)) (Nat.le_of_ble_eq_true rfl) (by decide) (Nat.le_of_ble_eq_true rfl) ?_
                  refine e_ret (some _) rfl (r_int dX11_insist_53 rfl) ?_
                  exact xq rfl rfl rfl rfl rfl rfl
              · try first | contradiction | omega
                all_goals
                  refine e_iconst (v := -1) dX11_insist_42 rfl ?_
                  refine e_goto (tgt := 53) dX11_insist_43 (by decide) ?_
                  refine e_ret (some _) rfl (r_int dX11_insist_53 rfl) ?_
                  exact xq rfl rfl rfl rfl rfl rfl
          · try first | contradiction | omega
            all_goals
              refine e_iload dX11_insist_26 rfl ?_
              refine e_ret (some _) rfl (r_int dX11_insist_28 rfl) ?_
              exact xq rfl rfl rfl rfl rfl rfl
      · try first | contradiction | omega | (simp only [decide_eq_true_eq, decide_eq_false_iff_not] at h6; omega)
        all_goals
          contradiction
    · have e1 : insR w (nI c) (nI k) (nI v) = nI (asA w c k v) := by unfold insR; rw [hc, ec, ek, ev, if_pos rfl, if_neg h3a]
      have e2 : insW w (nI c) (nI k) (nI v) = askW w c k v := by unfold insW; rw [hc, ec, ek, ev, if_pos rfl, if_neg h3a]
      have e3 : insF fi w (nI c) (nI k) (nI v) sc = askF fi w c k v sc := by unfold insF; rw [hc, ec, ek, ev, if_pos rfl, if_neg h3a]
      rw [e1, e2, e3]
      refine e_iload_n dX11_insist_0 rfl rfl ?_
      refine e_iload_n dX11_insist_1 rfl rfl ?_
      refine e_iload_n dX11_insist_2 rfl rfl ?_
      refine x_S3 (M' := mX11_canWrite) dX11_insist_3 ml_X11_154 ok_X11_canWrite rfl sc_X11_canWrite (ct_X11_canWrite _ _ _) (Nat.le_of_ble_eq_true rfl) (by decide) (Nat.le_of_ble_eq_true rfl) ?_
      rw [hc]
      first | ((with_reducible refine mk_b ?_); refine b_if_ne (tgt := 11) dX11_insist_6 (by decide) (fun h6 => ?_) (fun h6 => ?_)) | ((with_reducible refine mk_ll ?_); refine m_if_ne (tgt := 11) dX11_insist_6 (by decide) (by omega) (by omega) (fun h6 => ?_) (fun h6 => ?_)) | ((with_reducible refine mk_lc ?_); refine l_if_ne (tgt := 11) dX11_insist_6 (by decide) (fun h6 => ?_) (fun h6 => ?_)) | ((with_reducible refine mk_n ?_); refine n_if_ne (tgt := 11) dX11_insist_6 (by decide) (by omega) (fun h6 => ?_) (fun h6 => ?_)) | refine e_if_ne (tgt := 11) dX11_insist_6 (by decide) (fun h6 => ?_) (fun h6 => ?_)
      · try first | contradiction | omega | (simp only [decide_eq_true_eq, decide_eq_false_iff_not] at h6; omega)
        all_goals
          refine e_aload_n dX11_insist_11 rfl rfl ?_
          refine e_iload_n dX11_insist_12 rfl rfl ?_
          refine e_iload_n dX11_insist_13 rfl rfl ?_
          refine e_iload_n dX11_insist_14 rfl rfl ?_
          refine x_V3 (M' := mX11_asks) dX11_insist_15 ml_X11_149 ok_X11_asks (by decide) rfl im_X11_asks se_X11_asks (ct_X11_asks ‹_› ‹_› hc6 hk hv2 (hwt k hk) hsc) (Nat.le_of_ble_eq_true rfl) (by decide) (Nat.le_of_ble_eq_true rfl) ?_
          skip
          refine e_istore dX11_insist_18 (Nat.le_of_ble_eq_true rfl) rfl ?_
          refine e_iload dX11_insist_20 rfl ?_
          refine e_iconst (v := nI 3) dX11_insist_22 rfl ?_
          first | ((with_reducible refine mk_mo ?_); refine p_icmp_eq (tgt := 29) dX11_insist_23 (by decide) (fun h23 => ?_) (fun h23 => ?_)) | ((with_reducible refine mk_ms ?_); refine s_icmp_eq (tgt := 29) dX11_insist_23 (by decide) (by omega) (fun h23 => ?_) (fun h23 => ?_)) | ((with_reducible refine mk_mn ?_); refine q_icmp_eq (tgt := 29) dX11_insist_23 (by decide) (by omega) (fun h23 => ?_) (fun h23 => ?_)) | ((with_reducible refine mk_nn ?_); refine n_icmp_eq (tgt := 29) dX11_insist_23 (by decide) (by omega) (by omega) (fun h23 => ?_) (fun h23 => ?_)) | refine e_icmp_eq (tgt := 29) dX11_insist_23 (by decide) (fun h23 => ?_) (fun h23 => ?_)
          · try first | contradiction | omega
            all_goals
              contradiction
          · try first | contradiction | omega
            all_goals
              refine e_iload dX11_insist_26 rfl ?_
              refine e_ret (some _) rfl (r_int dX11_insist_28 rfl) ?_
              exact xq rfl rfl rfl rfl rfl rfl
      · try first | contradiction | omega | (simp only [decide_eq_true_eq, decide_eq_false_iff_not] at h6; omega)
        all_goals
          contradiction
theorem cuI_c {w : Nat → Nat} {n lo : Nat} : ∀ j, (cuI w n lo j).1 ≤ j
  | 0 => Nat.le_refl _
  | j + 1 => by
    have := cuI_c (w := w) (n := n) (lo := lo) j
    unfold cuI
    split
    · show (cuI w n lo j).1 + 1 ≤ _; omega
    · show (cuI w n lo j).1 + 0 ≤ _; omega
theorem ct_X11_cuts {fi : FI} {fr : FR} {ai : FI} {ar : FR} {N : Nat} {w : Nat → Nat} (sm : SM fr) (iv : Inv w) (y0 : Int32) : CP mX11_cuts 2 0 0 [.ref (rf 11 80), .int y0] fi fr (mW ai w) ar N (xQ (some (.int (cutR w y0))) fi fr (mW ai w) ar N) := by
  obtain ⟨sW, sA, sK, sU, sC, sKC, sT, sCl⟩ := id sm
  have h1 := iv_n iv
  have h3 := iv_mm iv
  change EV mX11_cuts 2 0 0 0 [some (.ref (rf 11 80)), some (.int y0), none, none, none, none, none, none] [] fi fr (mW ai w) ar N (xQ (some (.int (cutR w y0))) fi fr (mW ai w) ar N)
  cases hx : inR y0 1000001 with
  | false =>
    have hx2 := inR_f hx
    have e1 : cutR w y0 = -1 := by unfold cutR; rw [hx]; rfl
    rw [e1]
    refine e_iload_n dX11_cuts_0 rfl rfl ?_
    first | ((with_reducible refine mk_n ?_); refine n_i2l dX11_cuts_1 (by omega) ?_) | refine e_i2l dX11_cuts_1 ?_
    refine e_lconst (v := lN 0) dX11_cuts_2 rfl ?_
    refine e_ldc2 dX11_cuts_3 co_X11_384 ?_
    refine x_S3 (M' := mX11_isIn) dX11_cuts_6 ml_X11_45 ok_X11_isIn rfl sc_X11_isIn (by first | ((with_reducible refine ct_isInN ?_ ?_ ?_) <;> omega) | ((with_reducible refine ct_isInX ?_ ?_) <;> omega) | exact ct_X11_isIn _ _ _) (Nat.le_of_ble_eq_true rfl) (by decide) (Nat.le_of_ble_eq_true rfl) ?_
    first | ((with_reducible refine mk_b ?_); refine b_if_ne (tgt := 14) dX11_cuts_9 (by decide) (fun h9 => ?_) (fun h9 => ?_)) | ((with_reducible refine mk_ll ?_); refine m_if_ne (tgt := 14) dX11_cuts_9 (by decide) (by omega) (by omega) (fun h9 => ?_) (fun h9 => ?_)) | ((with_reducible refine mk_lc ?_); refine l_if_ne (tgt := 14) dX11_cuts_9 (by decide) (fun h9 => ?_) (fun h9 => ?_)) | ((with_reducible refine mk_n ?_); refine n_if_ne (tgt := 14) dX11_cuts_9 (by decide) (by omega) (fun h9 => ?_) (fun h9 => ?_)) | refine e_if_ne (tgt := 14) dX11_cuts_9 (by decide) (fun h9 => ?_) (fun h9 => ?_)
    · try first | contradiction | omega | (simp only [decide_eq_true_eq, decide_eq_false_iff_not] at h9; omega)
      all_goals
        omega
    · try first | contradiction | omega | (simp only [decide_eq_true_eq, decide_eq_false_iff_not] at h9; omega)
      all_goals
        refine e_iconst (v := -1) dX11_cuts_12 rfl ?_
        refine e_ret (some _) rfl (r_int dX11_cuts_13 rfl) ?_
        exact xq rfl rfl rfl rfl rfl rfl
  | true =>
    obtain ⟨b, hb, hb2, rfl⟩ := inR_ex hx
    have hbc : (nI b).toNatClampNeg = b := nI_clamp hb2
    have hbi := nI_toInt (b31 hb2)
    have e1 : cutR w (nI b) = nI (rs (cutF w b) 0 (w 1)) := by unfold cutR; rw [hx, hbc]; rfl
    rw [e1]
    have key := ev_up (P := fun i => EV mX11_cuts 2 0 0 18 [some (.ref (rf 11 80)), some (.int (nI b)), some (.int (nI (rs (cutF w b) 0 i))), some (.int (nI i)), none, none, none, none] [] fi fr (mW ai w) ar N (xQ (some (.int (nI (rs (cutF w b) 0 (w 1))))) fi fr (mW ai w) ar N)) (w 1) (fun i hi ih => by
      have hlo := iv_low iv hi
      have hen := enF_le iv hi
      have hwl := iv_wt iv hlo
      have kin := ev_up (P := fun j => EV mX11_cuts 2 0 0 61 [some (.ref (rf 11 80)), some (.int (nI b)), some (.int (nI (rs (cutF w b) 0 i + (cuI w b (w (10 + i)) j).1))), some (.int (nI i)), some (.long (lN (cuI w b (w (10 + i)) j).2)), none, some (.int (nI (w (10 + i) + 1 + j))), none] [] fi fr (mW ai w) ar N (xQ (some (.int (nI (rs (cutF w b) 0 (w 1))))) fi fr (mW ai w) ar N)) (enF w i - w (10 + i) - 1) (fun j hj ih2 => by
        have hwk := iv_wt iv (k := w (10 + i) + 1 + j) (by omega)
        have hcl := cuI_le iv (n := b) (lo := w (10 + i)) j (by omega)
        by_cases hb3 : b < (cuI w b (w (10 + i)) j).2 + w (106 + (w (10 + i) + 1 + j))
        · rw [cuI_t hb3] at ih2
          refine e_iload dX11_cuts_61 rfl ?_
          refine e_aload_n dX11_cuts_63 rfl rfl ?_
          refine e_iload_n dX11_cuts_64 rfl rfl ?_
          refine x_V1 (M' := mX11_endOf) dX11_cuts_65 ml_X11_70 ok_X11_endOf (by decide) rfl im_X11_endOf se_X11_endOf (ct_X11_endOf ‹_› ‹_› (by omega)) (Nat.le_of_ble_eq_true rfl) (by decide) (Nat.le_of_ble_eq_true rfl) ?_
          first | ((with_reducible refine mk_nn ?_); refine n_icmp_ge (tgt := 152) dX11_cuts_68 (by decide) (by omega) (by omega) (fun h68 => ?_) (fun h68 => ?_)) | refine e_icmp_ge (tgt := 152) dX11_cuts_68 (by decide) (fun h68 => ?_) (fun h68 => ?_)
          · try first | contradiction | omega
            all_goals
              omega
          · try first | contradiction | omega
            all_goals
              refine e_lload dX11_cuts_71 rfl ?_
              refine e_aload_n dX11_cuts_73 rfl rfl ?_
              refine e_getR dX11_cuts_74 fl_X11_7 rfl (by assumption) ?_
              refine e_bipush (v := nI 106) dX11_cuts_77 rfl ?_
              refine e_iload dX11_cuts_79 rfl ?_
              first | ((with_reducible refine mk_nn ?_); refine n_iadd dX11_cuts_81 ?_) | refine e_iadd dX11_cuts_81 ?_
              first | ((with_reducible refine mk_ldw ?_); refine e_ldw dX11_cuts_82 (by omega) ?_) | refine e_iald _ dX11_cuts_82 ⟨by decide, by decide⟩ rfl rfl (by simp only [lenK]; omega) ?_
              first | ((with_reducible refine mk_n ?_); refine n_i2l dX11_cuts_83 (by omega) ?_) | refine e_i2l dX11_cuts_83 ?_
              first | ((with_reducible refine mk_LL ?_); refine n_ladd dX11_cuts_84 ?_) | refine e_ladd dX11_cuts_84 ?_
              refine e_iload_n dX11_cuts_85 rfl rfl ?_
              first | ((with_reducible refine mk_n ?_); refine n_i2l dX11_cuts_86 (by omega) ?_) | refine e_i2l dX11_cuts_86 ?_
              refine e_lcmp dX11_cuts_87 ?_
              first | ((with_reducible refine mk_ll ?_); refine m_if_le (tgt := 95) dX11_cuts_88 (by decide) (by omega) (by omega) (fun h88 => ?_) (fun h88 => ?_)) | ((with_reducible refine mk_lc ?_); refine l_if_le (tgt := 95) dX11_cuts_88 (by decide) (fun h88 => ?_) (fun h88 => ?_)) | ((with_reducible refine mk_n ?_); refine n_if_le (tgt := 95) dX11_cuts_88 (by decide) (by omega) (fun h88 => ?_) (fun h88 => ?_)) | refine e_if_le (tgt := 95) dX11_cuts_88 (by decide) (fun h88 => ?_) (fun h88 => ?_)
              · try first | contradiction | omega
                all_goals
                  omega
              · try first | contradiction | omega
                all_goals
                  refine e_iconst (v := nI 1) dX11_cuts_91 rfl ?_
                  refine e_goto (tgt := 96) dX11_cuts_92 (by decide) ?_
                  refine e_istore dX11_cuts_96 (Nat.le_of_ble_eq_true rfl) rfl ?_
                  refine e_iload_n dX11_cuts_98 rfl rfl ?_
                  refine e_iload dX11_cuts_99 rfl ?_
                  first | ((with_reducible refine mk_b ?_); refine b_if_eq (tgt := 108) dX11_cuts_101 (by decide) (fun h101 => ?_) (fun h101 => ?_)) | ((with_reducible refine mk_ll ?_); refine m_if_eq (tgt := 108) dX11_cuts_101 (by decide) (by omega) (by omega) (fun h101 => ?_) (fun h101 => ?_)) | ((with_reducible refine mk_lc ?_); refine l_if_eq (tgt := 108) dX11_cuts_101 (by decide) (fun h101 => ?_) (fun h101 => ?_)) | ((with_reducible refine mk_n ?_); refine n_if_eq (tgt := 108) dX11_cuts_101 (by decide) (by omega) (fun h101 => ?_) (fun h101 => ?_)) | refine e_if_eq (tgt := 108) dX11_cuts_101 (by decide) (fun h101 => ?_) (fun h101 => ?_)
                  · try first | contradiction | omega | (simp only [decide_eq_true_eq, decide_eq_false_iff_not] at h101; omega)
                    all_goals
                      refine e_iconst (v := nI 0) dX11_cuts_108 rfl ?_
                      first | ((with_reducible refine mk_nn ?_); refine n_iadd dX11_cuts_109 ?_) | refine e_iadd dX11_cuts_109 ?_
                      refine e_istore_n dX11_cuts_110 rfl (Nat.le_of_ble_eq_true rfl) rfl ?_
                      refine e_iload dX11_cuts_111 rfl ?_
                      first | ((with_reducible refine mk_b ?_); refine b_if_eq (tgt := 130) dX11_cuts_113 (by decide) (fun h113 => ?_) (fun h113 => ?_)) | ((with_reducible refine mk_ll ?_); refine m_if_eq (tgt := 130) dX11_cuts_113 (by decide) (by omega) (by omega) (fun h113 => ?_) (fun h113 => ?_)) | ((with_reducible refine mk_lc ?_); refine l_if_eq (tgt := 130) dX11_cuts_113 (by decide) (fun h113 => ?_) (fun h113 => ?_)) | ((with_reducible refine mk_n ?_); refine n_if_eq (tgt := 130) dX11_cuts_113 (by decide) (by omega) (fun h113 => ?_) (fun h113 => ?_)) | refine e_if_eq (tgt := 130) dX11_cuts_113 (by decide) (fun h113 => ?_) (fun h113 => ?_)
                      · try first | contradiction | omega | (simp only [decide_eq_true_eq, decide_eq_false_iff_not] at h113; omega)
                        all_goals
                          refine e_lload dX11_cuts_130 rfl ?_
                          refine e_aload_n dX11_cuts_132 rfl rfl ?_
                          refine e_getR dX11_cuts_133 fl_X11_7 rfl (by assumption) ?_
                          refine e_bipush (v := nI 106) dX11_cuts_136 rfl ?_
                          refine e_iload dX11_cuts_138 rfl ?_
                          first | ((with_reducible refine mk_nn ?_); refine n_iadd dX11_cuts_140 ?_) | refine e_iadd dX11_cuts_140 ?_
                          first | ((with_reducible refine mk_ldw ?_); refine e_ldw dX11_cuts_141 (by omega) ?_) | refine e_iald _ dX11_cuts_141 ⟨by decide, by decide⟩ rfl rfl (by simp only [lenK]; omega) ?_
                          first | ((with_reducible refine mk_n ?_); refine n_i2l dX11_cuts_142 (by omega) ?_) | refine e_i2l dX11_cuts_142 ?_
                          first | ((with_reducible refine mk_LL ?_); refine n_ladd dX11_cuts_143 ?_) | refine e_ladd dX11_cuts_143 ?_
                          refine e_lstore dX11_cuts_144 (Nat.le_of_ble_eq_true rfl) rfl ?_
                          first | refine n_inc dX11_cuts_146 rfl (Nat.le_of_ble_eq_true rfl) rfl ?_ | refine e_iinc dX11_cuts_146 rfl rfl (Nat.le_of_ble_eq_true rfl) rfl ?_
                          refine e_goto (tgt := 61) dX11_cuts_149 (by decide) ?_
                          exact EV_ls (by repeat (first | exact lsub_0 | refine lsub_n ?_ | refine lsub_s ?_)) ih2
                      · try first | contradiction | omega | (simp only [decide_eq_true_eq, decide_eq_false_iff_not] at h113; omega)
                        all_goals
                          refine e_aload_n dX11_cuts_116 rfl rfl ?_
                          refine e_getR dX11_cuts_117 fl_X11_7 rfl (by assumption) ?_
                          refine e_bipush (v := nI 106) dX11_cuts_120 rfl ?_
                          refine e_iload dX11_cuts_122 rfl ?_
                          first | ((with_reducible refine mk_nn ?_); refine n_iadd dX11_cuts_124 ?_) | refine e_iadd dX11_cuts_124 ?_
                          first | ((with_reducible refine mk_ldw ?_); refine e_ldw dX11_cuts_125 (by omega) ?_) | refine e_iald _ dX11_cuts_125 ⟨by decide, by decide⟩ rfl rfl (by simp only [lenK]; omega) ?_
                          first | ((with_reducible refine mk_n ?_); refine n_i2l dX11_cuts_126 (by omega) ?_) | refine e_i2l dX11_cuts_126 ?_
                          refine e_goto (tgt := 144) dX11_cuts_127 (by decide) ?_
                          refine e_lstore dX11_cuts_144 (Nat.le_of_ble_eq_true rfl) rfl ?_
                          first | refine n_inc dX11_cuts_146 rfl (Nat.le_of_ble_eq_true rfl) rfl ?_ | refine e_iinc dX11_cuts_146 rfl rfl (Nat.le_of_ble_eq_true rfl) rfl ?_
                          refine e_goto (tgt := 61) dX11_cuts_149 (by decide) ?_
                          exact EV_ls (by repeat (first | exact lsub_0 | refine lsub_n ?_ | refine lsub_s ?_)) ih2
                  · try first | contradiction | omega | (simp only [decide_eq_true_eq, decide_eq_false_iff_not] at h101; omega)
                    all_goals
                      refine e_iconst (v := nI 1) dX11_cuts_104 rfl ?_
                      refine e_goto (tgt := 109) dX11_cuts_105 (by decide) ?_
                      first | ((with_reducible refine mk_nn ?_); refine n_iadd dX11_cuts_109 ?_) | refine e_iadd dX11_cuts_109 ?_
                      refine e_istore_n dX11_cuts_110 rfl (Nat.le_of_ble_eq_true rfl) rfl ?_
                      refine e_iload dX11_cuts_111 rfl ?_
                      first | ((with_reducible refine mk_b ?_); refine b_if_eq (tgt := 130) dX11_cuts_113 (by decide) (fun h113 => ?_) (fun h113 => ?_)) | ((with_reducible refine mk_ll ?_); refine m_if_eq (tgt := 130) dX11_cuts_113 (by decide) (by omega) (by omega) (fun h113 => ?_) (fun h113 => ?_)) | ((with_reducible refine mk_lc ?_); refine l_if_eq (tgt := 130) dX11_cuts_113 (by decide) (fun h113 => ?_) (fun h113 => ?_)) | ((with_reducible refine mk_n ?_); refine n_if_eq (tgt := 130) dX11_cuts_113 (by decide) (by omega) (fun h113 => ?_) (fun h113 => ?_)) | refine e_if_eq (tgt := 130) dX11_cuts_113 (by decide) (fun h113 => ?_) (fun h113 => ?_)
                      · try first | contradiction | omega | (simp only [decide_eq_true_eq, decide_eq_false_iff_not] at h113; omega)
                        all_goals
                          refine e_lload dX11_cuts_130 rfl ?_
                          refine e_aload_n dX11_cuts_132 rfl rfl ?_
                          refine e_getR dX11_cuts_133 fl_X11_7 rfl (by assumption) ?_
                          refine e_bipush (v := nI 106) dX11_cuts_136 rfl ?_
                          refine e_iload dX11_cuts_138 rfl ?_
                          first | ((with_reducible refine mk_nn ?_); refine n_iadd dX11_cuts_140 ?_) | refine e_iadd dX11_cuts_140 ?_
                          first | ((with_reducible refine mk_ldw ?_); refine e_ldw dX11_cuts_141 (by omega) ?_) | refine e_iald _ dX11_cuts_141 ⟨by decide, by decide⟩ rfl rfl (by simp only [lenK]; omega) ?_
                          first | ((with_reducible refine mk_n ?_); refine n_i2l dX11_cuts_142 (by omega) ?_) | refine e_i2l dX11_cuts_142 ?_
                          first | ((with_reducible refine mk_LL ?_); refine n_ladd dX11_cuts_143 ?_) | refine e_ladd dX11_cuts_143 ?_
                          refine e_lstore dX11_cuts_144 (Nat.le_of_ble_eq_true rfl) rfl ?_
                          first | refine n_inc dX11_cuts_146 rfl (Nat.le_of_ble_eq_true rfl) rfl ?_ | refine e_iinc dX11_cuts_146 rfl rfl (Nat.le_of_ble_eq_true rfl) rfl ?_
                          refine e_goto (tgt := 61) dX11_cuts_149 (by decide) ?_
                          exact EV_ls (by repeat (first | exact lsub_0 | refine lsub_n ?_ | refine lsub_s ?_)) ih2
                      · try first | contradiction | omega | (simp only [decide_eq_true_eq, decide_eq_false_iff_not] at h113; omega)
                        all_goals
                          refine e_aload_n dX11_cuts_116 rfl rfl ?_
                          refine e_getR dX11_cuts_117 fl_X11_7 rfl (by assumption) ?_
                          refine e_bipush (v := nI 106) dX11_cuts_120 rfl ?_
                          refine e_iload dX11_cuts_122 rfl ?_
                          first | ((with_reducible refine mk_nn ?_); refine n_iadd dX11_cuts_124 ?_) | refine e_iadd dX11_cuts_124 ?_
                          first | ((with_reducible refine mk_ldw ?_); refine e_ldw dX11_cuts_125 (by omega) ?_) | refine e_iald _ dX11_cuts_125 ⟨by decide, by decide⟩ rfl rfl (by simp only [lenK]; omega) ?_
                          first | ((with_reducible refine mk_n ?_); refine n_i2l dX11_cuts_126 (by omega) ?_) | refine e_i2l dX11_cuts_126 ?_
                          refine e_goto (tgt := 144) dX11_cuts_127 (by decide) ?_
                          refine e_lstore dX11_cuts_144 (Nat.le_of_ble_eq_true rfl) rfl ?_
                          first | refine n_inc dX11_cuts_146 rfl (Nat.le_of_ble_eq_true rfl) rfl ?_ | refine e_iinc dX11_cuts_146 rfl rfl (Nat.le_of_ble_eq_true rfl) rfl ?_
                          refine e_goto (tgt := 61) dX11_cuts_149 (by decide) ?_
                          exact EV_ls (by repeat (first | exact lsub_0 | refine lsub_n ?_ | refine lsub_s ?_)) ih2
        · rw [cuI_f hb3] at ih2
          refine e_iload dX11_cuts_61 rfl ?_
          refine e_aload_n dX11_cuts_63 rfl rfl ?_
          refine e_iload_n dX11_cuts_64 rfl rfl ?_
          refine x_V1 (M' := mX11_endOf) dX11_cuts_65 ml_X11_70 ok_X11_endOf (by decide) rfl im_X11_endOf se_X11_endOf (ct_X11_endOf ‹_› ‹_› (by omega)) (Nat.le_of_ble_eq_true rfl) (by decide) (Nat.le_of_ble_eq_true rfl) ?_
          first | ((with_reducible refine mk_nn ?_); refine n_icmp_ge (tgt := 152) dX11_cuts_68 (by decide) (by omega) (by omega) (fun h68 => ?_) (fun h68 => ?_)) | refine e_icmp_ge (tgt := 152) dX11_cuts_68 (by decide) (fun h68 => ?_) (fun h68 => ?_)
          · try first | contradiction | omega
            all_goals
              omega
          · try first | contradiction | omega
            all_goals
              refine e_lload dX11_cuts_71 rfl ?_
              refine e_aload_n dX11_cuts_73 rfl rfl ?_
              refine e_getR dX11_cuts_74 fl_X11_7 rfl (by assumption) ?_
              refine e_bipush (v := nI 106) dX11_cuts_77 rfl ?_
              refine e_iload dX11_cuts_79 rfl ?_
              first | ((with_reducible refine mk_nn ?_); refine n_iadd dX11_cuts_81 ?_) | refine e_iadd dX11_cuts_81 ?_
              first | ((with_reducible refine mk_ldw ?_); refine e_ldw dX11_cuts_82 (by omega) ?_) | refine e_iald _ dX11_cuts_82 ⟨by decide, by decide⟩ rfl rfl (by simp only [lenK]; omega) ?_
              first | ((with_reducible refine mk_n ?_); refine n_i2l dX11_cuts_83 (by omega) ?_) | refine e_i2l dX11_cuts_83 ?_
              first | ((with_reducible refine mk_LL ?_); refine n_ladd dX11_cuts_84 ?_) | refine e_ladd dX11_cuts_84 ?_
              refine e_iload_n dX11_cuts_85 rfl rfl ?_
              first | ((with_reducible refine mk_n ?_); refine n_i2l dX11_cuts_86 (by omega) ?_) | refine e_i2l dX11_cuts_86 ?_
              refine e_lcmp dX11_cuts_87 ?_
              first | ((with_reducible refine mk_ll ?_); refine m_if_le (tgt := 95) dX11_cuts_88 (by decide) (by omega) (by omega) (fun h88 => ?_) (fun h88 => ?_)) | ((with_reducible refine mk_lc ?_); refine l_if_le (tgt := 95) dX11_cuts_88 (by decide) (fun h88 => ?_) (fun h88 => ?_)) | ((with_reducible refine mk_n ?_); refine n_if_le (tgt := 95) dX11_cuts_88 (by decide) (by omega) (fun h88 => ?_) (fun h88 => ?_)) | refine e_if_le (tgt := 95) dX11_cuts_88 (by decide) (fun h88 => ?_) (fun h88 => ?_)
              · try first | contradiction | omega
                all_goals
                  refine e_iconst (v := nI 0) dX11_cuts_95 rfl ?_
                  refine e_istore dX11_cuts_96 (Nat.le_of_ble_eq_true rfl) rfl ?_
                  refine e_iload_n dX11_cuts_98 rfl rfl ?_
                  refine e_iload dX11_cuts_99 rfl ?_
                  first | ((with_reducible refine mk_b ?_); refine b_if_eq (tgt := 108) dX11_cuts_101 (by decide) (fun h101 => ?_) (fun h101 => ?_)) | ((with_reducible refine mk_ll ?_); refine m_if_eq (tgt := 108) dX11_cuts_101 (by decide) (by omega) (by omega) (fun h101 => ?_) (fun h101 => ?_)) | ((with_reducible refine mk_lc ?_); refine l_if_eq (tgt := 108) dX11_cuts_101 (by decide) (fun h101 => ?_) (fun h101 => ?_)) | ((with_reducible refine mk_n ?_); refine n_if_eq (tgt := 108) dX11_cuts_101 (by decide) (by omega) (fun h101 => ?_) (fun h101 => ?_)) | refine e_if_eq (tgt := 108) dX11_cuts_101 (by decide) (fun h101 => ?_) (fun h101 => ?_)
                  · try first | contradiction | omega | (simp only [decide_eq_true_eq, decide_eq_false_iff_not] at h101; omega)
                    all_goals
                      refine e_iconst (v := nI 0) dX11_cuts_108 rfl ?_
                      first | ((with_reducible refine mk_nn ?_); refine n_iadd dX11_cuts_109 ?_) | refine e_iadd dX11_cuts_109 ?_
                      refine e_istore_n dX11_cuts_110 rfl (Nat.le_of_ble_eq_true rfl) rfl ?_
                      refine e_iload dX11_cuts_111 rfl ?_
                      first | ((with_reducible refine mk_b ?_); refine b_if_eq (tgt := 130) dX11_cuts_113 (by decide) (fun h113 => ?_) (fun h113 => ?_)) | ((with_reducible refine mk_ll ?_); refine m_if_eq (tgt := 130) dX11_cuts_113 (by decide) (by omega) (by omega) (fun h113 => ?_) (fun h113 => ?_)) | ((with_reducible refine mk_lc ?_); refine l_if_eq (tgt := 130) dX11_cuts_113 (by decide) (fun h113 => ?_) (fun h113 => ?_)) | ((with_reducible refine mk_n ?_); refine n_if_eq (tgt := 130) dX11_cuts_113 (by decide) (by omega) (fun h113 => ?_) (fun h113 => ?_)) | refine e_if_eq (tgt := 130) dX11_cuts_113 (by decide) (fun h113 => ?_) (fun h113 => ?_)
                      · try first | contradiction | omega | (simp only [decide_eq_true_eq, decide_eq_false_iff_not] at h113; omega)
                        all_goals
                          refine e_lload dX11_cuts_130 rfl ?_
                          refine e_aload_n dX11_cuts_132 rfl rfl ?_
                          refine e_getR dX11_cuts_133 fl_X11_7 rfl (by assumption) ?_
                          refine e_bipush (v := nI 106) dX11_cuts_136 rfl ?_
                          refine e_iload dX11_cuts_138 rfl ?_
                          first | ((with_reducible refine mk_nn ?_); refine n_iadd dX11_cuts_140 ?_) | refine e_iadd dX11_cuts_140 ?_
                          first | ((with_reducible refine mk_ldw ?_); refine e_ldw dX11_cuts_141 (by omega) ?_) | refine e_iald _ dX11_cuts_141 ⟨by decide, by decide⟩ rfl rfl (by simp only [lenK]; omega) ?_
                          first | ((with_reducible refine mk_n ?_); refine n_i2l dX11_cuts_142 (by omega) ?_) | refine e_i2l dX11_cuts_142 ?_
                          first | ((with_reducible refine mk_LL ?_); refine n_ladd dX11_cuts_143 ?_) | refine e_ladd dX11_cuts_143 ?_
                          refine e_lstore dX11_cuts_144 (Nat.le_of_ble_eq_true rfl) rfl ?_
                          first | refine n_inc dX11_cuts_146 rfl (Nat.le_of_ble_eq_true rfl) rfl ?_ | refine e_iinc dX11_cuts_146 rfl rfl (Nat.le_of_ble_eq_true rfl) rfl ?_
                          refine e_goto (tgt := 61) dX11_cuts_149 (by decide) ?_
                          exact EV_ls (by repeat (first | exact lsub_0 | refine lsub_n ?_ | refine lsub_s ?_)) ih2
                      · try first | contradiction | omega | (simp only [decide_eq_true_eq, decide_eq_false_iff_not] at h113; omega)
                        all_goals
                          refine e_aload_n dX11_cuts_116 rfl rfl ?_
                          refine e_getR dX11_cuts_117 fl_X11_7 rfl (by assumption) ?_
                          refine e_bipush (v := nI 106) dX11_cuts_120 rfl ?_
                          refine e_iload dX11_cuts_122 rfl ?_
                          first | ((with_reducible refine mk_nn ?_); refine n_iadd dX11_cuts_124 ?_) | refine e_iadd dX11_cuts_124 ?_
                          first | ((with_reducible refine mk_ldw ?_); refine e_ldw dX11_cuts_125 (by omega) ?_) | refine e_iald _ dX11_cuts_125 ⟨by decide, by decide⟩ rfl rfl (by simp only [lenK]; omega) ?_
                          first | ((with_reducible refine mk_n ?_); refine n_i2l dX11_cuts_126 (by omega) ?_) | refine e_i2l dX11_cuts_126 ?_
                          refine e_goto (tgt := 144) dX11_cuts_127 (by decide) ?_
                          refine e_lstore dX11_cuts_144 (Nat.le_of_ble_eq_true rfl) rfl ?_
                          first | refine n_inc dX11_cuts_146 rfl (Nat.le_of_ble_eq_true rfl) rfl ?_ | refine e_iinc dX11_cuts_146 rfl rfl (Nat.le_of_ble_eq_true rfl) rfl ?_
                          refine e_goto (tgt := 61) dX11_cuts_149 (by decide) ?_
                          exact EV_ls (by repeat (first | exact lsub_0 | refine lsub_n ?_ | refine lsub_s ?_)) ih2
                  · try first | contradiction | omega | (simp only [decide_eq_true_eq, decide_eq_false_iff_not] at h101; omega)
                    all_goals
                      refine e_iconst (v := nI 1) dX11_cuts_104 rfl ?_
                      refine e_goto (tgt := 109) dX11_cuts_105 (by decide) ?_
                      first | ((with_reducible refine mk_nn ?_); refine n_iadd dX11_cuts_109 ?_) | refine e_iadd dX11_cuts_109 ?_
                      refine e_istore_n dX11_cuts_110 rfl (Nat.le_of_ble_eq_true rfl) rfl ?_
                      refine e_iload dX11_cuts_111 rfl ?_
                      first | ((with_reducible refine mk_b ?_); refine b_if_eq (tgt := 130) dX11_cuts_113 (by decide) (fun h113 => ?_) (fun h113 => ?_)) | ((with_reducible refine mk_ll ?_); refine m_if_eq (tgt := 130) dX11_cuts_113 (by decide) (by omega) (by omega) (fun h113 => ?_) (fun h113 => ?_)) | ((with_reducible refine mk_lc ?_); refine l_if_eq (tgt := 130) dX11_cuts_113 (by decide) (fun h113 => ?_) (fun h113 => ?_)) | ((with_reducible refine mk_n ?_); refine n_if_eq (tgt := 130) dX11_cuts_113 (by decide) (by omega) (fun h113 => ?_) (fun h113 => ?_)) | refine e_if_eq (tgt := 130) dX11_cuts_113 (by decide) (fun h113 => ?_) (fun h113 => ?_)
                      · try first | contradiction | omega | (simp only [decide_eq_true_eq, decide_eq_false_iff_not] at h113; omega)
                        all_goals
                          refine e_lload dX11_cuts_130 rfl ?_
                          refine e_aload_n dX11_cuts_132 rfl rfl ?_
                          refine e_getR dX11_cuts_133 fl_X11_7 rfl (by assumption) ?_
                          refine e_bipush (v := nI 106) dX11_cuts_136 rfl ?_
                          refine e_iload dX11_cuts_138 rfl ?_
                          first | ((with_reducible refine mk_nn ?_); refine n_iadd dX11_cuts_140 ?_) | refine e_iadd dX11_cuts_140 ?_
                          first | ((with_reducible refine mk_ldw ?_); refine e_ldw dX11_cuts_141 (by omega) ?_) | refine e_iald _ dX11_cuts_141 ⟨by decide, by decide⟩ rfl rfl (by simp only [lenK]; omega) ?_
                          first | ((with_reducible refine mk_n ?_); refine n_i2l dX11_cuts_142 (by omega) ?_) | refine e_i2l dX11_cuts_142 ?_
                          first | ((with_reducible refine mk_LL ?_); refine n_ladd dX11_cuts_143 ?_) | refine e_ladd dX11_cuts_143 ?_
                          refine e_lstore dX11_cuts_144 (Nat.le_of_ble_eq_true rfl) rfl ?_
                          first | refine n_inc dX11_cuts_146 rfl (Nat.le_of_ble_eq_true rfl) rfl ?_ | refine e_iinc dX11_cuts_146 rfl rfl (Nat.le_of_ble_eq_true rfl) rfl ?_
                          refine e_goto (tgt := 61) dX11_cuts_149 (by decide) ?_
                          exact EV_ls (by repeat (first | exact lsub_0 | refine lsub_n ?_ | refine lsub_s ?_)) ih2
                      · try first | contradiction | omega | (simp only [decide_eq_true_eq, decide_eq_false_iff_not] at h113; omega)
                        all_goals
                          refine e_aload_n dX11_cuts_116 rfl rfl ?_
                          refine e_getR dX11_cuts_117 fl_X11_7 rfl (by assumption) ?_
                          refine e_bipush (v := nI 106) dX11_cuts_120 rfl ?_
                          refine e_iload dX11_cuts_122 rfl ?_
                          first | ((with_reducible refine mk_nn ?_); refine n_iadd dX11_cuts_124 ?_) | refine e_iadd dX11_cuts_124 ?_
                          first | ((with_reducible refine mk_ldw ?_); refine e_ldw dX11_cuts_125 (by omega) ?_) | refine e_iald _ dX11_cuts_125 ⟨by decide, by decide⟩ rfl rfl (by simp only [lenK]; omega) ?_
                          first | ((with_reducible refine mk_n ?_); refine n_i2l dX11_cuts_126 (by omega) ?_) | refine e_i2l dX11_cuts_126 ?_
                          refine e_goto (tgt := 144) dX11_cuts_127 (by decide) ?_
                          refine e_lstore dX11_cuts_144 (Nat.le_of_ble_eq_true rfl) rfl ?_
                          first | refine n_inc dX11_cuts_146 rfl (Nat.le_of_ble_eq_true rfl) rfl ?_ | refine e_iinc dX11_cuts_146 rfl rfl (Nat.le_of_ble_eq_true rfl) rfl ?_
                          refine e_goto (tgt := 61) dX11_cuts_149 (by decide) ?_
                          exact EV_ls (by repeat (first | exact lsub_0 | refine lsub_n ?_ | refine lsub_s ?_)) ih2
              · try first | contradiction | omega
                all_goals
                  omega
        ) (by
        rw [rs_s, Nat.zero_add] at ih
        refine e_iload dX11_cuts_61 rfl ?_
        refine e_aload_n dX11_cuts_63 rfl rfl ?_
        refine e_iload_n dX11_cuts_64 rfl rfl ?_
        refine x_V1 (M' := mX11_endOf) dX11_cuts_65 ml_X11_70 ok_X11_endOf (by decide) rfl im_X11_endOf se_X11_endOf (ct_X11_endOf ‹_› ‹_› (by omega)) (Nat.le_of_ble_eq_true rfl) (by decide) (Nat.le_of_ble_eq_true rfl) ?_
        first | ((with_reducible refine mk_nn ?_); refine n_icmp_ge (tgt := 152) dX11_cuts_68 (by decide) (by omega) (by omega) (fun h68 => ?_) (fun h68 => ?_)) | refine e_icmp_ge (tgt := 152) dX11_cuts_68 (by decide) (fun h68 => ?_) (fun h68 => ?_)
        · try first | contradiction | omega
          all_goals
            first | refine n_inc dX11_cuts_152 rfl (Nat.le_of_ble_eq_true rfl) rfl ?_ | refine e_iinc dX11_cuts_152 rfl rfl (Nat.le_of_ble_eq_true rfl) rfl ?_
            refine e_goto (tgt := 18) dX11_cuts_155 (by decide) ?_
            exact EV_ls (by repeat (first | exact lsub_0 | refine lsub_n ?_ | refine lsub_s ?_)) ih
        · try first | contradiction | omega
          all_goals
            omega
        )
      refine e_iload_n dX11_cuts_18 rfl rfl ?_
      refine e_aload_n dX11_cuts_19 rfl rfl ?_
      refine e_getR dX11_cuts_20 fl_X11_7 rfl (by assumption) ?_
      refine e_iconst (v := nI 1) dX11_cuts_23 rfl ?_
      first | ((with_reducible refine mk_ldw ?_); refine e_ldw dX11_cuts_24 (by omega) ?_) | refine e_iald _ dX11_cuts_24 ⟨by decide, by decide⟩ rfl rfl (by simp only [lenK]; omega) ?_
      first | ((with_reducible refine mk_nn ?_); refine n_icmp_ge (tgt := 158) dX11_cuts_25 (by decide) (by omega) (by omega) (fun h25 => ?_) (fun h25 => ?_)) | refine e_icmp_ge (tgt := 158) dX11_cuts_25 (by decide) (fun h25 => ?_) (fun h25 => ?_)
      · try first | contradiction | omega
        all_goals
          omega
      · try first | contradiction | omega
        all_goals
          refine e_aload_n dX11_cuts_28 rfl rfl ?_
          refine e_getR dX11_cuts_29 fl_X11_7 rfl (by assumption) ?_
          refine e_bipush (v := nI 106) dX11_cuts_32 rfl ?_
          refine e_aload_n dX11_cuts_34 rfl rfl ?_
          refine e_getR dX11_cuts_35 fl_X11_7 rfl (by assumption) ?_
          refine e_bipush (v := nI 10) dX11_cuts_38 rfl ?_
          refine e_iload_n dX11_cuts_40 rfl rfl ?_
          first | ((with_reducible refine mk_nn ?_); refine n_iadd dX11_cuts_41 ?_) | refine e_iadd dX11_cuts_41 ?_
          first | ((with_reducible refine mk_ldw ?_); refine e_ldw dX11_cuts_42 (by omega) ?_) | refine e_iald _ dX11_cuts_42 ⟨by decide, by decide⟩ rfl rfl (by simp only [lenK]; omega) ?_
          first | ((with_reducible refine mk_nn ?_); refine n_iadd dX11_cuts_43 ?_) | refine e_iadd dX11_cuts_43 ?_
          first | ((with_reducible refine mk_ldw ?_); refine e_ldw dX11_cuts_44 (by omega) ?_) | refine e_iald _ dX11_cuts_44 ⟨by decide, by decide⟩ rfl rfl (by simp only [lenK]; omega) ?_
          first | ((with_reducible refine mk_n ?_); refine n_i2l dX11_cuts_45 (by omega) ?_) | refine e_i2l dX11_cuts_45 ?_
          refine e_lstore dX11_cuts_46 (Nat.le_of_ble_eq_true rfl) rfl ?_
          refine e_aload_n dX11_cuts_48 rfl rfl ?_
          refine e_getR dX11_cuts_49 fl_X11_7 rfl (by assumption) ?_
          refine e_bipush (v := nI 10) dX11_cuts_52 rfl ?_
          refine e_iload_n dX11_cuts_54 rfl rfl ?_
          first | ((with_reducible refine mk_nn ?_); refine n_iadd dX11_cuts_55 ?_) | refine e_iadd dX11_cuts_55 ?_
          first | ((with_reducible refine mk_ldw ?_); refine e_ldw dX11_cuts_56 (by omega) ?_) | refine e_iald _ dX11_cuts_56 ⟨by decide, by decide⟩ rfl rfl (by simp only [lenK]; omega) ?_
          refine e_iconst (v := nI 1) dX11_cuts_57 rfl ?_
          first | ((with_reducible refine mk_nn ?_); refine n_iadd dX11_cuts_58 ?_) | refine e_iadd dX11_cuts_58 ?_
          refine e_istore dX11_cuts_59 (Nat.le_of_ble_eq_true rfl) rfl ?_
          exact EV_ls (by repeat (first | exact lsub_0 | refine lsub_n ?_ | refine lsub_s ?_)) (kin 0 (by omega))
      ) (by
      refine e_iload_n dX11_cuts_18 rfl rfl ?_
      refine e_aload_n dX11_cuts_19 rfl rfl ?_
      refine e_getR dX11_cuts_20 fl_X11_7 rfl (by assumption) ?_
      refine e_iconst (v := nI 1) dX11_cuts_23 rfl ?_
      first | ((with_reducible refine mk_ldw ?_); refine e_ldw dX11_cuts_24 (by omega) ?_) | refine e_iald _ dX11_cuts_24 ⟨by decide, by decide⟩ rfl rfl (by simp only [lenK]; omega) ?_
      first | ((with_reducible refine mk_nn ?_); refine n_icmp_ge (tgt := 158) dX11_cuts_25 (by decide) (by omega) (by omega) (fun h25 => ?_) (fun h25 => ?_)) | refine e_icmp_ge (tgt := 158) dX11_cuts_25 (by decide) (fun h25 => ?_) (fun h25 => ?_)
      · try first | contradiction | omega
        all_goals
          refine e_iload_n dX11_cuts_158 rfl rfl ?_
          refine e_ret (some _) rfl (r_int dX11_cuts_159 rfl) ?_
          exact xq rfl rfl rfl rfl rfl rfl
      · try first | contradiction | omega
        all_goals
          omega
      )
    refine e_iload_n dX11_cuts_0 rfl rfl ?_
    first | ((with_reducible refine mk_n ?_); refine n_i2l dX11_cuts_1 (by omega) ?_) | refine e_i2l dX11_cuts_1 ?_
    refine e_lconst (v := lN 0) dX11_cuts_2 rfl ?_
    refine e_ldc2 dX11_cuts_3 co_X11_384 ?_
    refine x_S3 (M' := mX11_isIn) dX11_cuts_6 ml_X11_45 ok_X11_isIn rfl sc_X11_isIn (by first | ((with_reducible refine ct_isInN ?_ ?_ ?_) <;> omega) | ((with_reducible refine ct_isInX ?_ ?_) <;> omega) | exact ct_X11_isIn _ _ _) (Nat.le_of_ble_eq_true rfl) (by decide) (Nat.le_of_ble_eq_true rfl) ?_
    first | ((with_reducible refine mk_b ?_); refine b_if_ne (tgt := 14) dX11_cuts_9 (by decide) (fun h9 => ?_) (fun h9 => ?_)) | ((with_reducible refine mk_ll ?_); refine m_if_ne (tgt := 14) dX11_cuts_9 (by decide) (by omega) (by omega) (fun h9 => ?_) (fun h9 => ?_)) | ((with_reducible refine mk_lc ?_); refine l_if_ne (tgt := 14) dX11_cuts_9 (by decide) (fun h9 => ?_) (fun h9 => ?_)) | ((with_reducible refine mk_n ?_); refine n_if_ne (tgt := 14) dX11_cuts_9 (by decide) (by omega) (fun h9 => ?_) (fun h9 => ?_)) | refine e_if_ne (tgt := 14) dX11_cuts_9 (by decide) (fun h9 => ?_) (fun h9 => ?_)
    · try first | contradiction | omega | (simp only [decide_eq_true_eq, decide_eq_false_iff_not] at h9; omega)
      all_goals
        refine e_iconst (v := nI 0) dX11_cuts_14 rfl ?_
        refine e_istore_n dX11_cuts_15 rfl (Nat.le_of_ble_eq_true rfl) rfl ?_
        refine e_iconst (v := nI 0) dX11_cuts_16 rfl ?_
        refine e_istore_n dX11_cuts_17 rfl (Nat.le_of_ble_eq_true rfl) rfl ?_
        exact EV_ls (by repeat (first | exact lsub_0 | refine lsub_n ?_ | refine lsub_s ?_)) (key 0 (by omega))
    · try first | contradiction | omega | (simp only [decide_eq_true_eq, decide_eq_false_iff_not] at h9; omega)
      all_goals
        contradiction
