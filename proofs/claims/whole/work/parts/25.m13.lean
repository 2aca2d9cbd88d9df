theorem anF_c {w : Nat → Nat} {c k : Nat} : asA w c k 0 = anF w c k := by unfold asA; rw [if_neg (by omega)]
def redR (w : Nat → Nat) (x y : Int32) : Int32 := if inR x 6 ∧ inR y 1000 then (if anF w x.toNatClampNeg y.toNatClampNeg = 0 then nI (w (1106 + 1000 * w (42 + spW w y.toNatClampNeg) + y.toNatClampNeg)) else -1 - nI (anF w x.toNatClampNeg y.toNatClampNeg)) else -10
def redW (w : Nat → Nat) (x y : Int32) : Nat → Nat := if inR x 6 ∧ inR y 1000 then askW w x.toNatClampNeg y.toNatClampNeg 0 else w
def redF (fi : FI) (w : Nat → Nat) (x y : Int32) (sc : Bool) : FI := if inR x 6 ∧ inR y 1000 then askF fi w x.toNatClampNeg y.toNatClampNeg 0 sc else fi
def wriR (w : Nat → Nat) (x y v : Int32) : Int32 := if cwB x y v then nI (asA w x.toNatClampNeg y.toNatClampNeg v.toNatClampNeg) else -1
def wriW (w : Nat → Nat) (x y v : Int32) : Nat → Nat := if cwB x y v then askW w x.toNatClampNeg y.toNatClampNeg v.toNatClampNeg else w
def wriF (fi : FI) (w : Nat → Nat) (x y v : Int32) (sc : Bool) : FI := if cwB x y v then askF fi w x.toNatClampNeg y.toNatClampNeg v.toNatClampNeg sc else fi
theorem askR_fr {w : Nat → Nat} {c k q : Nat} (h : asA w c k 0 = 0) (hq : q < 8558) (hk : q ≠ 106 + k) : askW w c k 0 q = w q := by
  unfold askW
  rw [if_pos h, if_neg (by omega), upN_n (by omega), upN_n (by omega), upN_n (by omega)]
  exact ask1_fr w c q hq
theorem askR_Inv {w : Nat → Nat} {c k : Nat} (iv : Inv w) (hk : k < 1000) (hw : w (106 + k) + 2 ≤ 100000) (h : asA w c k 0 = 0) : Inv (askW w c k 0) := by
  refine Inv_vw (fun q hq hh => askR_fr h hq (by omega)) (fun j hj => ?_) (fun j hj => ?_) iv
  · by_cases e : j = k
    · subst e
      unfold askW
      rw [if_pos h, if_neg (by omega), upN_n (by omega), upN_s]
      omega
    · rw [askR_fr h (by omega) (by omega)]; exact iv_wt iv hj
  · rw [askR_fr h (by omega) (by omega)]; exact iv_va iv hj
theorem cwB_ex {x y v : Int32} (h : cwB x y v = true) : ∃ a b c, a < 6 ∧ b < 1000 ∧ 1 ≤ c ∧ c ≤ 99999 ∧ x = nI a ∧ y = nI b ∧ v = nI c ∧ x.toNatClampNeg = a ∧ y.toNatClampNeg = b ∧ v.toNatClampNeg = c := by
  unfold cwB at h
  simp only [Bool.and_eq_true, decide_eq_true_eq] at h
  obtain ⟨⟨h1, h2⟩, h3, h4⟩ := h
  obtain ⟨a, ha, ha2, rfl⟩ := inR_ex h1
  obtain ⟨b, hb, hb2, rfl⟩ := inR_ex h2
  obtain ⟨c, hc, rfl, hci, hcc⟩ := int_ex (x := v) (by omega)
  exact ⟨a, b, c, ha, hb, by omega, by omega, rfl, rfl, rfl, nI_clamp ha2, nI_clamp hb2, hcc⟩
theorem ct_X11_read {fi : FI} {fr : FR} {ai : FI} {ar : FR} {N : Nat} {w : Nat → Nat} (sm : SM fr) (iv : Inv w) (y0 y1 : Int32) {sc : Bool} (hsc : fi (32 * 11 + 8) (rf 11 80) = bI sc) (hwt : ∀ k, k < 1000 → w (106 + k) + 2 ≤ 100000) : CP mX11_read 5 0 0 [.ref (rf 11 80), .int y0, .int y1] fi fr (mW ai w) ar N (xQ (some (.int (redR w y0 y1))) (redF fi w y0 y1 sc) fr (mW ai (redW w y0 y1)) ar N) := by
  obtain ⟨sW, sA, sK, sU, sC, sKC, sT, sCl⟩ := id sm
  have h1 := iv_n iv
  have h3 := iv_mm iv
  change EV mX11_read 5 0 0 0 [some (.ref (rf 11 80)), some (.int y0), some (.int y1), none] [] fi fr (mW ai w) ar N (xQ (some (.int (redR w y0 y1))) (redF fi w y0 y1 sc) fr (mW ai (redW w y0 y1)) ar N)
  cases hx : inR y0 6 with
  | false =>
    have e1 : redR w y0 y1 = -10 := by unfold redR; rw [if_neg (by rw [hx]; simp)]
    have e2 : redW w y0 y1 = w := by unfold redW; rw [if_neg (by rw [hx]; simp)]
    have e3 : redF fi w y0 y1 sc = fi := by unfold redF; rw [if_neg (by rw [hx]; simp)]
    rw [e1, e2, e3]
    refine e_iload_n dX11_read_0 rfl rfl ?_
    refine x_S1 (M' := mX11_isClient) dX11_read_1 ml_X11_121 ok_X11_isClient rfl sc_X11_isClient (ct_X11_isClient _) (Nat.le_of_ble_eq_true rfl) (by decide) (Nat.le_of_ble_eq_true rfl) ?_
    rw [hx]
    first | ((with_reducible refine mk_b ?_); refine b_if_eq (tgt := 14) dX11_read_4 (by decide) (fun h4 => ?_) (fun h4 => ?_)) | ((with_reducible refine mk_ll ?_); refine m_if_eq (tgt := 14) dX11_read_4 (by decide) (by omega) (by omega) (fun h4 => ?_) (fun h4 => ?_)) | ((with_reducible refine mk_lc ?_); refine l_if_eq (tgt := 14) dX11_read_4 (by decide) (fun h4 => ?_) (fun h4 => ?_)) | ((with_reducible refine mk_n ?_); refine n_if_eq (tgt := 14) dX11_read_4 (by decide) (by omega) (fun h4 => ?_) (fun h4 => ?_)) | refine e_if_eq (tgt := 14) dX11_read_4 (by decide) (fun h4 => ?_) (fun h4 => ?_)
    · try first | contradiction | omega | (simp only [decide_eq_true_eq, decide_eq_false_iff_not] at h4; omega)
      all_goals
        refine e_bipush (v := -10) dX11_read_14 rfl ?_
        refine e_ret (some _) rfl (r_int dX11_read_16 rfl) ?_
        exact xq rfl rfl rfl rfl rfl rfl
    · try first | contradiction | omega | (simp only [decide_eq_true_eq, decide_eq_false_iff_not] at h4; omega)
      all_goals
        refine e_iload_n dX11_read_7 rfl rfl ?_
        refine x_S1 (M' := mX11_isKey) dX11_read_8 ml_X11_54 ok_X11_isKey rfl sc_X11_isKey (ct_X11_isKey _) (Nat.le_of_ble_eq_true rfl) (by decide) (Nat.le_of_ble_eq_true rfl) ?_
        first | ((with_reducible refine mk_b ?_); refine b_if_ne (tgt := 17) dX11_read_11 (by decide) (fun h11 => ?_) (fun h11 => ?_)) | ((with_reducible refine mk_ll ?_); refine m_if_ne (tgt := 17) dX11_read_11 (by decide) (by omega) (by omega) (fun h11 => ?_) (fun h11 => ?_)) | ((with_reducible refine mk_lc ?_); refine l_if_ne (tgt := 17) dX11_read_11 (by decide) (fun h11 => ?_) (fun h11 => ?_)) | ((with_reducible refine mk_n ?_); refine n_if_ne (tgt := 17) dX11_read_11 (by decide) (by omega) (fun h11 => ?_) (fun h11 => ?_)) | refine e_if_ne (tgt := 17) dX11_read_11 (by decide) (fun h11 => ?_) (fun h11 => ?_)
        · try first | contradiction | omega | (simp only [decide_eq_true_eq, decide_eq_false_iff_not] at h11; omega)
          all_goals
            contradiction
        · try first | contradiction | omega | (simp only [decide_eq_true_eq, decide_eq_false_iff_not] at h11; omega)
          all_goals
            refine e_bipush (v := -10) dX11_read_14 rfl ?_
            refine e_ret (some _) rfl (r_int dX11_read_16 rfl) ?_
            exact xq rfl rfl rfl rfl rfl rfl
  | true =>
    obtain ⟨c, hc, hc2, rfl⟩ := inR_ex hx
    have hcl : (nI c).toNatClampNeg = c := nI_clamp hc2
    cases hy : inR y1 1000 with
    | false =>
      have e1 : redR w (nI c) y1 = -10 := by unfold redR; rw [if_neg (by rw [hy]; simp)]
      have e2 : redW w (nI c) y1 = w := by unfold redW; rw [if_neg (by rw [hy]; simp)]
      have e3 : redF fi w (nI c) y1 sc = fi := by unfold redF; rw [if_neg (by rw [hy]; simp)]
      rw [e1, e2, e3]
      refine e_iload_n dX11_read_0 rfl rfl ?_
      refine x_S1 (M' := mX11_isClient) dX11_read_1 ml_X11_121 ok_X11_isClient rfl sc_X11_isClient (ct_X11_isClient _) (Nat.le_of_ble_eq_true rfl) (by decide) (Nat.le_of_ble_eq_true rfl) ?_
      rw [hx]
      first | ((with_reducible refine mk_b ?_); refine b_if_eq (tgt := 14) dX11_read_4 (by decide) (fun h4 => ?_) (fun h4 => ?_)) | ((with_reducible refine mk_ll ?_); refine m_if_eq (tgt := 14) dX11_read_4 (by decide) (by omega) (by omega) (fun h4 => ?_) (fun h4 => ?_)) | ((with_reducible refine mk_lc ?_); refine l_if_eq (tgt := 14) dX11_read_4 (by decide) (fun h4 => ?_) (fun h4 => ?_)) | ((with_reducible refine mk_n ?_); refine n_if_eq (tgt := 14) dX11_read_4 (by decide) (by omega) (fun h4 => ?_) (fun h4 => ?_)) | refine e_if_eq (tgt := 14) dX11_read_4 (by decide) (fun h4 => ?_) (fun h4 => ?_)
      · try first | contradiction | omega | (simp only [decide_eq_true_eq, decide_eq_false_iff_not] at h4; omega)
        all_goals
          refine e_bipush (v := -10) dX11_read_14 rfl ?_
          refine e_ret (some _) rfl (r_int dX11_read_16 rfl) ?_
          exact xq rfl rfl rfl rfl rfl rfl
      · try first | contradiction | omega | (simp only [decide_eq_true_eq, decide_eq_false_iff_not] at h4; omega)
        all_goals
          refine e_iload_n dX11_read_7 rfl rfl ?_
          refine x_S1 (M' := mX11_isKey) dX11_read_8 ml_X11_54 ok_X11_isKey rfl sc_X11_isKey (ct_X11_isKey _) (Nat.le_of_ble_eq_true rfl) (by decide) (Nat.le_of_ble_eq_true rfl) ?_
          rw [hy]
          first | ((with_reducible refine mk_b ?_); refine b_if_ne (tgt := 17) dX11_read_11 (by decide) (fun h11 => ?_) (fun h11 => ?_)) | ((with_reducible refine mk_ll ?_); refine m_if_ne (tgt := 17) dX11_read_11 (by decide) (by omega) (by omega) (fun h11 => ?_) (fun h11 => ?_)) | ((with_reducible refine mk_lc ?_); refine l_if_ne (tgt := 17) dX11_read_11 (by decide) (fun h11 => ?_) (fun h11 => ?_)) | ((with_reducible refine mk_n ?_); refine n_if_ne (tgt := 17) dX11_read_11 (by decide) (by omega) (fun h11 => ?_) (fun h11 => ?_)) | refine e_if_ne (tgt := 17) dX11_read_11 (by decide) (fun h11 => ?_) (fun h11 => ?_)
          · try first | contradiction | omega | (simp only [decide_eq_true_eq, decide_eq_false_iff_not] at h11; omega)
            all_goals
              contradiction
          · try first | contradiction | omega | (simp only [decide_eq_true_eq, decide_eq_false_iff_not] at h11; omega)
            all_goals
              refine e_bipush (v := -10) dX11_read_14 rfl ?_
              refine e_ret (some _) rfl (r_int dX11_read_16 rfl) ?_
              exact xq rfl rfl rfl rfl rfl rfl
    | true =>
      obtain ⟨k, hk, hk2, rfl⟩ := inR_ex hy
      have hkl : (nI k).toNatClampNeg = k := nI_clamp hk2
      have e1 : redR w (nI c) (nI k) = (if anF w c k = 0 then nI (w (1106 + 1000 * w (42 + spW w k) + k)) else -1 - nI (anF w c k)) := by unfold redR; rw [if_pos ⟨hx, hy⟩, hcl, hkl]
      have e2 : redW w (nI c) (nI k) = askW w c k 0 := by unfold redW; rw [if_pos ⟨hx, hy⟩, hcl, hkl]
      have e3 : redF fi w (nI c) (nI k) sc = askF fi w c k 0 sc := by unfold redF; rw [if_pos ⟨hx, hy⟩, hcl, hkl]
      rw [e1, e2, e3]
      have han := anF_le w c k
      have hwk := hwt k hk
      have hsp := spW_lt iv k
      have hso := iv_own iv hsp
      refine e_iload_n dX11_read_0 rfl rfl ?_
      refine x_S1 (M' := mX11_isClient) dX11_read_1 ml_X11_121 ok_X11_isClient rfl sc_X11_isClient (ct_X11_isClient _) (Nat.le_of_ble_eq_true rfl) (by decide) (Nat.le_of_ble_eq_true rfl) ?_
      rw [hx]
      first | ((with_reducible refine mk_b ?_); refine b_if_eq (tgt := 14) dX11_read_4 (by decide) (fun h4 => ?_) (fun h4 => ?_)) | ((with_reducible refine mk_ll ?_); refine m_if_eq (tgt := 14) dX11_read_4 (by decide) (by omega) (by omega) (fun h4 => ?_) (fun h4 => ?_)) | ((with_reducible refine mk_lc ?_); refine l_if_eq (tgt := 14) dX11_read_4 (by decide) (fun h4 => ?_) (fun h4 => ?_)) | ((with_reducible refine mk_n ?_); refine n_if_eq (tgt := 14) dX11_read_4 (by decide) (by omega) (fun h4 => ?_) (fun h4 => ?_)) | refine e_if_eq (tgt := 14) dX11_read_4 (by decide) (fun h4 => ?_) (fun h4 => ?_)
      · try first | contradiction | omega | (simp only [decide_eq_true_eq, decide_eq_false_iff_not] at h4; omega)
        all_goals
          refine e_bipush (v := -10) dX11_read_14 rfl ?_
          refine e_ret (some _) rfl (r_int dX11_read_16 rfl) ?_
          first | (rw [if_neg (by omega)]; exact xq rfl rfl rfl rfl rfl rfl) | (rw [if_pos (by assumption), ev]; exact xq rfl rfl rfl rfl rfl rfl)
      · try first | contradiction | omega | (simp only [decide_eq_true_eq, decide_eq_false_iff_not] at h4; omega)
        all_goals
          refine e_iload_n dX11_read_7 rfl rfl ?_
          refine x_S1 (M' := mX11_isKey) dX11_read_8 ml_X11_54 ok_X11_isKey rfl sc_X11_isKey (ct_X11_isKey _) (Nat.le_of_ble_eq_true rfl) (by decide) (Nat.le_of_ble_eq_true rfl) ?_
          rw [hy]
          first | ((with_reducible refine mk_b ?_); refine b_if_ne (tgt := 17) dX11_read_11 (by decide) (fun h11 => ?_) (fun h11 => ?_)) | ((with_reducible refine mk_ll ?_); refine m_if_ne (tgt := 17) dX11_read_11 (by decide) (by omega) (by omega) (fun h11 => ?_) (fun h11 => ?_)) | ((with_reducible refine mk_lc ?_); refine l_if_ne (tgt := 17) dX11_read_11 (by decide) (fun h11 => ?_) (fun h11 => ?_)) | ((with_reducible refine mk_n ?_); refine n_if_ne (tgt := 17) dX11_read_11 (by decide) (by omega) (fun h11 => ?_) (fun h11 => ?_)) | refine e_if_ne (tgt := 17) dX11_read_11 (by decide) (fun h11 => ?_) (fun h11 => ?_)
          · try first | contradiction | omega | (simp only [decide_eq_true_eq, decide_eq_false_iff_not] at h11; omega)
            all_goals
              refine e_aload_n dX11_read_17 rfl rfl ?_
              refine e_iload_n dX11_read_18 rfl rfl ?_
              refine e_iload_n dX11_read_19 rfl rfl ?_
              refine e_iconst (v := nI 0) dX11_read_20 rfl ?_
              refine x_V3 (M' := mX11_asks) dX11_read_21 ml_X11_149 ok_X11_asks (by decide) rfl im_X11_asks se_X11_asks (ct_X11_asks ‹_› ‹_› (by omega) (by omega) (by omega) (by omega) hsc) (Nat.le_of_ble_eq_true rfl) (by decide) (Nat.le_of_ble_eq_true rfl) ?_
              rw [anF_c]
              refine e_istore_n dX11_read_24 rfl (Nat.le_of_ble_eq_true rfl) rfl ?_
              refine e_iload_n dX11_read_25 rfl rfl ?_
              first | ((with_reducible refine mk_ll ?_); refine m_if_le (tgt := 35) dX11_read_26 (by decide) (by omega) (by omega) (fun h26 => ?_) (fun h26 => ?_)) | ((with_reducible refine mk_lc ?_); refine l_if_le (tgt := 35) dX11_read_26 (by decide) (fun h26 => ?_) (fun h26 => ?_)) | ((with_reducible refine mk_n ?_); refine n_if_le (tgt := 35) dX11_read_26 (by decide) (by omega) (fun h26 => ?_) (fun h26 => ?_)) | refine e_if_le (tgt := 35) dX11_read_26 (by decide) (fun h26 => ?_) (fun h26 => ?_)
              · try first | contradiction | omega
                all_goals
                  have ivR : Inv (askW w c k 0) := askR_Inv iv hk hwk (by rw [anF_c]; assumption); have es : spW (askW w c k 0) k = spW w k := spW_fr (askR_fr (by rw [anF_c]; assumption) (by omega) (by omega)) (fun j hj => askR_fr (by rw [anF_c]; assumption) (by omega) (by omega)) iv k; have eo : askW w c k 0 (42 + spW w k) = w (42 + spW w k) := askR_fr (by rw [anF_c]; assumption) (by omega) (by omega); have ev : askW w c k 0 (1106 + 1000 * w (42 + spW w k) + k) = w (1106 + 1000 * w (42 + spW w k) + k) := askR_fr (by rw [anF_c]; assumption) (by omega) (by omega)
                  refine e_aload_n dX11_read_35 rfl rfl ?_
                  refine e_getR dX11_read_36 fl_X11_7 rfl (by assumption) ?_
                  refine e_aload_n dX11_read_39 rfl rfl ?_
                  refine e_getR dX11_read_40 fl_X11_7 rfl (by assumption) ?_
                  refine e_bipush (v := nI 42) dX11_read_43 rfl ?_
                  refine e_aload_n dX11_read_45 rfl rfl ?_
                  refine e_iload_n dX11_read_46 rfl rfl ?_
                  refine x_V1 (M' := mX11_spanWith) dX11_read_47 ml_X11_58 ok_X11_spanWith (by decide) rfl im_X11_spanWith se_X11_spanWith (ct_X11_spanWith ‹_› ivR (by omega)) (Nat.le_of_ble_eq_true rfl) (by decide) (Nat.le_of_ble_eq_true rfl) ?_
                  rw [es]
                  first | ((with_reducible refine mk_nn ?_); refine n_iadd dX11_read_50 ?_) | refine e_iadd dX11_read_50 ?_
                  first | ((with_reducible refine mk_ldw ?_); refine e_ldw dX11_read_51 (by omega) ?_) | refine e_iald _ dX11_read_51 ⟨by decide, by decide⟩ rfl rfl (by simp only [lenK]; omega) ?_
                  refine e_iload_n dX11_read_52 rfl rfl ?_
                  rw [eo]
                  refine x_S2 (M' := mX11_storeAt) dX11_read_53 ml_X11_136 ok_X11_storeAt rfl sc_X11_storeAt (ct_X11_storeAt) (Nat.le_of_ble_eq_true rfl) (by decide) (Nat.le_of_ble_eq_true rfl) ?_
                  first | ((with_reducible refine mk_ldw ?_); refine e_ldw dX11_read_56 (by omega) ?_) | refine e_iald _ dX11_read_56 ⟨by decide, by decide⟩ rfl rfl (by simp only [lenK]; omega) ?_
                  refine e_ret (some _) rfl (r_int dX11_read_57 rfl) ?_
                  first | (rw [if_neg (by omega)]; exact xq rfl rfl rfl rfl rfl rfl) | (rw [if_pos (by assumption), ev]; exact xq rfl rfl rfl rfl rfl rfl)
              · try first | contradiction | omega
                all_goals
                  refine e_iconst (v := -1) dX11_read_29 rfl ?_
                  refine e_iload_n dX11_read_30 rfl rfl ?_
                  first | ((with_reducible refine mk_nn ?_); refine n_isub dX11_read_31 (by omega) ?_) | refine e_isub dX11_read_31 ?_
                  refine e_goto (tgt := 57) dX11_read_32 (by decide) ?_
                  refine e_ret (some _) rfl (r_int dX11_read_57 rfl) ?_
                  first | (rw [if_neg (by omega)]; exact xq rfl rfl rfl rfl rfl rfl) | (rw [if_pos (by assumption), ev]; exact xq rfl rfl rfl rfl rfl rfl)
          · try first | contradiction | omega | (simp only [decide_eq_true_eq, decide_eq_false_iff_not] at h11; omega)
            all_goals
              refine e_bipush (v := -10) dX11_read_14 rfl ?_
              refine e_ret (some _) rfl (r_int dX11_read_16 rfl) ?_
              first | (rw [if_neg (by omega)]; exact xq rfl rfl rfl rfl rfl rfl) | (rw [if_pos (by assumption), ev]; exact xq rfl rfl rfl rfl rfl rfl)
theorem ct_X11_write {fi : FI} {fr : FR} {ai : FI} {ar : FR} {N : Nat} {w : Nat → Nat} (sm : SM fr) (iv : Inv w) (y0 y1 y2 : Int32) {sc : Bool} (hsc : fi (32 * 11 + 8) (rf 11 80) = bI sc) (hwt : ∀ k, k < 1000 → w (106 + k) + 2 ≤ 100000) : CP mX11_write 5 0 0 [.ref (rf 11 80), .int y0, .int y1, .int y2] fi fr (mW ai w) ar N (xQ (some (.int (wriR w y0 y1 y2))) (wriF fi w y0 y1 y2 sc) fr (mW ai (wriW w y0 y1 y2)) ar N) := by
  obtain ⟨sW, sA, sK, sU, sC, sKC, sT, sCl⟩ := id sm
  have h1 := iv_n iv
  have h3 := iv_mm iv
  change EV mX11_write 5 0 0 0 [some (.ref (rf 11 80)), some (.int y0), some (.int y1), some (.int y2)] [] fi fr (mW ai w) ar N (xQ (some (.int (wriR w y0 y1 y2))) (wriF fi w y0 y1 y2 sc) fr (mW ai (wriW w y0 y1 y2)) ar N)
  cases hx : cwB y0 y1 y2 with
  | false =>
    have e1 : wriR w y0 y1 y2 = -1 := by unfold wriR; rw [hx]; rfl
    have e2 : wriW w y0 y1 y2 = w := by unfold wriW; rw [hx]; rfl
    have e3 : wriF fi w y0 y1 y2 sc = fi := by unfold wriF; rw [hx]; rfl
    rw [e1, e2, e3]
    refine e_iload_n dX11_write_0 rfl rfl ?_
    refine e_iload_n dX11_write_1 rfl rfl ?_
    refine e_iload_n dX11_write_2 rfl rfl ?_
    refine x_S3 (M' := mX11_canWrite) dX11_write_3 ml_X11_154 ok_X11_canWrite rfl sc_X11_canWrite (ct_X11_canWrite _ _ _) (Nat.le_of_ble_eq_true rfl) (by decide) (Nat.le_of_ble_eq_true rfl) ?_
    rw [hx]
    first | ((with_reducible refine mk_b ?_); refine b_if_eq (tgt := 19) dX11_write_6 (by decide) (fun h6 => ?_) (fun h6 => ?_)) | ((with_reducible refine mk_ll ?_); refine m_if_eq (tgt := 19) dX11_write_6 (by decide) (by omega) (by omega) (fun h6 => ?_) (fun h6 => ?_)) | ((with_reducible refine mk_lc ?_); refine l_if_eq (tgt := 19) dX11_write_6 (by decide) (fun h6 => ?_) (fun h6 => ?_)) | ((with_reducible refine mk_n ?_); refine n_if_eq (tgt := 19) dX11_write_6 (by decide) (by omega) (fun h6 => ?_) (fun h6 => ?_)) | refine e_if_eq (tgt := 19) dX11_write_6 (by decide) (fun h6 => ?_) (fun h6 => ?_)
    · try first | contradiction | omega | (simp only [decide_eq_true_eq, decide_eq_false_iff_not] at h6; omega)
      all_goals
        refine e_iconst (v := -1) dX11_write_19 rfl ?_
        refine e_ret (some _) rfl (r_int dX11_write_20 rfl) ?_
        exact xq rfl rfl rfl rfl rfl rfl
    · try first | contradiction | omega | (simp only [decide_eq_true_eq, decide_eq_false_iff_not] at h6; omega)
      all_goals
        refine e_aload_n dX11_write_9 rfl rfl ?_
        refine e_iload_n dX11_write_10 rfl rfl ?_
        refine e_iload_n dX11_write_11 rfl rfl ?_
        refine e_iload_n dX11_write_12 rfl rfl ?_
        refine x_V3 (M' := mX11_asks) dX11_write_13 ml_X11_149 ok_X11_asks (by decide) rfl im_X11_asks se_X11_asks (by contradiction) (Nat.le_of_ble_eq_true rfl) (by decide) (Nat.le_of_ble_eq_true rfl) ?_
        refine e_goto (tgt := 20) dX11_write_16 (by decide) ?_
        refine e_ret (some _) rfl (r_int dX11_write_20 rfl) ?_
        exact xq rfl rfl rfl rfl rfl rfl
  | true =>
    obtain ⟨c, k, v, hc, hk, hv1, hv2, rfl, rfl, rfl, hcl, hkl, hvl⟩ := cwB_ex hx
    have e1 : wriR w (nI c) (nI k) (nI v) = nI (asA w c k v) := by unfold wriR; rw [hx, hcl, hkl, hvl]; rfl
    have e2 : wriW w (nI c) (nI k) (nI v) = askW w c k v := by unfold wriW; rw [hx, hcl, hkl, hvl]; rfl
    have e3 : wriF fi w (nI c) (nI k) (nI v) sc = askF fi w c k v sc := by unfold wriF; rw [hx, hcl, hkl, hvl]; rfl
    rw [e1, e2, e3]
    have hwk := hwt k hk
    refine e_iload_n dX11_write_0 rfl rfl ?_
    refine e_iload_n dX11_write_1 rfl rfl ?_
    refine e_iload_n dX11_write_2 rfl rfl ?_
    refine x_S3 (M' := mX11_canWrite) dX11_write_3 ml_X11_154 ok_X11_canWrite rfl sc_X11_canWrite (ct_X11_canWrite _ _ _) (Nat.le_of_ble_eq_true rfl) (by decide) (Nat.le_of_ble_eq_true rfl) ?_
    rw [hx]
    first | ((with_reducible refine mk_b ?_); refine b_if_eq (tgt := 19) dX11_write_6 (by decide) (fun h6 => ?_) (fun h6 => ?_)) | ((with_reducible refine mk_ll ?_); refine m_if_eq (tgt := 19) dX11_write_6 (by decide) (by omega) (by omega) (fun h6 => ?_) (fun h6 => ?_)) | ((with_reducible refine mk_lc ?_); refine l_if_eq (tgt := 19) dX11_write_6 (by decide) (fun h6 => ?_) (fun h6 => ?_)) | ((with_reducible refine mk_n ?_); refine n_if_eq (tgt := 19) dX11_write_6 (by decide) (by omega) (fun h6 => ?_) (fun h6 => ?_)) | refine e_if_eq (tgt := 19) dX11_write_6 (by decide) (fun h6 => ?_) (fun h6 => ?_)
    · try first | contradiction | omega | (simp only [decide_eq_true_eq, decide_eq_false_iff_not] at h6; omega)
      all_goals
        refine e_iconst (v := -1) dX11_write_19 rfl ?_
        refine e_ret (some _) rfl (r_int dX11_write_20 rfl) ?_
        exact xq rfl rfl rfl rfl rfl rfl
    · try first | contradiction | omega | (simp only [decide_eq_true_eq, decide_eq_false_iff_not] at h6; omega)
      all_goals
        refine e_aload_n dX11_write_9 rfl rfl ?_
        refine e_iload_n dX11_write_10 rfl rfl ?_
        refine e_iload_n dX11_write_11 rfl rfl ?_
        refine e_iload_n dX11_write_12 rfl rfl ?_
        refine x_V3 (M' := mX11_asks) dX11_write_13 ml_X11_149 ok_X11_asks (by decide) rfl im_X11_asks se_X11_asks (ct_X11_asks ‹_› ‹_› (by omega) (by omega) (by omega) (by omega) hsc) (Nat.le_of_ble_eq_true rfl) (by decide) (Nat.le_of_ble_eq_true rfl) ?_
        refine e_goto (tgt := 20) dX11_write_16 (by decide) ?_
        refine e_ret (some _) rfl (r_int dX11_write_20 rfl) ?_
        exact xq rfl rfl rfl rfl rfl rfl
