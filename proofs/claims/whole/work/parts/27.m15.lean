theorem nmO_lt {w : Nat → Nat} (iv : Inv w) {x : Int32} {i : Nat} (h : nmO w x = some i) : i < w 1 ∧ ∃ k, k < 1000 ∧ x = nI k ∧ x.toNatClampNeg = k ∧ w (10 + i) = k ∧ i = spW w k := by
  unfold nmO at h
  split at h
  · rename_i hx
    obtain ⟨k, hk, hk2, rfl⟩ := inR_ex hx
    rw [nI_clamp hk2] at h
    split at h
    · rename_i he
      obtain rfl := Option.some.inj h
      exact ⟨spW_lt iv k, k, hk, rfl, nI_clamp hk2, he, rfl⟩
    · cases h
  · cases h
theorem ct_X11_split {fi : FI} {fr : FR} {ai : FI} {ar : FR} {N : Nat} {w : Nat → Nat} (sm : SM fr) (iv : Inv w) (y0 y1 : Int32) {u : Nat} (hu : fi (32 * 11 + 4) (rf 11 80) = nI u) (hu6 : u ≤ 6) {sc : Bool} (hsc : fi (32 * 11 + 8) (rf 11 80) = bI sc) : CP mX11_split 5 0 0 [.ref (rf 11 80), .int y0, .int y1] fi fr (mW ai w) ar N (xQ (some (.int (sptR w (nmO w y0) y1 (-1)))) (sptF fi u sc w (nmO w y0) y1) fr (mW (sptA ai u sc w (nmO w y0) y1) (sptW w (nmO w y0) y1)) ar N) := by
  obtain ⟨sW, sA, sK, sU, sC, sKC, sT, sCl⟩ := id sm
  have h1 := iv_n iv
  have h3 := iv_mm iv
  change EV mX11_split 5 0 0 0 [some (.ref (rf 11 80)), some (.int y0), some (.int y1)] [] fi fr (mW ai w) ar N (xQ (some (.int (sptR w (nmO w y0) y1 (-1)))) (sptF fi u sc w (nmO w y0) y1) fr (mW (sptA ai u sc w (nmO w y0) y1) (sptW w (nmO w y0) y1)) ar N)
  refine e_aload_n dX11_split_0 rfl rfl ?_
  refine e_aload_n dX11_split_1 rfl rfl ?_
  refine e_iload_n dX11_split_2 rfl rfl ?_
  refine x_V1 (M' := mX11_named) dX11_split_3 ml_X11_100 ok_X11_named (by decide) rfl im_X11_named se_X11_named (ct_X11_named ‹_› ‹_› _) (Nat.le_of_ble_eq_true rfl) (by decide) (Nat.le_of_ble_eq_true rfl) ?_
  refine e_iload_n dX11_split_6 rfl rfl ?_
  refine e_iconst (v := -1) dX11_split_7 rfl ?_
  refine x_V3 (M' := mX11_splitAt) dX11_split_8 ml_X11_103 ok_X11_splitAt (by decide) rfl im_X11_splitAt se_X11_splitAt (ct_X11_splitAt ‹_› ‹_› _ (fun i hi => (nmO_lt iv hi).1) _ _ hu hu6 hsc) (Nat.le_of_ble_eq_true rfl) (by decide) (Nat.le_of_ble_eq_true rfl) ?_
  refine e_ret (some _) rfl (r_int dX11_split_11 rfl) ?_
  exact xq rfl rfl rfl rfl rfl rfl
/-- middle: the span, its middle -/
def mdlO (w : Nat → Nat) (x : Int32) : Option (Nat × Nat) := match nmO w x with
  | none => none
  | some i => match mdO w i with
    | none => none
    | some k => some (i, k)
def mdlR (w : Nat → Nat) (x : Int32) : Int32 := match mdlO w x with
  | none => -1
  | some (i, k) => sptR w (some i) (nI k) (nI k)
def mdlW (w : Nat → Nat) (x : Int32) : Nat → Nat := match mdlO w x with
  | none => w
  | some (i, k) => sptW w (some i) (nI k)
def mdlA (ai : FI) (u : Nat) (sc : Bool) (w : Nat → Nat) (x : Int32) : FI := match mdlO w x with
  | none => ai
  | some (i, k) => sptA ai u sc w (some i) (nI k)
def mdlF (fi : FI) (u : Nat) (sc : Bool) (w : Nat → Nat) (x : Int32) : FI := match mdlO w x with
  | none => fi
  | some (i, k) => sptF fi u sc w (some i) (nI k)
theorem ct_X11_middle {fi : FI} {fr : FR} {ai : FI} {ar : FR} {N : Nat} {w : Nat → Nat} (sm : SM fr) (iv : Inv w) (y0 : Int32) {u : Nat} (hu : fi (32 * 11 + 4) (rf 11 80) = nI u) (hu6 : u ≤ 6) {sc : Bool} (hsc : fi (32 * 11 + 8) (rf 11 80) = bI sc) : CP mX11_middle 5 0 0 [.ref (rf 11 80), .int y0] fi fr (mW ai w) ar N (xQ (some (.int (mdlR w y0))) (mdlF fi u sc w y0) fr (mW (mdlA ai u sc w y0) (mdlW w y0)) ar N) := by
  obtain ⟨sW, sA, sK, sU, sC, sKC, sT, sCl⟩ := id sm
  have h1 := iv_n iv
  have h3 := iv_mm iv
  change EV mX11_middle 5 0 0 0 [some (.ref (rf 11 80)), some (.int y0), none, none] [] fi fr (mW ai w) ar N (xQ (some (.int (mdlR w y0))) (mdlF fi u sc w y0) fr (mW (mdlA ai u sc w y0) (mdlW w y0)) ar N)
  cases hnm : nmO w y0 with
  | none =>
    have e : mdlO w y0 = none := by unfold mdlO; rw [hnm]
    have e1 : mdlR w y0 = -1 := by unfold mdlR; rw [e]
    have e2 : mdlW w y0 = w := by unfold mdlW; rw [e]
    have e3 : mdlA ai u sc w y0 = ai := by unfold mdlA; rw [e]
    have e4 : mdlF fi u sc w y0 = fi := by unfold mdlF; rw [e]
    rw [e1, e2, e3, e4]
    refine e_aload_n dX11_middle_0 rfl rfl ?_
    refine e_iload_n dX11_middle_1 rfl rfl ?_
    refine x_V1 (M' := mX11_named) dX11_middle_2 ml_X11_100 ok_X11_named (by decide) rfl im_X11_named se_X11_named (ct_X11_named ‹_› ‹_› _) (Nat.le_of_ble_eq_true rfl) (by decide) (Nat.le_of_ble_eq_true rfl) ?_
    rw [hnm]
    refine e_istore_n dX11_middle_5 rfl (Nat.le_of_ble_eq_true rfl) rfl ?_
    refine e_iload_n dX11_middle_6 rfl rfl ?_
    refine e_iconst (v := -1) dX11_middle_7 rfl ?_
    first | ((with_reducible refine mk_mo ?_); refine p_icmp_ne (tgt := 15) dX11_middle_8 (by decide) (fun h8 => ?_) (fun h8 => ?_)) | ((with_reducible refine mk_ms ?_); refine s_icmp_ne (tgt := 15) dX11_middle_8 (by decide) (by omega) (fun h8 => ?_) (fun h8 => ?_)) | ((with_reducible refine mk_mn ?_); refine q_icmp_ne (tgt := 15) dX11_middle_8 (by decide) (by omega) (fun h8 => ?_) (fun h8 => ?_)) | ((with_reducible refine mk_nn ?_); refine n_icmp_ne (tgt := 15) dX11_middle_8 (by decide) (by omega) (by omega) (fun h8 => ?_) (fun h8 => ?_)) | refine e_icmp_ne (tgt := 15) dX11_middle_8 (by decide) (fun h8 => ?_) (fun h8 => ?_)
    · try first | contradiction | omega
      all_goals
        refine e_aload_n dX11_middle_15 rfl rfl ?_
        refine e_iload_n dX11_middle_16 rfl rfl ?_
        refine x_V1 (M' := mX11_middleIn) dX11_middle_17 ml_X11_107 ok_X11_middleIn (by decide) rfl im_X11_middleIn se_X11_middleIn (by contradiction) (Nat.le_of_ble_eq_true rfl) (by decide) (Nat.le_of_ble_eq_true rfl) ?_
        refine e_istore_n dX11_middle_20 rfl (Nat.le_of_ble_eq_true rfl) rfl ?_
        refine e_iload_n dX11_middle_21 rfl rfl ?_
        refine e_iconst (v := -1) dX11_middle_22 rfl ?_
        first | ((with_reducible refine mk_mo ?_); refine p_icmp_ne (tgt := 30) dX11_middle_23 (by decide) (fun h23 => ?_) (fun h23 => ?_)) | ((with_reducible refine mk_ms ?_); refine s_icmp_ne (tgt := 30) dX11_middle_23 (by decide) (by omega) (fun h23 => ?_) (fun h23 => ?_)) | ((with_reducible refine mk_mn ?_); refine q_icmp_ne (tgt := 30) dX11_middle_23 (by decide) (by omega) (fun h23 => ?_) (fun h23 => ?_)) | ((with_reducible refine mk_nn ?_); refine n_icmp_ne (tgt := 30) dX11_middle_23 (by decide) (by omega) (by omega) (fun h23 => ?_) (fun h23 => ?_)) | refine e_icmp_ne (tgt := 30) dX11_middle_23 (by decide) (fun h23 => ?_) (fun h23 => ?_)
        · try first | contradiction | omega
          all_goals
            refine e_aload_n dX11_middle_30 rfl rfl ?_
            refine e_iload_n dX11_middle_31 rfl rfl ?_
            refine e_iload_n dX11_middle_32 rfl rfl ?_
            refine e_iload_n dX11_middle_33 rfl rfl ?_
            refine x_V3 (M' := mX11_splitAt) dX11_middle_34 ml_X11_103 ok_X11_splitAt (by decide) rfl im_X11_splitAt se_X11_splitAt (by contradiction) (Nat.le_of_ble_eq_true rfl) (by decide) (Nat.le_of_ble_eq_true rfl) ?_
            refine e_ret (some _) rfl (r_int dX11_middle_37 rfl) ?_
            exact xq rfl rfl rfl rfl rfl rfl
        · try first | contradiction | omega
          all_goals
            refine e_iconst (v := -1) dX11_middle_26 rfl ?_
            refine e_goto (tgt := 37) dX11_middle_27 (by decide) ?_
            refine e_ret (some _) rfl (r_int dX11_middle_37 rfl) ?_
            exact xq rfl rfl rfl rfl rfl rfl
    · try first | contradiction | omega
      all_goals
        refine e_iconst (v := -1) dX11_middle_11 rfl ?_
        refine e_goto (tgt := 20) dX11_middle_12 (by decide) ?_
        refine e_istore_n dX11_middle_20 rfl (Nat.le_of_ble_eq_true rfl) rfl ?_
        refine e_iload_n dX11_middle_21 rfl rfl ?_
        refine e_iconst (v := -1) dX11_middle_22 rfl ?_
        first | ((with_reducible refine mk_mo ?_); refine p_icmp_ne (tgt := 30) dX11_middle_23 (by decide) (fun h23 => ?_) (fun h23 => ?_)) | ((with_reducible refine mk_ms ?_); refine s_icmp_ne (tgt := 30) dX11_middle_23 (by decide) (by omega) (fun h23 => ?_) (fun h23 => ?_)) | ((with_reducible refine mk_mn ?_); refine q_icmp_ne (tgt := 30) dX11_middle_23 (by decide) (by omega) (fun h23 => ?_) (fun h23 => ?_)) | ((with_reducible refine mk_nn ?_); refine n_icmp_ne (tgt := 30) dX11_middle_23 (by decide) (by omega) (by omega) (fun h23 => ?_) (fun h23 => ?_)) | refine e_icmp_ne (tgt := 30) dX11_middle_23 (by decide) (fun h23 => ?_) (fun h23 => ?_)
        · try first | contradiction | omega
          all_goals
            refine e_aload_n dX11_middle_30 rfl rfl ?_
            refine e_iload_n dX11_middle_31 rfl rfl ?_
            refine e_iload_n dX11_middle_32 rfl rfl ?_
            refine e_iload_n dX11_middle_33 rfl rfl ?_
            refine x_V3 (M' := mX11_splitAt) dX11_middle_34 ml_X11_103 ok_X11_splitAt (by decide) rfl im_X11_splitAt se_X11_splitAt (by contradiction) (Nat.le_of_ble_eq_true rfl) (by decide) (Nat.le_of_ble_eq_true rfl) ?_
            refine e_ret (some _) rfl (r_int dX11_middle_37 rfl) ?_
            exact xq rfl rfl rfl rfl rfl rfl
        · try first | contradiction | omega
          all_goals
            refine e_iconst (v := -1) dX11_middle_26 rfl ?_
            refine e_goto (tgt := 37) dX11_middle_27 (by decide) ?_
            refine e_ret (some _) rfl (r_int dX11_middle_37 rfl) ?_
            exact xq rfl rfl rfl rfl rfl rfl
  | some i =>
    have hi := (nmO_lt iv hnm).1
    cases hmd : mdO w i with
    | none =>
      have e : mdlO w y0 = none := by unfold mdlO; rw [hnm]; dsimp only; rw [hmd]
      have e1 : mdlR w y0 = -1 := by unfold mdlR; rw [e]
      have e2 : mdlW w y0 = w := by unfold mdlW; rw [e]
      have e3 : mdlA ai u sc w y0 = ai := by unfold mdlA; rw [e]
      have e4 : mdlF fi u sc w y0 = fi := by unfold mdlF; rw [e]
      rw [e1, e2, e3, e4]
      refine e_aload_n dX11_middle_0 rfl rfl ?_
      refine e_iload_n dX11_middle_1 rfl rfl ?_
      refine x_V1 (M' := mX11_named) dX11_middle_2 ml_X11_100 ok_X11_named (by decide) rfl im_X11_named se_X11_named (ct_X11_named ‹_› ‹_› _) (Nat.le_of_ble_eq_true rfl) (by decide) (Nat.le_of_ble_eq_true rfl) ?_
      rw [hnm]
      refine e_istore_n dX11_middle_5 rfl (Nat.le_of_ble_eq_true rfl) rfl ?_
      refine e_iload_n dX11_middle_6 rfl rfl ?_
      refine e_iconst (v := -1) dX11_middle_7 rfl ?_
      first | ((with_reducible refine mk_mo ?_); refine p_icmp_ne (tgt := 15) dX11_middle_8 (by decide) (fun h8 => ?_) (fun h8 => ?_)) | ((with_reducible refine mk_ms ?_); refine s_icmp_ne (tgt := 15) dX11_middle_8 (by decide) (by omega) (fun h8 => ?_) (fun h8 => ?_)) | ((with_reducible refine mk_mn ?_); refine q_icmp_ne (tgt := 15) dX11_middle_8 (by decide) (by omega) (fun h8 => ?_) (fun h8 => ?_)) | ((with_reducible refine mk_nn ?_); refine n_icmp_ne (tgt := 15) dX11_middle_8 (by decide) (by omega) (by omega) (fun h8 => ?_) (fun h8 => ?_)) | refine e_icmp_ne (tgt := 15) dX11_middle_8 (by decide) (fun h8 => ?_) (fun h8 => ?_)
      · try first | contradiction | omega
        all_goals
          refine e_aload_n dX11_middle_15 rfl rfl ?_
          refine e_iload_n dX11_middle_16 rfl rfl ?_
          refine x_V1 (M' := mX11_middleIn) dX11_middle_17 ml_X11_107 ok_X11_middleIn (by decide) rfl im_X11_middleIn se_X11_middleIn (ct_X11_middleIn ‹_› ‹_› hi) (Nat.le_of_ble_eq_true rfl) (by decide) (Nat.le_of_ble_eq_true rfl) ?_
          rw [hmd]
          refine e_istore_n dX11_middle_20 rfl (Nat.le_of_ble_eq_true rfl) rfl ?_
          refine e_iload_n dX11_middle_21 rfl rfl ?_
          refine e_iconst (v := -1) dX11_middle_22 rfl ?_
          first | ((with_reducible refine mk_mo ?_); refine p_icmp_ne (tgt := 30) dX11_middle_23 (by decide) (fun h23 => ?_) (fun h23 => ?_)) | ((with_reducible refine mk_ms ?_); refine s_icmp_ne (tgt := 30) dX11_middle_23 (by decide) (by omega) (fun h23 => ?_) (fun h23 => ?_)) | ((with_reducible refine mk_mn ?_); refine q_icmp_ne (tgt := 30) dX11_middle_23 (by decide) (by omega) (fun h23 => ?_) (fun h23 => ?_)) | ((with_reducible refine mk_nn ?_); refine n_icmp_ne (tgt := 30) dX11_middle_23 (by decide) (by omega) (by omega) (fun h23 => ?_) (fun h23 => ?_)) | refine e_icmp_ne (tgt := 30) dX11_middle_23 (by decide) (fun h23 => ?_) (fun h23 => ?_)
          · try first | contradiction | omega
            all_goals
              refine e_aload_n dX11_middle_30 rfl rfl ?_
              refine e_iload_n dX11_middle_31 rfl rfl ?_
              refine e_iload_n dX11_middle_32 rfl rfl ?_
              refine e_iload_n dX11_middle_33 rfl rfl ?_
              refine x_V3 (M' := mX11_splitAt) dX11_middle_34 ml_X11_103 ok_X11_splitAt (by decide) rfl im_X11_splitAt se_X11_splitAt (by contradiction) (Nat.le_of_ble_eq_true rfl) (by decide) (Nat.le_of_ble_eq_true rfl) ?_
              refine e_ret (some _) rfl (r_int dX11_middle_37 rfl) ?_
              exact xq rfl rfl rfl rfl rfl rfl
          · try first | contradiction | omega
            all_goals
              refine e_iconst (v := -1) dX11_middle_26 rfl ?_
              refine e_goto (tgt := 37) dX11_middle_27 (by decide) ?_
              refine e_ret (some _) rfl (r_int dX11_middle_37 rfl) ?_
              exact xq rfl rfl rfl rfl rfl rfl
      · try first | contradiction | omega
        all_goals
          refine e_iconst (v := -1) dX11_middle_11 rfl ?_
          refine e_goto (tgt := 20) dX11_middle_12 (by decide) ?_
          refine e_istore_n dX11_middle_20 rfl (Nat.le_of_ble_eq_true rfl) rfl ?_
          refine e_iload_n dX11_middle_21 rfl rfl ?_
          refine e_iconst (v := -1) dX11_middle_22 rfl ?_
          first | ((with_reducible refine mk_mo ?_); refine p_icmp_ne (tgt := 30) dX11_middle_23 (by decide) (fun h23 => ?_) (fun h23 => ?_)) | ((with_reducible refine mk_ms ?_); refine s_icmp_ne (tgt := 30) dX11_middle_23 (by decide) (by omega) (fun h23 => ?_) (fun h23 => ?_)) | ((with_reducible refine mk_mn ?_); refine q_icmp_ne (tgt := 30) dX11_middle_23 (by decide) (by omega) (fun h23 => ?_) (fun h23 => ?_)) | ((with_reducible refine mk_nn ?_); refine n_icmp_ne (tgt := 30) dX11_middle_23 (by decide) (by omega) (by omega) (fun h23 => ?_) (fun h23 => ?_)) | refine e_icmp_ne (tgt := 30) dX11_middle_23 (by decide) (fun h23 => ?_) (fun h23 => ?_)
          · try first | contradiction | omega
            all_goals
              refine e_aload_n dX11_middle_30 rfl rfl ?_
              refine e_iload_n dX11_middle_31 rfl rfl ?_
              refine e_iload_n dX11_middle_32 rfl rfl ?_
              refine e_iload_n dX11_middle_33 rfl rfl ?_
              refine x_V3 (M' := mX11_splitAt) dX11_middle_34 ml_X11_103 ok_X11_splitAt (by decide) rfl im_X11_splitAt se_X11_splitAt (by contradiction) (Nat.le_of_ble_eq_true rfl) (by decide) (Nat.le_of_ble_eq_true rfl) ?_
              refine e_ret (some _) rfl (r_int dX11_middle_37 rfl) ?_
              exact xq rfl rfl rfl rfl rfl rfl
          · try first | contradiction | omega
            all_goals
              refine e_iconst (v := -1) dX11_middle_26 rfl ?_
              refine e_goto (tgt := 37) dX11_middle_27 (by decide) ?_
              refine e_ret (some _) rfl (r_int dX11_middle_37 rfl) ?_
              exact xq rfl rfl rfl rfl rfl rfl
    | some k =>
      have hk := mdO_k iv hi hmd
      have e : mdlO w y0 = some (i, k) := by unfold mdlO; rw [hnm]; dsimp only; rw [hmd]
      have e1 : mdlR w y0 = sptR w (some i) (nI k) (nI k) := by unfold mdlR; rw [e]
      have e2 : mdlW w y0 = sptW w (some i) (nI k) := by unfold mdlW; rw [e]
      have e3 : mdlA ai u sc w y0 = sptA ai u sc w (some i) (nI k) := by unfold mdlA; rw [e]
      have e4 : mdlF fi u sc w y0 = sptF fi u sc w (some i) (nI k) := by unfold mdlF; rw [e]
      rw [e1, e2, e3, e4]
      refine e_aload_n dX11_middle_0 rfl rfl ?_
      refine e_iload_n dX11_middle_1 rfl rfl ?_
      refine x_V1 (M' := mX11_named) dX11_middle_2 ml_X11_100 ok_X11_named (by decide) rfl im_X11_named se_X11_named (ct_X11_named ‹_› ‹_› _) (Nat.le_of_ble_eq_true rfl) (by decide) (Nat.le_of_ble_eq_true rfl) ?_
      rw [hnm]
      refine e_istore_n dX11_middle_5 rfl (Nat.le_of_ble_eq_true rfl) rfl ?_
      refine e_iload_n dX11_middle_6 rfl rfl ?_
      refine e_iconst (v := -1) dX11_middle_7 rfl ?_
      first | ((with_reducible refine mk_mo ?_); refine p_icmp_ne (tgt := 15) dX11_middle_8 (by decide) (fun h8 => ?_) (fun h8 => ?_)) | ((with_reducible refine mk_ms ?_); refine s_icmp_ne (tgt := 15) dX11_middle_8 (by decide) (by omega) (fun h8 => ?_) (fun h8 => ?_)) | ((with_reducible refine mk_mn ?_); refine q_icmp_ne (tgt := 15) dX11_middle_8 (by decide) (by omega) (fun h8 => ?_) (fun h8 => ?_)) | ((with_reducible refine mk_nn ?_); refine n_icmp_ne (tgt := 15) dX11_middle_8 (by decide) (by omega) (by omega) (fun h8 => ?_) (fun h8 => ?_)) | refine e_icmp_ne (tgt := 15) dX11_middle_8 (by decide) (fun h8 => ?_) (fun h8 => ?_)
      · try first | contradiction | omega
        all_goals
          refine e_aload_n dX11_middle_15 rfl rfl ?_
          refine e_iload_n dX11_middle_16 rfl rfl ?_
          refine x_V1 (M' := mX11_middleIn) dX11_middle_17 ml_X11_107 ok_X11_middleIn (by decide) rfl im_X11_middleIn se_X11_middleIn (ct_X11_middleIn ‹_› ‹_› hi) (Nat.le_of_ble_eq_true rfl) (by decide) (Nat.le_of_ble_eq_true rfl) ?_
          rw [hmd]
          refine e_istore_n dX11_middle_20 rfl (Nat.le_of_ble_eq_true rfl) rfl ?_
          refine e_iload_n dX11_middle_21 rfl rfl ?_
          refine e_iconst (v := -1) dX11_middle_22 rfl ?_
          first | ((with_reducible refine mk_mo ?_); refine p_icmp_ne (tgt := 30) dX11_middle_23 (by decide) (fun h23 => ?_) (fun h23 => ?_)) | ((with_reducible refine mk_ms ?_); refine s_icmp_ne (tgt := 30) dX11_middle_23 (by decide) (by omega) (fun h23 => ?_) (fun h23 => ?_)) | ((with_reducible refine mk_mn ?_); refine q_icmp_ne (tgt := 30) dX11_middle_23 (by decide) (by omega) (fun h23 => ?_) (fun h23 => ?_)) | ((with_reducible refine mk_nn ?_); refine n_icmp_ne (tgt := 30) dX11_middle_23 (by decide) (by omega) (by omega) (fun h23 => ?_) (fun h23 => ?_)) | refine e_icmp_ne (tgt := 30) dX11_middle_23 (by decide) (fun h23 => ?_) (fun h23 => ?_)
          · try first | contradiction | omega
            all_goals
              refine e_aload_n dX11_middle_30 rfl rfl ?_
              refine e_iload_n dX11_middle_31 rfl rfl ?_
              refine e_iload_n dX11_middle_32 rfl rfl ?_
              refine e_iload_n dX11_middle_33 rfl rfl ?_
              refine x_V3 (M' := mX11_splitAt) dX11_middle_34 ml_X11_103 ok_X11_splitAt (by decide) rfl im_X11_splitAt se_X11_splitAt (ct_X11_splitAt ‹_› ‹_› (some i) (fun j hj => by cases hj; exact hi) (nI k) (nI k) hu hu6 hsc) (Nat.le_of_ble_eq_true rfl) (by decide) (Nat.le_of_ble_eq_true rfl) ?_
              refine e_ret (some _) rfl (r_int dX11_middle_37 rfl) ?_
              exact xq rfl rfl rfl rfl rfl rfl
          · try first | contradiction | omega
            all_goals
              refine e_iconst (v := -1) dX11_middle_26 rfl ?_
              refine e_goto (tgt := 37) dX11_middle_27 (by decide) ?_
              refine e_ret (some _) rfl (r_int dX11_middle_37 rfl) ?_
              exact xq rfl rfl rfl rfl rfl rfl
      · try first | contradiction | omega
        all_goals
          refine e_iconst (v := -1) dX11_middle_11 rfl ?_
          refine e_goto (tgt := 20) dX11_middle_12 (by decide) ?_
          refine e_istore_n dX11_middle_20 rfl (Nat.le_of_ble_eq_true rfl) rfl ?_
          refine e_iload_n dX11_middle_21 rfl rfl ?_
          refine e_iconst (v := -1) dX11_middle_22 rfl ?_
          first | ((with_reducible refine mk_mo ?_); refine p_icmp_ne (tgt := 30) dX11_middle_23 (by decide) (fun h23 => ?_) (fun h23 => ?_)) | ((with_reducible refine mk_ms ?_); refine s_icmp_ne (tgt := 30) dX11_middle_23 (by decide) (by omega) (fun h23 => ?_) (fun h23 => ?_)) | ((with_reducible refine mk_mn ?_); refine q_icmp_ne (tgt := 30) dX11_middle_23 (by decide) (by omega) (fun h23 => ?_) (fun h23 => ?_)) | ((with_reducible refine mk_nn ?_); refine n_icmp_ne (tgt := 30) dX11_middle_23 (by decide) (by omega) (by omega) (fun h23 => ?_) (fun h23 => ?_)) | refine e_icmp_ne (tgt := 30) dX11_middle_23 (by decide) (fun h23 => ?_) (fun h23 => ?_)
          · try first | contradiction | omega
            all_goals
              refine e_aload_n dX11_middle_30 rfl rfl ?_
              refine e_iload_n dX11_middle_31 rfl rfl ?_
              refine e_iload_n dX11_middle_32 rfl rfl ?_
              refine e_iload_n dX11_middle_33 rfl rfl ?_
              refine x_V3 (M' := mX11_splitAt) dX11_middle_34 ml_X11_103 ok_X11_splitAt (by decide) rfl im_X11_splitAt se_X11_splitAt (ct_X11_splitAt ‹_› ‹_› (some i) (fun j hj => by cases hj; exact hi) (nI k) (nI k) hu hu6 hsc) (Nat.le_of_ble_eq_true rfl) (by decide) (Nat.le_of_ble_eq_true rfl) ?_
              refine e_ret (some _) rfl (r_int dX11_middle_37 rfl) ?_
              exact xq rfl rfl rfl rfl rfl rfl
          · try first | contradiction | omega
            all_goals
              refine e_iconst (v := -1) dX11_middle_26 rfl ?_
              refine e_goto (tgt := 37) dX11_middle_27 (by decide) ?_
              refine e_ret (some _) rfl (r_int dX11_middle_37 rfl) ?_
              exact xq rfl rfl rfl rfl rfl rfl
def jnF (w : Nat → Nat) (i j : Nat) : Nat → Nat := fun q => if 10 + i + 1 ≤ q ∧ q < 10 + i + 1 + j then w (q + 1) else if 42 + i + 1 ≤ q ∧ q < 42 + i + 1 + j then w (q + 1) else if 74 + i + 1 ≤ q ∧ q < 74 + i + 1 + j then w (q + 1) else w q
theorem jnF_0 (w : Nat → Nat) (i : Nat) : jnF w i 0 = w := by
  funext q
  unfold jnF
  rw [if_neg (by omega), if_neg (by omega), if_neg (by omega)]
theorem jnF_s {w : Nat → Nat} {i j : Nat} (h : i + 1 + j + 1 < 32) : upN (upN (upN (jnF w i j) (10 + (i + 1 + j)) (w (10 + (i + 1 + j) + 1))) (42 + (i + 1 + j)) (w (42 + (i + 1 + j) + 1))) (74 + (i + 1 + j)) (w (74 + (i + 1 + j) + 1)) = jnF w i (j + 1) := by
  funext q
  unfold upN jnF
  repeat' split
  all_goals first | rfl | omega | (congr 1; omega)
theorem jnF_fr {w : Nat → Nat} {i j q : Nat} (h : q < 10 + i + 1 ∨ (10 + i + 1 + j ≤ q ∧ q < 42 + i + 1) ∨ (42 + i + 1 + j ≤ q ∧ q < 74 + i + 1) ∨ 74 + i + 1 + j ≤ q) : jnF w i j q = w q := by
  unfold jnF
  repeat' split
  all_goals first | rfl | omega
def jo2 (w : Nat → Nat) (i : Nat) : Nat → Nat := upN (upN w 0 (w 0 + 1)) (74 + i) (w 0 + 1)
def joiW (w : Nat → Nat) (i : Nat) : Nat → Nat := upN (upN (jnF (jo2 w i) i (w 1 - (i + 1) - 1)) 1 (w 1 - 1)) (8558 + 7) (w (8558 + 7) + 1)
def joiB (w : Nat → Nat) (q : Option Nat) : Bool := match q with
  | none => false
  | some i => decide (i + 1 ≠ w 1) && decide (w (42 + i) = w (42 + i + 1)) && (mvL w (w (10 + i))).isNone && (mvL w (w (10 + (i + 1)))).isNone
def joiA (ai : FI) (u : Nat) (sc : Bool) (w : Nat → Nat) (i : Nat) : FI := notA (actA ai u sc w) (w 0 + 1) 2 (w (10 + i)) (w (42 + i))
def jonW (w : Nat → Nat) (q : Option Nat) : Nat → Nat := if joiB w q then (match q with | none => w | some i => joiW w i) else w
def jonA (ai : FI) (u : Nat) (sc : Bool) (w : Nat → Nat) (q : Option Nat) : FI := if joiB w q then (match q with | none => ai | some i => joiA ai u sc w i) else ai
def jonF (fi : FI) (u : Nat) (sc : Bool) (w : Nat → Nat) (q : Option Nat) : FI := if joiB w q then actF fi u sc else fi
def jonR (w : Nat → Nat) (q : Option Nat) : Int32 := if joiB w q then nI (w 0 + 1) else -1
theorem ct_X11_join {fi : FI} {fr : FR} {ai : FI} {ar : FR} {N : Nat} {w : Nat → Nat} (sm : SM fr) (iv : Inv w) (y0 : Int32) {u : Nat} (hu : fi (32 * 11 + 4) (rf 11 80) = nI u) (hu6 : u ≤ 6) {sc : Bool} (hsc : fi (32 * 11 + 8) (rf 11 80) = bI sc) : CP mX11_join 3 0 0 [.ref (rf 11 80), .int y0] fi fr (mW ai w) ar N (xQ (some (.int (jonR w (nmO w y0)))) (jonF fi u sc w (nmO w y0)) fr (mW (jonA ai u sc w (nmO w y0)) (jonW w (nmO w y0))) ar N) := by
  obtain ⟨sW, sA, sK, sU, sC, sKC, sT, sCl⟩ := id sm
  have h1 := iv_n iv
  have h3 := iv_mm iv
  have he0 := iv_ep0 iv
  change EV mX11_join 3 0 0 0 [some (.ref (rf 11 80)), some (.int y0), none, none] [] fi fr (mW ai w) ar N (xQ (some (.int (jonR w (nmO w y0)))) (jonF fi u sc w (nmO w y0)) fr (mW (jonA ai u sc w (nmO w y0)) (jonW w (nmO w y0))) ar N)
  cases hnm : nmO w y0 with
  | none =>
    have eb : joiB w none = false := rfl
    have e1 : jonR w none = -1 := rfl
    have e2 : jonW w none = w := rfl
    have e3 : jonA ai u sc w none = ai := rfl
    have e4 : jonF fi u sc w none = fi := rfl
    rw [e1, e2, e3, e4]
    refine e_aload_n dX11_join_0 rfl rfl ?_
    refine e_iload_n dX11_join_1 rfl rfl ?_
    refine x_V1 (M' := mX11_named) dX11_join_2 ml_X11_100 ok_X11_named (by decide) rfl im_X11_named se_X11_named (ct_X11_named ‹_› ‹_› _) (Nat.le_of_ble_eq_true rfl) (by decide) (Nat.le_of_ble_eq_true rfl) ?_
    rw [hnm]; try rw [oI_s]
    refine e_istore_n dX11_join_5 rfl (Nat.le_of_ble_eq_true rfl) rfl ?_
    refine e_iload_n dX11_join_6 rfl rfl ?_
    refine e_iconst (v := -1) dX11_join_7 rfl ?_
    first | ((with_reducible refine mk_mo ?_); refine p_icmp_eq (tgt := 66) dX11_join_8 (by decide) (fun h8 => ?_) (fun h8 => ?_)) | ((with_reducible refine mk_ms ?_); refine s_icmp_eq (tgt := 66) dX11_join_8 (by decide) (by omega) (fun h8 => ?_) (fun h8 => ?_)) | ((with_reducible refine mk_mn ?_); refine q_icmp_eq (tgt := 66) dX11_join_8 (by decide) (by omega) (fun h8 => ?_) (fun h8 => ?_)) | ((with_reducible refine mk_nn ?_); refine n_icmp_eq (tgt := 66) dX11_join_8 (by decide) (by omega) (by omega) (fun h8 => ?_) (fun h8 => ?_)) | refine e_icmp_eq (tgt := 66) dX11_join_8 (by decide) (fun h8 => ?_) (fun h8 => ?_)
    · try first | contradiction | omega
      all_goals
        refine e_iconst (v := -1) dX11_join_66 rfl ?_
        refine e_ret (some _) rfl (r_int dX11_join_67 rfl) ?_
        exact xq rfl rfl rfl rfl rfl rfl
    · try first | contradiction | omega
      all_goals
        refine e_iload_n dX11_join_11 rfl rfl ?_
        refine e_iconst (v := nI 1) dX11_join_12 rfl ?_
        first | ((with_reducible refine mk_nn ?_); refine n_iadd dX11_join_13 ?_) | refine e_iadd dX11_join_13 ?_
        refine e_aload_n dX11_join_14 rfl rfl ?_
        refine e_getR dX11_join_15 fl_X11_7 rfl (by assumption) ?_
        refine e_iconst (v := nI 1) dX11_join_18 rfl ?_
        first | ((with_reducible refine mk_ldw ?_); refine e_ldw dX11_join_19 (by omega) ?_) | refine e_iald _ dX11_join_19 ⟨by decide, by decide⟩ rfl rfl (by simp only [lenK]; omega) ?_
        first | ((with_reducible refine mk_mo ?_); refine p_icmp_eq (tgt := 66) dX11_join_20 (by decide) (fun h20 => ?_) (fun h20 => ?_)) | ((with_reducible refine mk_ms ?_); refine s_icmp_eq (tgt := 66) dX11_join_20 (by decide) (by omega) (fun h20 => ?_) (fun h20 => ?_)) | ((with_reducible refine mk_mn ?_); refine q_icmp_eq (tgt := 66) dX11_join_20 (by decide) (by omega) (fun h20 => ?_) (fun h20 => ?_)) | ((with_reducible refine mk_nn ?_); refine n_icmp_eq (tgt := 66) dX11_join_20 (by decide) (by omega) (by omega) (fun h20 => ?_) (fun h20 => ?_)) | refine e_icmp_eq (tgt := 66) dX11_join_20 (by decide) (fun h20 => ?_) (fun h20 => ?_)
        · try first | contradiction | omega
          all_goals
            refine e_iconst (v := -1) dX11_join_66 rfl ?_
            refine e_ret (some _) rfl (r_int dX11_join_67 rfl) ?_
            exact xq rfl rfl rfl rfl rfl rfl
        · try first | contradiction | omega
          all_goals
            refine e_aload_n dX11_join_23 rfl rfl ?_
            refine e_getR dX11_join_24 fl_X11_7 rfl (by assumption) ?_
            refine e_bipush (v := nI 42) dX11_join_27 rfl ?_
            refine e_iload_n dX11_join_29 rfl rfl ?_
            first | ((with_reducible refine mk_nn ?_); refine n_iadd dX11_join_30 ?_) | refine e_iadd dX11_join_30 ?_
            first | ((with_reducible refine mk_ldw ?_); refine e_ldw dX11_join_31 (by omega) ?_) | refine e_iald _ dX11_join_31 ⟨by decide, by decide⟩ rfl rfl (by simp only [lenK]; omega) ?_
            refine e_aload_n dX11_join_32 rfl rfl ?_
            refine e_getR dX11_join_33 fl_X11_7 rfl (by assumption) ?_
            refine e_bipush (v := nI 42) dX11_join_36 rfl ?_
            refine e_iload_n dX11_join_38 rfl rfl ?_
            first | ((with_reducible refine mk_nn ?_); refine n_iadd dX11_join_39 ?_) | refine e_iadd dX11_join_39 ?_
            refine e_iconst (v := nI 1) dX11_join_40 rfl ?_
            first | ((with_reducible refine mk_nn ?_); refine n_iadd dX11_join_41 ?_) | refine e_iadd dX11_join_41 ?_
            first | ((with_reducible refine mk_ldw ?_); refine e_ldw dX11_join_42 (by omega) ?_) | refine e_iald _ dX11_join_42 ⟨by decide, by decide⟩ rfl rfl (by simp only [lenK]; omega) ?_
            first | ((with_reducible refine mk_mo ?_); refine p_icmp_ne (tgt := 66) dX11_join_43 (by decide) (fun h43 => ?_) (fun h43 => ?_)) | ((with_reducible refine mk_ms ?_); refine s_icmp_ne (tgt := 66) dX11_join_43 (by decide) (by omega) (fun h43 => ?_) (fun h43 => ?_)) | ((with_reducible refine mk_mn ?_); refine q_icmp_ne (tgt := 66) dX11_join_43 (by decide) (by omega) (fun h43 => ?_) (fun h43 => ?_)) | ((with_reducible refine mk_nn ?_); refine n_icmp_ne (tgt := 66) dX11_join_43 (by decide) (by omega) (by omega) (fun h43 => ?_) (fun h43 => ?_)) | refine e_icmp_ne (tgt := 66) dX11_join_43 (by decide) (fun h43 => ?_) (fun h43 => ?_)
            · try first | contradiction | omega
              all_goals
                refine e_iconst (v := -1) dX11_join_66 rfl ?_
                refine e_ret (some _) rfl (r_int dX11_join_67 rfl) ?_
                exact xq rfl rfl rfl rfl rfl rfl
            · try first | contradiction | omega
              all_goals
                refine e_aload_n dX11_join_46 rfl rfl ?_
                refine e_iload_n dX11_join_47 rfl rfl ?_
                refine x_V1 (M' := mX11_moveOfSpan) dX11_join_48 ml_X11_79 ok_X11_moveOfSpan (by decide) rfl im_X11_moveOfSpan se_X11_moveOfSpan (by contradiction) (Nat.le_of_ble_eq_true rfl) (by decide) (Nat.le_of_ble_eq_true rfl) ?_
                refine e_iconst (v := -1) dX11_join_51 rfl ?_
                first | ((with_reducible refine mk_mo ?_); refine p_icmp_ne (tgt := 66) dX11_join_52 (by decide) (fun h52 => ?_) (fun h52 => ?_)) | ((with_reducible refine mk_ms ?_); refine s_icmp_ne (tgt := 66) dX11_join_52 (by decide) (by omega) (fun h52 => ?_) (fun h52 => ?_)) | ((with_reducible refine mk_mn ?_); refine q_icmp_ne (tgt := 66) dX11_join_52 (by decide) (by omega) (fun h52 => ?_) (fun h52 => ?_)) | ((with_reducible refine mk_nn ?_); refine n_icmp_ne (tgt := 66) dX11_join_52 (by decide) (by omega) (by omega) (fun h52 => ?_) (fun h52 => ?_)) | refine e_icmp_ne (tgt := 66) dX11_join_52 (by decide) (fun h52 => ?_) (fun h52 => ?_)
                · try first | contradiction | omega
                  all_goals
                    refine e_iconst (v := -1) dX11_join_66 rfl ?_
                    refine e_ret (some _) rfl (r_int dX11_join_67 rfl) ?_
                    exact xq rfl rfl rfl rfl rfl rfl
                · try first | contradiction | omega
                  all_goals
                    refine e_aload_n dX11_join_55 rfl rfl ?_
                    refine e_iload_n dX11_join_56 rfl rfl ?_
                    refine e_iconst (v := nI 1) dX11_join_57 rfl ?_
                    first | ((with_reducible refine mk_nn ?_); refine n_iadd dX11_join_58 ?_) | refine e_iadd dX11_join_58 ?_
                    refine x_V1 (M' := mX11_moveOfSpan) dX11_join_59 ml_X11_79 ok_X11_moveOfSpan (by decide) rfl im_X11_moveOfSpan se_X11_moveOfSpan (by contradiction) (Nat.le_of_ble_eq_true rfl) (by decide) (Nat.le_of_ble_eq_true rfl) ?_
                    refine e_iconst (v := -1) dX11_join_62 rfl ?_
                    first | ((with_reducible refine mk_mo ?_); refine p_icmp_eq (tgt := 68) dX11_join_63 (by decide) (fun h63 => ?_) (fun h63 => ?_)) | ((with_reducible refine mk_ms ?_); refine s_icmp_eq (tgt := 68) dX11_join_63 (by decide) (by omega) (fun h63 => ?_) (fun h63 => ?_)) | ((with_reducible refine mk_mn ?_); refine q_icmp_eq (tgt := 68) dX11_join_63 (by decide) (by omega) (fun h63 => ?_) (fun h63 => ?_)) | ((with_reducible refine mk_nn ?_); refine n_icmp_eq (tgt := 68) dX11_join_63 (by decide) (by omega) (by omega) (fun h63 => ?_) (fun h63 => ?_)) | refine e_icmp_eq (tgt := 68) dX11_join_63 (by decide) (fun h63 => ?_) (fun h63 => ?_)
                    · try first | contradiction | omega
                      all_goals
                        contradiction
                    · try first | contradiction | omega
                      all_goals
                        refine e_iconst (v := -1) dX11_join_66 rfl ?_
                        refine e_ret (some _) rfl (r_int dX11_join_67 rfl) ?_
                        exact xq rfl rfl rfl rfl rfl rfl
  | some i =>
    obtain ⟨hi, k0, hk0, rfl, hkc, hlk, -⟩ := nmO_lt iv hnm
    have hoi := iv_own iv hi
    by_cases hlast : i + 1 = w 1
    · have eb : joiB w (some i) = false := by unfold joiB; simp [hlast]
      have e1 : jonR w (some i) = -1 := by unfold jonR; rw [eb]; rfl
      have e2 : jonW w (some i) = w := by unfold jonW; rw [eb]; rfl
      have e3 : jonA ai u sc w (some i) = ai := by unfold jonA; rw [eb]; rfl
      have e4 : jonF fi u sc w (some i) = fi := by unfold jonF; rw [eb]; rfl
      rw [e1, e2, e3, e4]
      refine e_aload_n dX11_join_0 rfl rfl ?_
      refine e_iload_n dX11_join_1 rfl rfl ?_
      refine x_V1 (M' := mX11_named) dX11_join_2 ml_X11_100 ok_X11_named (by decide) rfl im_X11_named se_X11_named (ct_X11_named ‹_› ‹_› _) (Nat.le_of_ble_eq_true rfl) (by decide) (Nat.le_of_ble_eq_true rfl) ?_
      rw [hnm]; try rw [oI_s]
      refine e_istore_n dX11_join_5 rfl (Nat.le_of_ble_eq_true rfl) rfl ?_
      refine e_iload_n dX11_join_6 rfl rfl ?_
      refine e_iconst (v := -1) dX11_join_7 rfl ?_
      first | ((with_reducible refine mk_mo ?_); refine p_icmp_eq (tgt := 66) dX11_join_8 (by decide) (fun h8 => ?_) (fun h8 => ?_)) | ((with_reducible refine mk_ms ?_); refine s_icmp_eq (tgt := 66) dX11_join_8 (by decide) (by omega) (fun h8 => ?_) (fun h8 => ?_)) | ((with_reducible refine mk_mn ?_); refine q_icmp_eq (tgt := 66) dX11_join_8 (by decide) (by omega) (fun h8 => ?_) (fun h8 => ?_)) | ((with_reducible refine mk_nn ?_); refine n_icmp_eq (tgt := 66) dX11_join_8 (by decide) (by omega) (by omega) (fun h8 => ?_) (fun h8 => ?_)) | refine e_icmp_eq (tgt := 66) dX11_join_8 (by decide) (fun h8 => ?_) (fun h8 => ?_)
      · try first | contradiction | omega
        all_goals
          refine e_iconst (v := -1) dX11_join_66 rfl ?_
          refine e_ret (some _) rfl (r_int dX11_join_67 rfl) ?_
          exact xq rfl rfl rfl rfl rfl rfl
      · try first | contradiction | omega
        all_goals
          refine e_iload_n dX11_join_11 rfl rfl ?_
          refine e_iconst (v := nI 1) dX11_join_12 rfl ?_
          first | ((with_reducible refine mk_nn ?_); refine n_iadd dX11_join_13 ?_) | refine e_iadd dX11_join_13 ?_
          refine e_aload_n dX11_join_14 rfl rfl ?_
          refine e_getR dX11_join_15 fl_X11_7 rfl (by assumption) ?_
          refine e_iconst (v := nI 1) dX11_join_18 rfl ?_
          first | ((with_reducible refine mk_ldw ?_); refine e_ldw dX11_join_19 (by omega) ?_) | refine e_iald _ dX11_join_19 ⟨by decide, by decide⟩ rfl rfl (by simp only [lenK]; omega) ?_
          first | ((with_reducible refine mk_mo ?_); refine p_icmp_eq (tgt := 66) dX11_join_20 (by decide) (fun h20 => ?_) (fun h20 => ?_)) | ((with_reducible refine mk_ms ?_); refine s_icmp_eq (tgt := 66) dX11_join_20 (by decide) (by omega) (fun h20 => ?_) (fun h20 => ?_)) | ((with_reducible refine mk_mn ?_); refine q_icmp_eq (tgt := 66) dX11_join_20 (by decide) (by omega) (fun h20 => ?_) (fun h20 => ?_)) | ((with_reducible refine mk_nn ?_); refine n_icmp_eq (tgt := 66) dX11_join_20 (by decide) (by omega) (by omega) (fun h20 => ?_) (fun h20 => ?_)) | refine e_icmp_eq (tgt := 66) dX11_join_20 (by decide) (fun h20 => ?_) (fun h20 => ?_)
          · try first | contradiction | omega
            all_goals
              refine e_iconst (v := -1) dX11_join_66 rfl ?_
              refine e_ret (some _) rfl (r_int dX11_join_67 rfl) ?_
              exact xq rfl rfl rfl rfl rfl rfl
          · try first | contradiction | omega
            all_goals
              contradiction
    · have hoi2 := iv_own iv (i := i + 1) (by omega)
      rw [← Nat.add_assoc] at hoi2
      cases hb : joiB w (some i) with
      | false =>
        have eb := hb
        have e1 : jonR w (some i) = -1 := by unfold jonR; rw [eb]; rfl
        have e2 : jonW w (some i) = w := by unfold jonW; rw [eb]; rfl
        have e3 : jonA ai u sc w (some i) = ai := by unfold jonA; rw [eb]; rfl
        have e4 : jonF fi u sc w (some i) = fi := by unfold jonF; rw [eb]; rfl
        rw [e1, e2, e3, e4]
        unfold joiB at hb
        cases hm1 : mvL w (w (10 + i)) with
        | none =>
          cases hm2 : mvL w (w (10 + (i + 1))) with
          | none =>
            refine e_aload_n dX11_join_0 rfl rfl ?_
            refine e_iload_n dX11_join_1 rfl rfl ?_
            refine x_V1 (M' := mX11_named) dX11_join_2 ml_X11_100 ok_X11_named (by decide) rfl im_X11_named se_X11_named (ct_X11_named ‹_› ‹_› _) (Nat.le_of_ble_eq_true rfl) (by decide) (Nat.le_of_ble_eq_true rfl) ?_
            rw [hnm]; try rw [oI_s]
            refine e_istore_n dX11_join_5 rfl (Nat.le_of_ble_eq_true rfl) rfl ?_
            refine e_iload_n dX11_join_6 rfl rfl ?_
            refine e_iconst (v := -1) dX11_join_7 rfl ?_
            first | ((with_reducible refine mk_mo ?_); refine p_icmp_eq (tgt := 66) dX11_join_8 (by decide) (fun h8 => ?_) (fun h8 => ?_)) | ((with_reducible refine mk_ms ?_); refine s_icmp_eq (tgt := 66) dX11_join_8 (by decide) (by omega) (fun h8 => ?_) (fun h8 => ?_)) | ((with_reducible refine mk_mn ?_); refine q_icmp_eq (tgt := 66) dX11_join_8 (by decide) (by omega) (fun h8 => ?_) (fun h8 => ?_)) | ((with_reducible refine mk_nn ?_); refine n_icmp_eq (tgt := 66) dX11_join_8 (by decide) (by omega) (by omega) (fun h8 => ?_) (fun h8 => ?_)) | refine e_icmp_eq (tgt := 66) dX11_join_8 (by decide) (fun h8 => ?_) (fun h8 => ?_)
            · try first | contradiction | omega
              all_goals
                refine e_iconst (v := -1) dX11_join_66 rfl ?_
                refine e_ret (some _) rfl (r_int dX11_join_67 rfl) ?_
                exact xq rfl rfl rfl rfl rfl rfl
            · try first | contradiction | omega
              all_goals
                refine e_iload_n dX11_join_11 rfl rfl ?_
                refine e_iconst (v := nI 1) dX11_join_12 rfl ?_
                first | ((with_reducible refine mk_nn ?_); refine n_iadd dX11_join_13 ?_) | refine e_iadd dX11_join_13 ?_
                refine e_aload_n dX11_join_14 rfl rfl ?_
                refine e_getR dX11_join_15 fl_X11_7 rfl (by assumption) ?_
                refine e_iconst (v := nI 1) dX11_join_18 rfl ?_
                first | ((with_reducible refine mk_ldw ?_); refine e_ldw dX11_join_19 (by omega) ?_) | refine e_iald _ dX11_join_19 ⟨by decide, by decide⟩ rfl rfl (by simp only [lenK]; omega) ?_
                first | ((with_reducible refine mk_mo ?_); refine p_icmp_eq (tgt := 66) dX11_join_20 (by decide) (fun h20 => ?_) (fun h20 => ?_)) | ((with_reducible refine mk_ms ?_); refine s_icmp_eq (tgt := 66) dX11_join_20 (by decide) (by omega) (fun h20 => ?_) (fun h20 => ?_)) | ((with_reducible refine mk_mn ?_); refine q_icmp_eq (tgt := 66) dX11_join_20 (by decide) (by omega) (fun h20 => ?_) (fun h20 => ?_)) | ((with_reducible refine mk_nn ?_); refine n_icmp_eq (tgt := 66) dX11_join_20 (by decide) (by omega) (by omega) (fun h20 => ?_) (fun h20 => ?_)) | refine e_icmp_eq (tgt := 66) dX11_join_20 (by decide) (fun h20 => ?_) (fun h20 => ?_)
                · try first | contradiction | omega
                  all_goals
                    refine e_iconst (v := -1) dX11_join_66 rfl ?_
                    refine e_ret (some _) rfl (r_int dX11_join_67 rfl) ?_
                    exact xq rfl rfl rfl rfl rfl rfl
                · try first | contradiction | omega
                  all_goals
                    refine e_aload_n dX11_join_23 rfl rfl ?_
                    refine e_getR dX11_join_24 fl_X11_7 rfl (by assumption) ?_
                    refine e_bipush (v := nI 42) dX11_join_27 rfl ?_
                    refine e_iload_n dX11_join_29 rfl rfl ?_
                    first | ((with_reducible refine mk_nn ?_); refine n_iadd dX11_join_30 ?_) | refine e_iadd dX11_join_30 ?_
                    first | ((with_reducible refine mk_ldw ?_); refine e_ldw dX11_join_31 (by omega) ?_) | refine e_iald _ dX11_join_31 ⟨by decide, by decide⟩ rfl rfl (by simp only [lenK]; omega) ?_
                    refine e_aload_n dX11_join_32 rfl rfl ?_
                    refine e_getR dX11_join_33 fl_X11_7 rfl (by assumption) ?_
                    refine e_bipush (v := nI 42) dX11_join_36 rfl ?_
                    refine e_iload_n dX11_join_38 rfl rfl ?_
                    first | ((with_reducible refine mk_nn ?_); refine n_iadd dX11_join_39 ?_) | refine e_iadd dX11_join_39 ?_
                    refine e_iconst (v := nI 1) dX11_join_40 rfl ?_
                    first | ((with_reducible refine mk_nn ?_); refine n_iadd dX11_join_41 ?_) | refine e_iadd dX11_join_41 ?_
                    first | ((with_reducible refine mk_ldw ?_); refine e_ldw dX11_join_42 (by omega) ?_) | refine e_iald _ dX11_join_42 ⟨by decide, by decide⟩ rfl rfl (by simp only [lenK]; omega) ?_
                    first | ((with_reducible refine mk_mo ?_); refine p_icmp_ne (tgt := 66) dX11_join_43 (by decide) (fun h43 => ?_) (fun h43 => ?_)) | ((with_reducible refine mk_ms ?_); refine s_icmp_ne (tgt := 66) dX11_join_43 (by decide) (by omega) (fun h43 => ?_) (fun h43 => ?_)) | ((with_reducible refine mk_mn ?_); refine q_icmp_ne (tgt := 66) dX11_join_43 (by decide) (by omega) (fun h43 => ?_) (fun h43 => ?_)) | ((with_reducible refine mk_nn ?_); refine n_icmp_ne (tgt := 66) dX11_join_43 (by decide) (by omega) (by omega) (fun h43 => ?_) (fun h43 => ?_)) | refine e_icmp_ne (tgt := 66) dX11_join_43 (by decide) (fun h43 => ?_) (fun h43 => ?_)
                    · try first | contradiction | omega
                      all_goals
                        refine e_iconst (v := -1) dX11_join_66 rfl ?_
                        refine e_ret (some _) rfl (r_int dX11_join_67 rfl) ?_
                        exact xq rfl rfl rfl rfl rfl rfl
                    · try first | contradiction | omega
                      all_goals
                        refine e_aload_n dX11_join_46 rfl rfl ?_
                        refine e_iload_n dX11_join_47 rfl rfl ?_
                        refine x_V1 (M' := mX11_moveOfSpan) dX11_join_48 ml_X11_79 ok_X11_moveOfSpan (by decide) rfl im_X11_moveOfSpan se_X11_moveOfSpan (ct_X11_moveOfSpan ‹_› ‹_› (by omega)) (Nat.le_of_ble_eq_true rfl) (by decide) (Nat.le_of_ble_eq_true rfl) ?_
                        rw [hm1]
                        refine e_iconst (v := -1) dX11_join_51 rfl ?_
                        first | ((with_reducible refine mk_mo ?_); refine p_icmp_ne (tgt := 66) dX11_join_52 (by decide) (fun h52 => ?_) (fun h52 => ?_)) | ((with_reducible refine mk_ms ?_); refine s_icmp_ne (tgt := 66) dX11_join_52 (by decide) (by omega) (fun h52 => ?_) (fun h52 => ?_)) | ((with_reducible refine mk_mn ?_); refine q_icmp_ne (tgt := 66) dX11_join_52 (by decide) (by omega) (fun h52 => ?_) (fun h52 => ?_)) | ((with_reducible refine mk_nn ?_); refine n_icmp_ne (tgt := 66) dX11_join_52 (by decide) (by omega) (by omega) (fun h52 => ?_) (fun h52 => ?_)) | refine e_icmp_ne (tgt := 66) dX11_join_52 (by decide) (fun h52 => ?_) (fun h52 => ?_)
                        · try first | contradiction | omega
                          all_goals
                            refine e_iconst (v := -1) dX11_join_66 rfl ?_
                            refine e_ret (some _) rfl (r_int dX11_join_67 rfl) ?_
                            exact xq rfl rfl rfl rfl rfl rfl
                        · try first | contradiction | omega
                          all_goals
                            refine e_aload_n dX11_join_55 rfl rfl ?_
                            refine e_iload_n dX11_join_56 rfl rfl ?_
                            refine e_iconst (v := nI 1) dX11_join_57 rfl ?_
                            first | ((with_reducible refine mk_nn ?_); refine n_iadd dX11_join_58 ?_) | refine e_iadd dX11_join_58 ?_
                            refine x_V1 (M' := mX11_moveOfSpan) dX11_join_59 ml_X11_79 ok_X11_moveOfSpan (by decide) rfl im_X11_moveOfSpan se_X11_moveOfSpan (ct_X11_moveOfSpan ‹_› ‹_› (by omega)) (Nat.le_of_ble_eq_true rfl) (by decide) (Nat.le_of_ble_eq_true rfl) ?_
                            rw [hm2]
                            refine e_iconst (v := -1) dX11_join_62 rfl ?_
                            first | ((with_reducible refine mk_mo ?_); refine p_icmp_eq (tgt := 68) dX11_join_63 (by decide) (fun h63 => ?_) (fun h63 => ?_)) | ((with_reducible refine mk_ms ?_); refine s_icmp_eq (tgt := 68) dX11_join_63 (by decide) (by omega) (fun h63 => ?_) (fun h63 => ?_)) | ((with_reducible refine mk_mn ?_); refine q_icmp_eq (tgt := 68) dX11_join_63 (by decide) (by omega) (fun h63 => ?_) (fun h63 => ?_)) | ((with_reducible refine mk_nn ?_); refine n_icmp_eq (tgt := 68) dX11_join_63 (by decide) (by omega) (by omega) (fun h63 => ?_) (fun h63 => ?_)) | refine e_icmp_eq (tgt := 68) dX11_join_63 (by decide) (fun h63 => ?_) (fun h63 => ?_)
                            · try first | contradiction | omega
                              all_goals
                                grind
                            · try first | contradiction | omega
                              all_goals
                                refine e_iconst (v := -1) dX11_join_66 rfl ?_
                                refine e_ret (some _) rfl (r_int dX11_join_67 rfl) ?_
                                exact xq rfl rfl rfl rfl rfl rfl
          | some m2 =>
            have hm2l := mvL_lt hm2
            refine e_aload_n dX11_join_0 rfl rfl ?_
            refine e_iload_n dX11_join_1 rfl rfl ?_
            refine x_V1 (M' := mX11_named) dX11_join_2 ml_X11_100 ok_X11_named (by decide) rfl im_X11_named se_X11_named (ct_X11_named ‹_› ‹_› _) (Nat.le_of_ble_eq_true rfl) (by decide) (Nat.le_of_ble_eq_true rfl) ?_
            rw [hnm]; try rw [oI_s]
            refine e_istore_n dX11_join_5 rfl (Nat.le_of_ble_eq_true rfl) rfl ?_
            refine e_iload_n dX11_join_6 rfl rfl ?_
            refine e_iconst (v := -1) dX11_join_7 rfl ?_
            first | ((with_reducible refine mk_mo ?_); refine p_icmp_eq (tgt := 66) dX11_join_8 (by decide) (fun h8 => ?_) (fun h8 => ?_)) | ((with_reducible refine mk_ms ?_); refine s_icmp_eq (tgt := 66) dX11_join_8 (by decide) (by omega) (fun h8 => ?_) (fun h8 => ?_)) | ((with_reducible refine mk_mn ?_); refine q_icmp_eq (tgt := 66) dX11_join_8 (by decide) (by omega) (fun h8 => ?_) (fun h8 => ?_)) | ((with_reducible refine mk_nn ?_); refine n_icmp_eq (tgt := 66) dX11_join_8 (by decide) (by omega) (by omega) (fun h8 => ?_) (fun h8 => ?_)) | refine e_icmp_eq (tgt := 66) dX11_join_8 (by decide) (fun h8 => ?_) (fun h8 => ?_)
            · try first | contradiction | omega
              all_goals
                refine e_iconst (v := -1) dX11_join_66 rfl ?_
                refine e_ret (some _) rfl (r_int dX11_join_67 rfl) ?_
                exact xq rfl rfl rfl rfl rfl rfl
            · try first | contradiction | omega
              all_goals
                refine e_iload_n dX11_join_11 rfl rfl ?_
                refine e_iconst (v := nI 1) dX11_join_12 rfl ?_
                first | ((with_reducible refine mk_nn ?_); refine n_iadd dX11_join_13 ?_) | refine e_iadd dX11_join_13 ?_
                refine e_aload_n dX11_join_14 rfl rfl ?_
                refine e_getR dX11_join_15 fl_X11_7 rfl (by assumption) ?_
                refine e_iconst (v := nI 1) dX11_join_18 rfl ?_
                first | ((with_reducible refine mk_ldw ?_); refine e_ldw dX11_join_19 (by omega) ?_) | refine e_iald _ dX11_join_19 ⟨by decide, by decide⟩ rfl rfl (by simp only [lenK]; omega) ?_
                first | ((with_reducible refine mk_mo ?_); refine p_icmp_eq (tgt := 66) dX11_join_20 (by decide) (fun h20 => ?_) (fun h20 => ?_)) | ((with_reducible refine mk_ms ?_); refine s_icmp_eq (tgt := 66) dX11_join_20 (by decide) (by omega) (fun h20 => ?_) (fun h20 => ?_)) | ((with_reducible refine mk_mn ?_); refine q_icmp_eq (tgt := 66) dX11_join_20 (by decide) (by omega) (fun h20 => ?_) (fun h20 => ?_)) | ((with_reducible refine mk_nn ?_); refine n_icmp_eq (tgt := 66) dX11_join_20 (by decide) (by omega) (by omega) (fun h20 => ?_) (fun h20 => ?_)) | refine e_icmp_eq (tgt := 66) dX11_join_20 (by decide) (fun h20 => ?_) (fun h20 => ?_)
                · try first | contradiction | omega
                  all_goals
                    refine e_iconst (v := -1) dX11_join_66 rfl ?_
                    refine e_ret (some _) rfl (r_int dX11_join_67 rfl) ?_
                    exact xq rfl rfl rfl rfl rfl rfl
                · try first | contradiction | omega
                  all_goals
                    refine e_aload_n dX11_join_23 rfl rfl ?_
                    refine e_getR dX11_join_24 fl_X11_7 rfl (by assumption) ?_
                    refine e_bipush (v := nI 42) dX11_join_27 rfl ?_
                    refine e_iload_n dX11_join_29 rfl rfl ?_
                    first | ((with_reducible refine mk_nn ?_); refine n_iadd dX11_join_30 ?_) | refine e_iadd dX11_join_30 ?_
                    first | ((with_reducible refine mk_ldw ?_); refine e_ldw dX11_join_31 (by omega) ?_) | refine e_iald _ dX11_join_31 ⟨by decide, by decide⟩ rfl rfl (by simp only [lenK]; omega) ?_
                    refine e_aload_n dX11_join_32 rfl rfl ?_
                    refine e_getR dX11_join_33 fl_X11_7 rfl (by assumption) ?_
                    refine e_bipush (v := nI 42) dX11_join_36 rfl ?_
                    refine e_iload_n dX11_join_38 rfl rfl ?_
                    first | ((with_reducible refine mk_nn ?_); refine n_iadd dX11_join_39 ?_) | refine e_iadd dX11_join_39 ?_
                    refine e_iconst (v := nI 1) dX11_join_40 rfl ?_
                    first | ((with_reducible refine mk_nn ?_); refine n_iadd dX11_join_41 ?_) | refine e_iadd dX11_join_41 ?_
                    first | ((with_reducible refine mk_ldw ?_); refine e_ldw dX11_join_42 (by omega) ?_) | refine e_iald _ dX11_join_42 ⟨by decide, by decide⟩ rfl rfl (by simp only [lenK]; omega) ?_
                    first | ((with_reducible refine mk_mo ?_); refine p_icmp_ne (tgt := 66) dX11_join_43 (by decide) (fun h43 => ?_) (fun h43 => ?_)) | ((with_reducible refine mk_ms ?_); refine s_icmp_ne (tgt := 66) dX11_join_43 (by decide) (by omega) (fun h43 => ?_) (fun h43 => ?_)) | ((with_reducible refine mk_mn ?_); refine q_icmp_ne (tgt := 66) dX11_join_43 (by decide) (by omega) (fun h43 => ?_) (fun h43 => ?_)) | ((with_reducible refine mk_nn ?_); refine n_icmp_ne (tgt := 66) dX11_join_43 (by decide) (by omega) (by omega) (fun h43 => ?_) (fun h43 => ?_)) | refine e_icmp_ne (tgt := 66) dX11_join_43 (by decide) (fun h43 => ?_) (fun h43 => ?_)
                    · try first | contradiction | omega
                      all_goals
                        refine e_iconst (v := -1) dX11_join_66 rfl ?_
                        refine e_ret (some _) rfl (r_int dX11_join_67 rfl) ?_
                        exact xq rfl rfl rfl rfl rfl rfl
                    · try first | contradiction | omega
                      all_goals
                        refine e_aload_n dX11_join_46 rfl rfl ?_
                        refine e_iload_n dX11_join_47 rfl rfl ?_
                        refine x_V1 (M' := mX11_moveOfSpan) dX11_join_48 ml_X11_79 ok_X11_moveOfSpan (by decide) rfl im_X11_moveOfSpan se_X11_moveOfSpan (ct_X11_moveOfSpan ‹_› ‹_› (by omega)) (Nat.le_of_ble_eq_true rfl) (by decide) (Nat.le_of_ble_eq_true rfl) ?_
                        rw [hm1]
                        refine e_iconst (v := -1) dX11_join_51 rfl ?_
                        first | ((with_reducible refine mk_mo ?_); refine p_icmp_ne (tgt := 66) dX11_join_52 (by decide) (fun h52 => ?_) (fun h52 => ?_)) | ((with_reducible refine mk_ms ?_); refine s_icmp_ne (tgt := 66) dX11_join_52 (by decide) (by omega) (fun h52 => ?_) (fun h52 => ?_)) | ((with_reducible refine mk_mn ?_); refine q_icmp_ne (tgt := 66) dX11_join_52 (by decide) (by omega) (fun h52 => ?_) (fun h52 => ?_)) | ((with_reducible refine mk_nn ?_); refine n_icmp_ne (tgt := 66) dX11_join_52 (by decide) (by omega) (by omega) (fun h52 => ?_) (fun h52 => ?_)) | refine e_icmp_ne (tgt := 66) dX11_join_52 (by decide) (fun h52 => ?_) (fun h52 => ?_)
                        · try first | contradiction | omega
                          all_goals
                            refine e_iconst (v := -1) dX11_join_66 rfl ?_
                            refine e_ret (some _) rfl (r_int dX11_join_67 rfl) ?_
                            exact xq rfl rfl rfl rfl rfl rfl
                        · try first | contradiction | omega
                          all_goals
                            refine e_aload_n dX11_join_55 rfl rfl ?_
                            refine e_iload_n dX11_join_56 rfl rfl ?_
                            refine e_iconst (v := nI 1) dX11_join_57 rfl ?_
                            first | ((with_reducible refine mk_nn ?_); refine n_iadd dX11_join_58 ?_) | refine e_iadd dX11_join_58 ?_
                            refine x_V1 (M' := mX11_moveOfSpan) dX11_join_59 ml_X11_79 ok_X11_moveOfSpan (by decide) rfl im_X11_moveOfSpan se_X11_moveOfSpan (ct_X11_moveOfSpan ‹_› ‹_› (by omega)) (Nat.le_of_ble_eq_true rfl) (by decide) (Nat.le_of_ble_eq_true rfl) ?_
                            rw [hm2]
                            refine e_iconst (v := -1) dX11_join_62 rfl ?_
                            first | ((with_reducible refine mk_mo ?_); refine p_icmp_eq (tgt := 68) dX11_join_63 (by decide) (fun h63 => ?_) (fun h63 => ?_)) | ((with_reducible refine mk_ms ?_); refine s_icmp_eq (tgt := 68) dX11_join_63 (by decide) (by omega) (fun h63 => ?_) (fun h63 => ?_)) | ((with_reducible refine mk_mn ?_); refine q_icmp_eq (tgt := 68) dX11_join_63 (by decide) (by omega) (fun h63 => ?_) (fun h63 => ?_)) | ((with_reducible refine mk_nn ?_); refine n_icmp_eq (tgt := 68) dX11_join_63 (by decide) (by omega) (by omega) (fun h63 => ?_) (fun h63 => ?_)) | refine e_icmp_eq (tgt := 68) dX11_join_63 (by decide) (fun h63 => ?_) (fun h63 => ?_)
                            · try first | contradiction | omega
                              all_goals
                                grind
                            · try first | contradiction | omega
                              all_goals
                                refine e_iconst (v := -1) dX11_join_66 rfl ?_
                                refine e_ret (some _) rfl (r_int dX11_join_67 rfl) ?_
                                exact xq rfl rfl rfl rfl rfl rfl
        | some m1 =>
          have hm1l := mvL_lt hm1
          refine e_aload_n dX11_join_0 rfl rfl ?_
          refine e_iload_n dX11_join_1 rfl rfl ?_
          refine x_V1 (M' := mX11_named) dX11_join_2 ml_X11_100 ok_X11_named (by decide) rfl im_X11_named se_X11_named (ct_X11_named ‹_› ‹_› _) (Nat.le_of_ble_eq_true rfl) (by decide) (Nat.le_of_ble_eq_true rfl) ?_
          rw [hnm]; try rw [oI_s]
          refine e_istore_n dX11_join_5 rfl (Nat.le_of_ble_eq_true rfl) rfl ?_
          refine e_iload_n dX11_join_6 rfl rfl ?_
          refine e_iconst (v := -1) dX11_join_7 rfl ?_
          first | ((with_reducible refine mk_mo ?_); refine p_icmp_eq (tgt := 66) dX11_join_8 (by decide) (fun h8 => ?_) (fun h8 => ?_)) | ((with_reducible refine mk_ms ?_); refine s_icmp_eq (tgt := 66) dX11_join_8 (by decide) (by omega) (fun h8 => ?_) (fun h8 => ?_)) | ((with_reducible refine mk_mn ?_); refine q_icmp_eq (tgt := 66) dX11_join_8 (by decide) (by omega) (fun h8 => ?_) (fun h8 => ?_)) | ((with_reducible refine mk_nn ?_); refine n_icmp_eq (tgt := 66) dX11_join_8 (by decide) (by omega) (by omega) (fun h8 => ?_) (fun h8 => ?_)) | refine e_icmp_eq (tgt := 66) dX11_join_8 (by decide) (fun h8 => ?_) (fun h8 => ?_)
          · try first | contradiction | omega
            all_goals
              refine e_iconst (v := -1) dX11_join_66 rfl ?_
              refine e_ret (some _) rfl (r_int dX11_join_67 rfl) ?_
              exact xq rfl rfl rfl rfl rfl rfl
          · try first | contradiction | omega
            all_goals
              refine e_iload_n dX11_join_11 rfl rfl ?_
              refine e_iconst (v := nI 1) dX11_join_12 rfl ?_
              first | ((with_reducible refine mk_nn ?_); refine n_iadd dX11_join_13 ?_) | refine e_iadd dX11_join_13 ?_
              refine e_aload_n dX11_join_14 rfl rfl ?_
              refine e_getR dX11_join_15 fl_X11_7 rfl (by assumption) ?_
              refine e_iconst (v := nI 1) dX11_join_18 rfl ?_
              first | ((with_reducible refine mk_ldw ?_); refine e_ldw dX11_join_19 (by omega) ?_) | refine e_iald _ dX11_join_19 ⟨by decide, by decide⟩ rfl rfl (by simp only [lenK]; omega) ?_
              first | ((with_reducible refine mk_mo ?_); refine p_icmp_eq (tgt := 66) dX11_join_20 (by decide) (fun h20 => ?_) (fun h20 => ?_)) | ((with_reducible refine mk_ms ?_); refine s_icmp_eq (tgt := 66) dX11_join_20 (by decide) (by omega) (fun h20 => ?_) (fun h20 => ?_)) | ((with_reducible refine mk_mn ?_); refine q_icmp_eq (tgt := 66) dX11_join_20 (by decide) (by omega) (fun h20 => ?_) (fun h20 => ?_)) | ((with_reducible refine mk_nn ?_); refine n_icmp_eq (tgt := 66) dX11_join_20 (by decide) (by omega) (by omega) (fun h20 => ?_) (fun h20 => ?_)) | refine e_icmp_eq (tgt := 66) dX11_join_20 (by decide) (fun h20 => ?_) (fun h20 => ?_)
              · try first | contradiction | omega
                all_goals
                  refine e_iconst (v := -1) dX11_join_66 rfl ?_
                  refine e_ret (some _) rfl (r_int dX11_join_67 rfl) ?_
                  exact xq rfl rfl rfl rfl rfl rfl
              · try first | contradiction | omega
                all_goals
                  refine e_aload_n dX11_join_23 rfl rfl ?_
                  refine e_getR dX11_join_24 fl_X11_7 rfl (by assumption) ?_
                  refine e_bipush (v := nI 42) dX11_join_27 rfl ?_
                  refine e_iload_n dX11_join_29 rfl rfl ?_
                  first | ((with_reducible refine mk_nn ?_); refine n_iadd dX11_join_30 ?_) | refine e_iadd dX11_join_30 ?_
                  first | ((with_reducible refine mk_ldw ?_); refine e_ldw dX11_join_31 (by omega) ?_) | refine e_iald _ dX11_join_31 ⟨by decide, by decide⟩ rfl rfl (by simp only [lenK]; omega) ?_
                  refine e_aload_n dX11_join_32 rfl rfl ?_
                  refine e_getR dX11_join_33 fl_X11_7 rfl (by assumption) ?_
                  refine e_bipush (v := nI 42) dX11_join_36 rfl ?_
                  refine e_iload_n dX11_join_38 rfl rfl ?_
                  first | ((with_reducible refine mk_nn ?_); refine n_iadd dX11_join_39 ?_) | refine e_iadd dX11_join_39 ?_
                  refine e_iconst (v := nI 1) dX11_join_40 rfl ?_
                  first | ((with_reducible refine mk_nn ?_); refine n_iadd dX11_join_41 ?_) | refine e_iadd dX11_join_41 ?_
                  first | ((with_reducible refine mk_ldw ?_); refine e_ldw dX11_join_42 (by omega) ?_) | refine e_iald _ dX11_join_42 ⟨by decide, by decide⟩ rfl rfl (by simp only [lenK]; omega) ?_
                  first | ((with_reducible refine mk_mo ?_); refine p_icmp_ne (tgt := 66) dX11_join_43 (by decide) (fun h43 => ?_) (fun h43 => ?_)) | ((with_reducible refine mk_ms ?_); refine s_icmp_ne (tgt := 66) dX11_join_43 (by decide) (by omega) (fun h43 => ?_) (fun h43 => ?_)) | ((with_reducible refine mk_mn ?_); refine q_icmp_ne (tgt := 66) dX11_join_43 (by decide) (by omega) (fun h43 => ?_) (fun h43 => ?_)) | ((with_reducible refine mk_nn ?_); refine n_icmp_ne (tgt := 66) dX11_join_43 (by decide) (by omega) (by omega) (fun h43 => ?_) (fun h43 => ?_)) | refine e_icmp_ne (tgt := 66) dX11_join_43 (by decide) (fun h43 => ?_) (fun h43 => ?_)
                  · try first | contradiction | omega
                    all_goals
                      refine e_iconst (v := -1) dX11_join_66 rfl ?_
                      refine e_ret (some _) rfl (r_int dX11_join_67 rfl) ?_
                      exact xq rfl rfl rfl rfl rfl rfl
                  · try first | contradiction | omega
                    all_goals
                      refine e_aload_n dX11_join_46 rfl rfl ?_
                      refine e_iload_n dX11_join_47 rfl rfl ?_
                      refine x_V1 (M' := mX11_moveOfSpan) dX11_join_48 ml_X11_79 ok_X11_moveOfSpan (by decide) rfl im_X11_moveOfSpan se_X11_moveOfSpan (ct_X11_moveOfSpan ‹_› ‹_› (by omega)) (Nat.le_of_ble_eq_true rfl) (by decide) (Nat.le_of_ble_eq_true rfl) ?_
                      rw [hm1]
                      refine e_iconst (v := -1) dX11_join_51 rfl ?_
                      first | ((with_reducible refine mk_mo ?_); refine p_icmp_ne (tgt := 66) dX11_join_52 (by decide) (fun h52 => ?_) (fun h52 => ?_)) | ((with_reducible refine mk_ms ?_); refine s_icmp_ne (tgt := 66) dX11_join_52 (by decide) (by omega) (fun h52 => ?_) (fun h52 => ?_)) | ((with_reducible refine mk_mn ?_); refine q_icmp_ne (tgt := 66) dX11_join_52 (by decide) (by omega) (fun h52 => ?_) (fun h52 => ?_)) | ((with_reducible refine mk_nn ?_); refine n_icmp_ne (tgt := 66) dX11_join_52 (by decide) (by omega) (by omega) (fun h52 => ?_) (fun h52 => ?_)) | refine e_icmp_ne (tgt := 66) dX11_join_52 (by decide) (fun h52 => ?_) (fun h52 => ?_)
                      · try first | contradiction | omega
                        all_goals
                          refine e_iconst (v := -1) dX11_join_66 rfl ?_
                          refine e_ret (some _) rfl (r_int dX11_join_67 rfl) ?_
                          exact xq rfl rfl rfl rfl rfl rfl
                      · try first | contradiction | omega
                        all_goals
                          contradiction
      | true =>
        have e1 : jonR w (some i) = nI (w 0 + 1) := by unfold jonR; rw [hb]; rfl
        have e2 : jonW w (some i) = joiW w i := by unfold jonW; rw [hb]; rfl
        have e3 : jonA ai u sc w (some i) = joiA ai u sc w i := by unfold jonA; rw [hb]; rfl
        have e4 : jonF fi u sc w (some i) = actF fi u sc := by unfold jonF; rw [hb]; rfl
        rw [e1, e2, e3, e4]
        unfold joiB at hb
        simp only [Bool.and_eq_true, decide_eq_true_eq, Option.isNone_iff_eq_none] at hb
        obtain ⟨⟨⟨hb1, hb2⟩, hm1⟩, hm2⟩ := hb
        have key := ev_up (P := fun j => EV mX11_join 3 0 0 101 [some (.ref (rf 11 80)), some (.int (nI k0)), some (.int (nI i)), some (.int (nI (i + 1 + j)))] [] (actF fi u sc) fr (mW (actA ai u sc w) (jnF (jo2 w i) i j)) ar N (xQ (some (.int (nI (w 0 + 1)))) (actF fi u sc) fr (mW (joiA ai u sc w i) (joiW w i)) ar N)) (w 1 - (i + 1) - 1) (fun j hj ih => by
          have r1 : jnF (jo2 w i) i j 1 = w 1 := by rw [jnF_fr (by omega)]; unfold jo2; simp (disch := omega) only [upN_n]
          have ra : jnF (jo2 w i) i j (10 + (i + 1 + j) + 1) = jo2 w i (10 + (i + 1 + j) + 1) := jnF_fr (by omega)
          have rb : jnF (jo2 w i) i j (42 + (i + 1 + j) + 1) = jo2 w i (42 + (i + 1 + j) + 1) := jnF_fr (by omega)
          have rc : jnF (jo2 w i) i j (74 + (i + 1 + j) + 1) = jo2 w i (74 + (i + 1 + j) + 1) := jnF_fr (by omega)
          refine e_iload_n dX11_join_101 rfl rfl ?_
          refine e_iconst (v := nI 1) dX11_join_102 rfl ?_
          first | ((with_reducible refine mk_nn ?_); refine n_iadd dX11_join_103 ?_) | refine e_iadd dX11_join_103 ?_
          refine e_aload_n dX11_join_104 rfl rfl ?_
          refine e_getR dX11_join_105 fl_X11_7 rfl (by assumption) ?_
          refine e_iconst (v := nI 1) dX11_join_108 rfl ?_
          first | ((with_reducible refine mk_ldw ?_); refine e_ldw dX11_join_109 (by omega) ?_) | refine e_iald _ dX11_join_109 ⟨by decide, by decide⟩ rfl rfl (by simp only [lenK]; omega) ?_
          rw [r1]
          first | ((with_reducible refine mk_nn ?_); refine n_icmp_ge (tgt := 179) dX11_join_110 (by decide) (by omega) (by omega) (fun h110 => ?_) (fun h110 => ?_)) | refine e_icmp_ge (tgt := 179) dX11_join_110 (by decide) (fun h110 => ?_) (fun h110 => ?_)
          · try first | contradiction | omega
            all_goals
              contradiction
          · try first | contradiction | omega
            all_goals
              refine e_aload_n dX11_join_113 rfl rfl ?_
              refine e_getR dX11_join_114 fl_X11_7 rfl (by assumption) ?_
              refine e_bipush (v := nI 10) dX11_join_117 rfl ?_
              refine e_iload_n dX11_join_119 rfl rfl ?_
              first | ((with_reducible refine mk_nn ?_); refine n_iadd dX11_join_120 ?_) | refine e_iadd dX11_join_120 ?_
              refine e_aload_n dX11_join_121 rfl rfl ?_
              refine e_getR dX11_join_122 fl_X11_7 rfl (by assumption) ?_
              refine e_bipush (v := nI 10) dX11_join_125 rfl ?_
              refine e_iload_n dX11_join_127 rfl rfl ?_
              first | ((with_reducible refine mk_nn ?_); refine n_iadd dX11_join_128 ?_) | refine e_iadd dX11_join_128 ?_
              refine e_iconst (v := nI 1) dX11_join_129 rfl ?_
              first | ((with_reducible refine mk_nn ?_); refine n_iadd dX11_join_130 ?_) | refine e_iadd dX11_join_130 ?_
              first | ((with_reducible refine mk_ldw ?_); refine e_ldw dX11_join_131 (by omega) ?_) | refine e_iald _ dX11_join_131 ⟨by decide, by decide⟩ rfl rfl (by simp only [lenK]; omega) ?_
              first | ((with_reducible refine mk_stw ?_); refine e_stw dX11_join_132 (by omega) ?_) | refine e_iast _ dX11_join_132 ⟨by decide, by decide⟩ rfl rfl (by simp only [lenK]; omega) ?_
              refine e_aload_n dX11_join_133 rfl rfl ?_
              refine e_getR dX11_join_134 fl_X11_7 rfl (by assumption) ?_
              refine e_bipush (v := nI 42) dX11_join_137 rfl ?_
              refine e_iload_n dX11_join_139 rfl rfl ?_
              first | ((with_reducible refine mk_nn ?_); refine n_iadd dX11_join_140 ?_) | refine e_iadd dX11_join_140 ?_
              refine e_aload_n dX11_join_141 rfl rfl ?_
              refine e_getR dX11_join_142 fl_X11_7 rfl (by assumption) ?_
              refine e_bipush (v := nI 42) dX11_join_145 rfl ?_
              refine e_iload_n dX11_join_147 rfl rfl ?_
              first | ((with_reducible refine mk_nn ?_); refine n_iadd dX11_join_148 ?_) | refine e_iadd dX11_join_148 ?_
              refine e_iconst (v := nI 1) dX11_join_149 rfl ?_
              first | ((with_reducible refine mk_nn ?_); refine n_iadd dX11_join_150 ?_) | refine e_iadd dX11_join_150 ?_
              first | ((with_reducible refine mk_ldw ?_); refine e_ldw dX11_join_151 (by omega) ?_) | refine e_iald _ dX11_join_151 ⟨by decide, by decide⟩ rfl rfl (by simp only [lenK]; omega) ?_
              first | ((with_reducible refine mk_stw ?_); refine e_stw dX11_join_152 (by omega) ?_) | refine e_iast _ dX11_join_152 ⟨by decide, by decide⟩ rfl rfl (by simp only [lenK]; omega) ?_
              refine e_aload_n dX11_join_153 rfl rfl ?_
              refine e_getR dX11_join_154 fl_X11_7 rfl (by assumption) ?_
              refine e_bipush (v := nI 74) dX11_join_157 rfl ?_
              refine e_iload_n dX11_join_159 rfl rfl ?_
              first | ((with_reducible refine mk_nn ?_); refine n_iadd dX11_join_160 ?_) | refine e_iadd dX11_join_160 ?_
              refine e_aload_n dX11_join_161 rfl rfl ?_
              refine e_getR dX11_join_162 fl_X11_7 rfl (by assumption) ?_
              refine e_bipush (v := nI 74) dX11_join_165 rfl ?_
              refine e_iload_n dX11_join_167 rfl rfl ?_
              first | ((with_reducible refine mk_nn ?_); refine n_iadd dX11_join_168 ?_) | refine e_iadd dX11_join_168 ?_
              refine e_iconst (v := nI 1) dX11_join_169 rfl ?_
              first | ((with_reducible refine mk_nn ?_); refine n_iadd dX11_join_170 ?_) | refine e_iadd dX11_join_170 ?_
              first | ((with_reducible refine mk_ldw ?_); refine e_ldw dX11_join_171 (by omega) ?_) | refine e_iald _ dX11_join_171 ⟨by decide, by decide⟩ rfl rfl (by simp only [lenK]; omega) ?_
              first | ((with_reducible refine mk_stw ?_); refine e_stw dX11_join_172 (by omega) ?_) | refine e_iast _ dX11_join_172 ⟨by decide, by decide⟩ rfl rfl (by simp only [lenK]; omega) ?_
              first | refine n_inc dX11_join_173 rfl (Nat.le_of_ble_eq_true rfl) rfl ?_ | refine e_iinc dX11_join_173 rfl rfl (Nat.le_of_ble_eq_true rfl) rfl ?_
              refine e_goto (tgt := 101) dX11_join_176 (by decide) ?_
              simp (disch := omega) only [upN_n, ra, rb, rc]
              rw [jnF_s (by omega)]
              exact ih
          ) (by
          have r1 : jnF (jo2 w i) i (w 1 - (i + 1) - 1) 1 = w 1 := by rw [jnF_fr (by omega)]; unfold jo2; simp (disch := omega) only [upN_n]
          have r0 : jnF (jo2 w i) i (w 1 - (i + 1) - 1) 0 = w 0 + 1 := by rw [jnF_fr (by omega)]; unfold jo2; simp (disch := omega) only [upN_n, upN_s]
          have ro : jnF (jo2 w i) i (w 1 - (i + 1) - 1) (42 + i) = w (42 + i) := by rw [jnF_fr (by omega)]; unfold jo2; simp (disch := omega) only [upN_n]
          have rq : jnF (jo2 w i) i (w 1 - (i + 1) - 1) (8558 + 7) = w (8558 + 7) := by rw [jnF_fr (by omega)]; unfold jo2; simp (disch := omega) only [upN_n]
          refine e_iload_n dX11_join_101 rfl rfl ?_
          refine e_iconst (v := nI 1) dX11_join_102 rfl ?_
          first | ((with_reducible refine mk_nn ?_); refine n_iadd dX11_join_103 ?_) | refine e_iadd dX11_join_103 ?_
          refine e_aload_n dX11_join_104 rfl rfl ?_
          refine e_getR dX11_join_105 fl_X11_7 rfl (by assumption) ?_
          refine e_iconst (v := nI 1) dX11_join_108 rfl ?_
          first | ((with_reducible refine mk_ldw ?_); refine e_ldw dX11_join_109 (by omega) ?_) | refine e_iald _ dX11_join_109 ⟨by decide, by decide⟩ rfl rfl (by simp only [lenK]; omega) ?_
          rw [r1]
          first | ((with_reducible refine mk_nn ?_); refine n_icmp_ge (tgt := 179) dX11_join_110 (by decide) (by omega) (by omega) (fun h110 => ?_) (fun h110 => ?_)) | refine e_icmp_ge (tgt := 179) dX11_join_110 (by decide) (fun h110 => ?_) (fun h110 => ?_)
          · try first | contradiction | omega
            all_goals
              refine e_aload_n dX11_join_179 rfl rfl ?_
              refine e_getR dX11_join_180 fl_X11_7 rfl (by assumption) ?_
              refine e_iconst (v := nI 1) dX11_join_183 rfl ?_
              refine e_dup2 dX11_join_184 rfl rfl ?_
              first | ((with_reducible refine mk_ldw ?_); refine e_ldw dX11_join_185 (by omega) ?_) | refine e_iald _ dX11_join_185 ⟨by decide, by decide⟩ rfl rfl (by simp only [lenK]; omega) ?_
              refine e_iconst (v := nI 1) dX11_join_186 rfl ?_
              rw [r1]
              first | ((with_reducible refine mk_nn ?_); refine n_isub dX11_join_187 (by omega) ?_) | refine e_isub dX11_join_187 ?_
              first | ((with_reducible refine mk_stw ?_); refine e_stw dX11_join_188 (by omega) ?_) | refine e_iast _ dX11_join_188 ⟨by decide, by decide⟩ rfl rfl (by simp only [lenK]; omega) ?_
              refine e_aload_n dX11_join_189 rfl rfl ?_
              refine e_iconst (v := nI 2) dX11_join_190 rfl ?_
              refine e_iload_n dX11_join_191 rfl rfl ?_
              refine e_aload_n dX11_join_192 rfl rfl ?_
              refine e_getR dX11_join_193 fl_X11_7 rfl (by assumption) ?_
              refine e_bipush (v := nI 42) dX11_join_196 rfl ?_
              refine e_iload_n dX11_join_198 rfl rfl ?_
              first | ((with_reducible refine mk_nn ?_); refine n_iadd dX11_join_199 ?_) | refine e_iadd dX11_join_199 ?_
              first | ((with_reducible refine mk_ldw ?_); refine e_ldw dX11_join_200 (by omega) ?_) | refine e_iald _ dX11_join_200 ⟨by decide, by decide⟩ rfl rfl (by simp only [lenK]; omega) ?_
              rw [upN_n (by omega), ro]
              refine y_V3 (M' := mX11_notes) dX11_join_201 ml_X11_93 ok_X11_notes (by decide) rfl im_X11_notes se_X11_notes (ct_X11_notes ‹_› (by rw [upN_n (by omega), r0]; omega)) (Nat.le_of_ble_eq_true rfl) (by decide) (Nat.le_of_ble_eq_true rfl) ?_
              rw [upN_n (by omega), r0, ← hlk]
              refine e_aload_n dX11_join_204 rfl rfl ?_
              refine e_bipush (v := nI 7) dX11_join_205 rfl ?_
              refine e_iconst (v := nI 1) dX11_join_207 rfl ?_
              refine y_V2 (M' := mX11_counts) dX11_join_208 ml_X11_97 ok_X11_counts (by decide) rfl im_X11_counts se_X11_counts (ct_X11_counts ‹_› (by omega)) (Nat.le_of_ble_eq_true rfl) (by decide) (Nat.le_of_ble_eq_true rfl) ?_
              refine e_aload_n dX11_join_211 rfl rfl ?_
              refine e_getR dX11_join_212 fl_X11_7 rfl (by assumption) ?_
              refine e_iconst (v := nI 0) dX11_join_215 rfl ?_
              first | ((with_reducible refine mk_ldw ?_); refine e_ldw dX11_join_216 (by omega) ?_) | refine e_iald _ dX11_join_216 ⟨by decide, by decide⟩ rfl rfl (by simp only [lenK]; omega) ?_
              refine e_ret (some _) rfl (r_int dX11_join_217 rfl) ?_
              refine xq ?_ rfl rfl ?_ rfl rfl
              · simp (disch := omega) only [upN_n, r0]
              · simp (disch := omega) only [upN_n, rq]; rfl
          · try first | contradiction | omega
            all_goals
              contradiction
          )
        have kk := key 0 (by omega)
        rw [jnF_0] at kk
        refine e_aload_n dX11_join_0 rfl rfl ?_
        refine e_iload_n dX11_join_1 rfl rfl ?_
        refine x_V1 (M' := mX11_named) dX11_join_2 ml_X11_100 ok_X11_named (by decide) rfl im_X11_named se_X11_named (ct_X11_named ‹_› ‹_› _) (Nat.le_of_ble_eq_true rfl) (by decide) (Nat.le_of_ble_eq_true rfl) ?_
        rw [hnm]; try rw [oI_s]
        refine e_istore_n dX11_join_5 rfl (Nat.le_of_ble_eq_true rfl) rfl ?_
        refine e_iload_n dX11_join_6 rfl rfl ?_
        refine e_iconst (v := -1) dX11_join_7 rfl ?_
        first | ((with_reducible refine mk_mo ?_); refine p_icmp_eq (tgt := 66) dX11_join_8 (by decide) (fun h8 => ?_) (fun h8 => ?_)) | ((with_reducible refine mk_ms ?_); refine s_icmp_eq (tgt := 66) dX11_join_8 (by decide) (by omega) (fun h8 => ?_) (fun h8 => ?_)) | ((with_reducible refine mk_mn ?_); refine q_icmp_eq (tgt := 66) dX11_join_8 (by decide) (by omega) (fun h8 => ?_) (fun h8 => ?_)) | ((with_reducible refine mk_nn ?_); refine n_icmp_eq (tgt := 66) dX11_join_8 (by decide) (by omega) (by omega) (fun h8 => ?_) (fun h8 => ?_)) | refine e_icmp_eq (tgt := 66) dX11_join_8 (by decide) (fun h8 => ?_) (fun h8 => ?_)
        · try first | contradiction | omega
          all_goals
            contradiction
        · try first | contradiction | omega
          all_goals
            refine e_iload_n dX11_join_11 rfl rfl ?_
            refine e_iconst (v := nI 1) dX11_join_12 rfl ?_
            first | ((with_reducible refine mk_nn ?_); refine n_iadd dX11_join_13 ?_) | refine e_iadd dX11_join_13 ?_
            refine e_aload_n dX11_join_14 rfl rfl ?_
            refine e_getR dX11_join_15 fl_X11_7 rfl (by assumption) ?_
            refine e_iconst (v := nI 1) dX11_join_18 rfl ?_
            first | ((with_reducible refine mk_ldw ?_); refine e_ldw dX11_join_19 (by omega) ?_) | refine e_iald _ dX11_join_19 ⟨by decide, by decide⟩ rfl rfl (by simp only [lenK]; omega) ?_
            first | ((with_reducible refine mk_mo ?_); refine p_icmp_eq (tgt := 66) dX11_join_20 (by decide) (fun h20 => ?_) (fun h20 => ?_)) | ((with_reducible refine mk_ms ?_); refine s_icmp_eq (tgt := 66) dX11_join_20 (by decide) (by omega) (fun h20 => ?_) (fun h20 => ?_)) | ((with_reducible refine mk_mn ?_); refine q_icmp_eq (tgt := 66) dX11_join_20 (by decide) (by omega) (fun h20 => ?_) (fun h20 => ?_)) | ((with_reducible refine mk_nn ?_); refine n_icmp_eq (tgt := 66) dX11_join_20 (by decide) (by omega) (by omega) (fun h20 => ?_) (fun h20 => ?_)) | refine e_icmp_eq (tgt := 66) dX11_join_20 (by decide) (fun h20 => ?_) (fun h20 => ?_)
            · try first | contradiction | omega
              all_goals
                contradiction
            · try first | contradiction | omega
              all_goals
                refine e_aload_n dX11_join_23 rfl rfl ?_
                refine e_getR dX11_join_24 fl_X11_7 rfl (by assumption) ?_
                refine e_bipush (v := nI 42) dX11_join_27 rfl ?_
                refine e_iload_n dX11_join_29 rfl rfl ?_
                first | ((with_reducible refine mk_nn ?_); refine n_iadd dX11_join_30 ?_) | refine e_iadd dX11_join_30 ?_
                first | ((with_reducible refine mk_ldw ?_); refine e_ldw dX11_join_31 (by omega) ?_) | refine e_iald _ dX11_join_31 ⟨by decide, by decide⟩ rfl rfl (by simp only [lenK]; omega) ?_
                refine e_aload_n dX11_join_32 rfl rfl ?_
                refine e_getR dX11_join_33 fl_X11_7 rfl (by assumption) ?_
                refine e_bipush (v := nI 42) dX11_join_36 rfl ?_
                refine e_iload_n dX11_join_38 rfl rfl ?_
                first | ((with_reducible refine mk_nn ?_); refine n_iadd dX11_join_39 ?_) | refine e_iadd dX11_join_39 ?_
                refine e_iconst (v := nI 1) dX11_join_40 rfl ?_
                first | ((with_reducible refine mk_nn ?_); refine n_iadd dX11_join_41 ?_) | refine e_iadd dX11_join_41 ?_
                first | ((with_reducible refine mk_ldw ?_); refine e_ldw dX11_join_42 (by omega) ?_) | refine e_iald _ dX11_join_42 ⟨by decide, by decide⟩ rfl rfl (by simp only [lenK]; omega) ?_
                first | ((with_reducible refine mk_mo ?_); refine p_icmp_ne (tgt := 66) dX11_join_43 (by decide) (fun h43 => ?_) (fun h43 => ?_)) | ((with_reducible refine mk_ms ?_); refine s_icmp_ne (tgt := 66) dX11_join_43 (by decide) (by omega) (fun h43 => ?_) (fun h43 => ?_)) | ((with_reducible refine mk_mn ?_); refine q_icmp_ne (tgt := 66) dX11_join_43 (by decide) (by omega) (fun h43 => ?_) (fun h43 => ?_)) | ((with_reducible refine mk_nn ?_); refine n_icmp_ne (tgt := 66) dX11_join_43 (by decide) (by omega) (by omega) (fun h43 => ?_) (fun h43 => ?_)) | refine e_icmp_ne (tgt := 66) dX11_join_43 (by decide) (fun h43 => ?_) (fun h43 => ?_)
                · try first | contradiction | omega
                  all_goals
                    contradiction
                · try first | contradiction | omega
                  all_goals
                    refine e_aload_n dX11_join_46 rfl rfl ?_
                    refine e_iload_n dX11_join_47 rfl rfl ?_
                    refine x_V1 (M' := mX11_moveOfSpan) dX11_join_48 ml_X11_79 ok_X11_moveOfSpan (by decide) rfl im_X11_moveOfSpan se_X11_moveOfSpan (ct_X11_moveOfSpan ‹_› ‹_› (by omega)) (Nat.le_of_ble_eq_true rfl) (by decide) (Nat.le_of_ble_eq_true rfl) ?_
                    rw [hm1]
                    refine e_iconst (v := -1) dX11_join_51 rfl ?_
                    first | ((with_reducible refine mk_mo ?_); refine p_icmp_ne (tgt := 66) dX11_join_52 (by decide) (fun h52 => ?_) (fun h52 => ?_)) | ((with_reducible refine mk_ms ?_); refine s_icmp_ne (tgt := 66) dX11_join_52 (by decide) (by omega) (fun h52 => ?_) (fun h52 => ?_)) | ((with_reducible refine mk_mn ?_); refine q_icmp_ne (tgt := 66) dX11_join_52 (by decide) (by omega) (fun h52 => ?_) (fun h52 => ?_)) | ((with_reducible refine mk_nn ?_); refine n_icmp_ne (tgt := 66) dX11_join_52 (by decide) (by omega) (by omega) (fun h52 => ?_) (fun h52 => ?_)) | refine e_icmp_ne (tgt := 66) dX11_join_52 (by decide) (fun h52 => ?_) (fun h52 => ?_)
                    · try first | contradiction | omega
                      all_goals
                        contradiction
                    · try first | contradiction | omega
                      all_goals
                        refine e_aload_n dX11_join_55 rfl rfl ?_
                        refine e_iload_n dX11_join_56 rfl rfl ?_
                        refine e_iconst (v := nI 1) dX11_join_57 rfl ?_
                        first | ((with_reducible refine mk_nn ?_); refine n_iadd dX11_join_58 ?_) | refine e_iadd dX11_join_58 ?_
                        refine x_V1 (M' := mX11_moveOfSpan) dX11_join_59 ml_X11_79 ok_X11_moveOfSpan (by decide) rfl im_X11_moveOfSpan se_X11_moveOfSpan (ct_X11_moveOfSpan ‹_› ‹_› (by omega)) (Nat.le_of_ble_eq_true rfl) (by decide) (Nat.le_of_ble_eq_true rfl) ?_
                        rw [hm2]
                        refine e_iconst (v := -1) dX11_join_62 rfl ?_
                        first | ((with_reducible refine mk_mo ?_); refine p_icmp_eq (tgt := 68) dX11_join_63 (by decide) (fun h63 => ?_) (fun h63 => ?_)) | ((with_reducible refine mk_ms ?_); refine s_icmp_eq (tgt := 68) dX11_join_63 (by decide) (by omega) (fun h63 => ?_) (fun h63 => ?_)) | ((with_reducible refine mk_mn ?_); refine q_icmp_eq (tgt := 68) dX11_join_63 (by decide) (by omega) (fun h63 => ?_) (fun h63 => ?_)) | ((with_reducible refine mk_nn ?_); refine n_icmp_eq (tgt := 68) dX11_join_63 (by decide) (by omega) (by omega) (fun h63 => ?_) (fun h63 => ?_)) | refine e_icmp_eq (tgt := 68) dX11_join_63 (by decide) (fun h63 => ?_) (fun h63 => ?_)
                        · try first | contradiction | omega
                          all_goals
                            refine e_aload_n dX11_join_68 rfl rfl ?_
                            refine y_V0 (M' := mX11_acts) dX11_join_69 ml_X11_86 ok_X11_acts (by decide) rfl im_X11_acts se_X11_acts (ct_X11_acts ‹_› hu hu6 hsc) (Nat.le_of_ble_eq_true rfl) (by decide) (Nat.le_of_ble_eq_true rfl) ?_
                            refine e_aload_n dX11_join_72 rfl rfl ?_
                            refine e_getR dX11_join_73 fl_X11_7 rfl (by assumption) ?_
                            refine e_iconst (v := nI 0) dX11_join_76 rfl ?_
                            refine e_dup2 dX11_join_77 rfl rfl ?_
                            first | ((with_reducible refine mk_ldw ?_); refine e_ldw dX11_join_78 (by omega) ?_) | refine e_iald _ dX11_join_78 ⟨by decide, by decide⟩ rfl rfl (by simp only [lenK]; omega) ?_
                            refine e_iconst (v := nI 1) dX11_join_79 rfl ?_
                            first | ((with_reducible refine mk_nn ?_); refine n_iadd dX11_join_80 ?_) | refine e_iadd dX11_join_80 ?_
                            first | ((with_reducible refine mk_stw ?_); refine e_stw dX11_join_81 (by omega) ?_) | refine e_iast _ dX11_join_81 ⟨by decide, by decide⟩ rfl rfl (by simp only [lenK]; omega) ?_
                            refine e_aload_n dX11_join_82 rfl rfl ?_
                            refine e_getR dX11_join_83 fl_X11_7 rfl (by assumption) ?_
                            refine e_bipush (v := nI 74) dX11_join_86 rfl ?_
                            refine e_iload_n dX11_join_88 rfl rfl ?_
                            first | ((with_reducible refine mk_nn ?_); refine n_iadd dX11_join_89 ?_) | refine e_iadd dX11_join_89 ?_
                            refine e_aload_n dX11_join_90 rfl rfl ?_
                            refine e_getR dX11_join_91 fl_X11_7 rfl (by assumption) ?_
                            refine e_iconst (v := nI 0) dX11_join_94 rfl ?_
                            first | ((with_reducible refine mk_ldw ?_); refine e_ldw dX11_join_95 (by omega) ?_) | refine e_iald _ dX11_join_95 ⟨by decide, by decide⟩ rfl rfl (by simp only [lenK]; omega) ?_
                            first | ((with_reducible refine mk_stw ?_); refine e_stw dX11_join_96 (by omega) ?_) | refine e_iast _ dX11_join_96 ⟨by decide, by decide⟩ rfl rfl (by simp only [lenK]; omega) ?_
                            refine e_iload_n dX11_join_97 rfl rfl ?_
                            refine e_iconst (v := nI 1) dX11_join_98 rfl ?_
                            first | ((with_reducible refine mk_nn ?_); refine n_iadd dX11_join_99 ?_) | refine e_iadd dX11_join_99 ?_
                            refine e_istore_n dX11_join_100 rfl (Nat.le_of_ble_eq_true rfl) rfl ?_
                            simp (disch := omega) only [upN_n, upN_s]
                            exact kk
                        · try first | contradiction | omega
                          all_goals
                            contradiction
