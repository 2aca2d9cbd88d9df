def evQ (o : Option Nat) (b : Nat) : Bool := match o with
  | none => false
  | some e => decide (b < e)
theorem mk_lo {M : MD} {d k z pc : Nat} {ls : List (Option Value)} {st : List Value} {fi : FI} {fr : FR} {ai : FI} {ar : FR} {N : Nat} {Q : EQ} {o : Option Nat} {b : Nat} (h : EV M d k z pc ls (.int (lg_cmp (oL o) (lN b)) :: st) fi fr ai ar N Q) : EV M d k z pc ls (.int (lg_cmp (oL o) (lN b)) :: st) fi fr ai ar N Q := h
theorem oL_lt {o : Option Nat} {b : Nat} (hb : b < 2147483648) (ho : ∀ e, o = some e → e < 9223372036854775808) : lN b < oL o ↔ evQ o b = true := by
  cases o with
  | none =>
    refine ⟨fun h => ?_, fun h => absurd h (by simp [evQ])⟩
    exfalso
    have h1 : (lN b).toInt < (-1 : Int64).toInt := Int64.lt_iff_toInt_lt.mp h
    rw [lN_toInt (by omega)] at h1
    have h2 : (-1 : Int64).toInt = -1 := by decide
    omega
  | some e =>
    show lN b < lN e ↔ decide (b < e) = true
    rw [decide_eq_true_eq]
    exact pk_lLT (by omega) (ho e rfl)
theorem o_if_le {M : MD} {d k z pc : Nat} {ls : List (Option Value)} {st : List Value} {fi : FI} {fr : FR} {ai : FI} {ar : FR} {N : Nat} {Q : EQ} {o : Option Nat} {b : Nat} {off : Int} {tgt : Nat} (hd : decode M.2.1 pc = .ok (.ifCond .le off, 3)) (ht : (pc : Int) + off = (tgt : Int)) (hb : b < 2147483648) (ho : ∀ e, o = some e → e < 9223372036854775808) (kt : evQ o b = false → EV M d k z tgt ls st fi fr ai ar N Q) (kf : evQ o b = true → EV M d k z (pc + 3) ls st fi fr ai ar N Q) : EV M d k z pc ls (.int (lg_cmp (oL o) (lN b)) :: st) fi fr ai ar N Q :=
  l_if_le hd ht (fun h => kt (by rw [oL_lt hb ho] at h; exact Bool.eq_false_iff.mpr h)) (fun h => kf ((oL_lt hb ho).mp h))
theorem o_if_gt {M : MD} {d k z pc : Nat} {ls : List (Option Value)} {st : List Value} {fi : FI} {fr : FR} {ai : FI} {ar : FR} {N : Nat} {Q : EQ} {o : Option Nat} {b : Nat} {off : Int} {tgt : Nat} (hd : decode M.2.1 pc = .ok (.ifCond .gt off, 3)) (ht : (pc : Int) + off = (tgt : Int)) (hb : b < 2147483648) (ho : ∀ e, o = some e → e < 9223372036854775808) (kt : evQ o b = true → EV M d k z tgt ls st fi fr ai ar N Q) (kf : evQ o b = false → EV M d k z (pc + 3) ls st fi fr ai ar N Q) : EV M d k z pc ls (.int (lg_cmp (oL o) (lN b)) :: st) fi fr ai ar N Q :=
  l_if_gt hd ht (fun h => kt ((oL_lt hb ho).mp h)) (fun h => kf (by rw [oL_lt hb ho] at h; exact Bool.eq_false_iff.mpr h))
theorem evF_le {w : Nat → Nat} (iv : Inv w) : ∀ e, evF w = some e → e < 9223372036854775808 := by
  intro e h
  unfold evF at h
  split at h
  · have := ldF_le iv
    rename_i a b _ _
    have h1 := this a
    have h2 := Option.some.inj h
    omega
  · cases h
theorem evF_s {w : Nat → Nat} {e : Nat} (h : evF w = some e) (h0 : e ≠ 0) : ∃ a l, otH w = some a ∧ otL w = some l ∧ a < 6 ∧ l < 6 ∧ l ≠ a ∧ e = ldF w a - ldF w l := by
  unfold evF at h
  split at h
  · rename_i a l ha hl
    obtain ⟨l2, hl2, hl6, ha6, -⟩ := ot_some ha
    rw [hl] at hl2
    obtain rfl := Option.some.inj hl2
    refine ⟨a, l, ha, hl, ha6, hl6, fun q => ?_, (Option.some.inj h).symm⟩
    subst q
    have := Option.some.inj h
    omega
  · cases h
/-- what to do next: 1 a move of a span to a server, 2 a split of a span at a key -/
def nxO (w : Nat → Nat) : Option (Nat × Nat × Nat) := match evF w, otH w, otL w with
  | some e, some a, some l => if e = 0 then none else (match smO w a e with
    | some i => some (1, i, l)
    | none => match ssO w a with
      | some i => (match mdO w i with
        | some k => some (2, i, k)
        | none => none)
      | none => none)
  | _, _, _ => none
def nx1 (o : Option (Nat × Nat × Nat)) : Int32 := match o with
  | none => nI 0
  | some q => nI q.1
def nx2 (o : Option (Nat × Nat × Nat)) : Int32 := match o with
  | none => -1
  | some q => nI q.2.1
def nx3 (o : Option (Nat × Nat × Nat)) : Int32 := match o with
  | none => -1
  | some q => nI q.2.2
def nxH (fi : FI) (a b c : Int32) : FI := up2 (up2 (up2 fi (32 * 11 + 18) (rf 11 80) a) (32 * 11 + 19) (rf 11 80) b) (32 * 11 + 20) (rf 11 80) c
theorem nxH_at {fi : FI} {a b c : Int32} (f r : Nat) : nxH fi a b c f r = if f = 32 * 11 + 20 ∧ r = rf 11 80 then c else if f = 32 * 11 + 19 ∧ r = rf 11 80 then b else if f = 32 * 11 + 18 ∧ r = rf 11 80 then a else fi f r := rfl
theorem nxH_o (fi : FI) (a b c a2 b2 c2 : Int32) : up2 (up2 (up2 (nxH fi a b c) (32 * 11 + 18) (rf 11 80) a2) (32 * 11 + 19) (rf 11 80) b2) (32 * 11 + 20) (rf 11 80) c2 = nxH fi a2 b2 c2 := by
  funext f r
  unfold up2
  rw [nxH_at, nxH_at]
  repeat' split
  all_goals first | rfl | omega
theorem nxH_2 (fi : FI) (a b c a2 b2 c2 : Int32) : nxH (nxH fi a b c) a2 b2 c2 = nxH fi a2 b2 c2 := nxH_o fi a b c a2 b2 c2
theorem nxH_a (fi : FI) (a b c : Int32) : nxH fi a b c (32 * 11 + 18) (rf 11 80) = a := rfl
theorem nxH_b (fi : FI) (a b c : Int32) : nxH fi a b c (32 * 11 + 19) (rf 11 80) = b := rfl
theorem nxH_c (fi : FI) (a b c : Int32) : nxH fi a b c (32 * 11 + 20) (rf 11 80) = c := rfl
theorem nxH_id (fi : FI) : nxH fi (fi (32 * 11 + 18) (rf 11 80)) (fi (32 * 11 + 19) (rf 11 80)) (fi (32 * 11 + 20) (rf 11 80)) = fi := by
  funext f r
  rw [nxH_at]
  repeat' split
  all_goals (try (rename_i h; rw [h.1, h.2]; done)); (try rfl)
theorem ct_X11_laysNext {fi : FI} {fr : FR} {ai : FI} {ar : FR} {N : Nat} {w : Nat → Nat} (sm : SM fr) (iv : Inv w)  : CP mX11_laysNext 5 0 0 [.ref (rf 11 80)] fi fr (mW ai w) ar N (xQ (none) (nxH fi (nx1 (nxO w)) (nx2 (nxO w)) (nx3 (nxO w))) fr (mW ai w) ar N) := by
  obtain ⟨sW, sA, sK, sU, sC, sKC, sT, sCl⟩ := id sm
  have h1 := iv_n iv
  have h3 := iv_mm iv
  change EV mX11_laysNext 5 0 0 0 [some (.ref (rf 11 80)), none, none, none, none, none] [] fi fr (mW ai w) ar N (xQ (none) (nxH fi (nx1 (nxO w)) (nx2 (nxO w)) (nx3 (nxO w))) fr (mW ai w) ar N)
  have hol := evF_le iv
  cases hev : evF w with
  | none =>
    have en : nxO w = none := by unfold nxO; rw [hev]
    have e1 : nx1 (nxO w) = nI 0 := by rw [en]; rfl
    have e2 : nx2 (nxO w) = -1 := by rw [en]; rfl
    have e3 : nx3 (nxO w) = -1 := by rw [en]; rfl
    rw [e1, e2, e3]
    refine e_aload_n dX11_laysNext_0 rfl rfl ?_
    refine e_iconst (v := nI 0) dX11_laysNext_1 rfl ?_
    refine e_putI dX11_laysNext_2 fl_X11_365 rfl rfl rfl rfl ?_
    refine e_aload_n dX11_laysNext_5 rfl rfl ?_
    refine e_iconst (v := -1) dX11_laysNext_6 rfl ?_
    refine e_putI dX11_laysNext_7 fl_X11_368 rfl rfl rfl rfl ?_
    refine e_aload_n dX11_laysNext_10 rfl rfl ?_
    refine e_iconst (v := -1) dX11_laysNext_11 rfl ?_
    refine e_putI dX11_laysNext_12 fl_X11_371 rfl rfl rfl rfl ?_
    refine e_aload_n dX11_laysNext_15 rfl rfl ?_
    refine x_V0 (M' := mX11_evenOf) dX11_laysNext_16 ml_X11_358 ok_X11_evenOf (by decide) rfl im_X11_evenOf se_X11_evenOf (ct_X11_evenOf ‹_› ‹_›) (Nat.le_of_ble_eq_true rfl) (by decide) (Nat.le_of_ble_eq_true rfl) ?_
    rw [hev]
    refine e_lstore_n dX11_laysNext_19 rfl (Nat.le_of_ble_eq_true rfl) rfl ?_
    refine e_lload_n dX11_laysNext_20 rfl rfl ?_
    refine e_lconst (v := lN 0) dX11_laysNext_21 rfl ?_
    refine e_lcmp dX11_laysNext_22 ?_
    first | ((with_reducible refine mk_lo ?_); refine o_if_gt (tgt := 27) dX11_laysNext_23 (by decide) (by omega) (by first | assumption | (intro _ he; cases he; done)) (fun h23 => ?_) (fun h23 => ?_)) | ((with_reducible refine mk_ll ?_); refine m_if_gt (tgt := 27) dX11_laysNext_23 (by decide) (by omega) (by omega) (fun h23 => ?_) (fun h23 => ?_)) | ((with_reducible refine mk_lc ?_); refine l_if_gt (tgt := 27) dX11_laysNext_23 (by decide) (fun h23 => ?_) (fun h23 => ?_)) | ((with_reducible refine mk_n ?_); refine n_if_gt (tgt := 27) dX11_laysNext_23 (by decide) (by omega) (fun h23 => ?_) (fun h23 => ?_)) | refine e_if_gt (tgt := 27) dX11_laysNext_23 (by decide) (fun h23 => ?_) (fun h23 => ?_)
    · try first | contradiction | omega
      all_goals
        exact absurd h23 (by decide)
    · try first | contradiction | omega
      all_goals
        refine e_ret none rfl (r_void dX11_laysNext_26 rfl) ?_
        exact xq rfl rfl rfl rfl rfl rfl
  | some e =>
    have hol2 : ∀ e', some e = some e' → e' < 9223372036854775808 := fun _ h => hol _ (hev.trans h)
    by_cases e0 : e = 0
    · have en : nxO w = none := by
        unfold nxO
        rw [hev, e0]
        split
        · rename_i h1 _ _; obtain rfl := Option.some.inj h1; rw [if_pos rfl]
        · rfl
      have e1 : nx1 (nxO w) = nI 0 := by rw [en]; rfl
      have e2 : nx2 (nxO w) = -1 := by rw [en]; rfl
      have e3 : nx3 (nxO w) = -1 := by rw [en]; rfl
      rw [e1, e2, e3]
      subst e0
      refine e_aload_n dX11_laysNext_0 rfl rfl ?_
      refine e_iconst (v := nI 0) dX11_laysNext_1 rfl ?_
      refine e_putI dX11_laysNext_2 fl_X11_365 rfl rfl rfl rfl ?_
      refine e_aload_n dX11_laysNext_5 rfl rfl ?_
      refine e_iconst (v := -1) dX11_laysNext_6 rfl ?_
      refine e_putI dX11_laysNext_7 fl_X11_368 rfl rfl rfl rfl ?_
      refine e_aload_n dX11_laysNext_10 rfl rfl ?_
      refine e_iconst (v := -1) dX11_laysNext_11 rfl ?_
      refine e_putI dX11_laysNext_12 fl_X11_371 rfl rfl rfl rfl ?_
      refine e_aload_n dX11_laysNext_15 rfl rfl ?_
      refine x_V0 (M' := mX11_evenOf) dX11_laysNext_16 ml_X11_358 ok_X11_evenOf (by decide) rfl im_X11_evenOf se_X11_evenOf (ct_X11_evenOf ‹_› ‹_›) (Nat.le_of_ble_eq_true rfl) (by decide) (Nat.le_of_ble_eq_true rfl) ?_
      rw [hev]
      refine e_lstore_n dX11_laysNext_19 rfl (Nat.le_of_ble_eq_true rfl) rfl ?_
      refine e_lload_n dX11_laysNext_20 rfl rfl ?_
      refine e_lconst (v := lN 0) dX11_laysNext_21 rfl ?_
      refine e_lcmp dX11_laysNext_22 ?_
      first | ((with_reducible refine mk_lo ?_); refine o_if_gt (tgt := 27) dX11_laysNext_23 (by decide) (by omega) (by first | assumption | (intro _ he; cases he; done)) (fun h23 => ?_) (fun h23 => ?_)) | ((with_reducible refine mk_ll ?_); refine m_if_gt (tgt := 27) dX11_laysNext_23 (by decide) (by omega) (by omega) (fun h23 => ?_) (fun h23 => ?_)) | ((with_reducible refine mk_lc ?_); refine l_if_gt (tgt := 27) dX11_laysNext_23 (by decide) (fun h23 => ?_) (fun h23 => ?_)) | ((with_reducible refine mk_n ?_); refine n_if_gt (tgt := 27) dX11_laysNext_23 (by decide) (by omega) (fun h23 => ?_) (fun h23 => ?_)) | refine e_if_gt (tgt := 27) dX11_laysNext_23 (by decide) (fun h23 => ?_) (fun h23 => ?_)
      · try first | contradiction | omega
        all_goals
          exact absurd h23 (by decide)
      · try first | contradiction | omega
        all_goals
          refine e_ret none rfl (r_void dX11_laysNext_26 rfl) ?_
          exact xq rfl rfl rfl rfl rfl rfl
    · obtain ⟨a, l, ha, hl, ha6, hl6, hne, hee⟩ := evF_s hev e0
      have hla := ldF_le iv a
      have hnx : nxO w = (match smO w a e with
        | some i => some (1, i, l)
        | none => match ssO w a with
          | some i => (match mdO w i with
            | some k => some (2, i, k)
            | none => none)
          | none => none) := by unfold nxO; rw [hev, ha, hl]; exact if_neg e0
      cases hsm : smO w a e with
      | some i =>
        have hi := (bst_in hsm).1
        have en : nxO w = some (1, i, l) := by rw [hnx, hsm]
        have e1 : nx1 (nxO w) = nI 1 := by rw [en]; rfl
        have e2 : nx2 (nxO w) = nI i := by rw [en]; rfl
        have e3 : nx3 (nxO w) = nI l := by rw [en]; rfl
        rw [e1, e2, e3]
        refine e_aload_n dX11_laysNext_0 rfl rfl ?_
        refine e_iconst (v := nI 0) dX11_laysNext_1 rfl ?_
        refine e_putI dX11_laysNext_2 fl_X11_365 rfl rfl rfl rfl ?_
        refine e_aload_n dX11_laysNext_5 rfl rfl ?_
        refine e_iconst (v := -1) dX11_laysNext_6 rfl ?_
        refine e_putI dX11_laysNext_7 fl_X11_368 rfl rfl rfl rfl ?_
        refine e_aload_n dX11_laysNext_10 rfl rfl ?_
        refine e_iconst (v := -1) dX11_laysNext_11 rfl ?_
        refine e_putI dX11_laysNext_12 fl_X11_371 rfl rfl rfl rfl ?_
        refine e_aload_n dX11_laysNext_15 rfl rfl ?_
        refine x_V0 (M' := mX11_evenOf) dX11_laysNext_16 ml_X11_358 ok_X11_evenOf (by decide) rfl im_X11_evenOf se_X11_evenOf (ct_X11_evenOf ‹_› ‹_›) (Nat.le_of_ble_eq_true rfl) (by decide) (Nat.le_of_ble_eq_true rfl) ?_
        rw [hev]
        refine e_lstore_n dX11_laysNext_19 rfl (Nat.le_of_ble_eq_true rfl) rfl ?_
        refine e_lload_n dX11_laysNext_20 rfl rfl ?_
        refine e_lconst (v := lN 0) dX11_laysNext_21 rfl ?_
        refine e_lcmp dX11_laysNext_22 ?_
        first | ((with_reducible refine mk_lo ?_); refine o_if_gt (tgt := 27) dX11_laysNext_23 (by decide) (by omega) (by first | assumption | (intro _ he; cases he; done)) (fun h23 => ?_) (fun h23 => ?_)) | ((with_reducible refine mk_ll ?_); refine m_if_gt (tgt := 27) dX11_laysNext_23 (by decide) (by omega) (by omega) (fun h23 => ?_) (fun h23 => ?_)) | ((with_reducible refine mk_lc ?_); refine l_if_gt (tgt := 27) dX11_laysNext_23 (by decide) (fun h23 => ?_) (fun h23 => ?_)) | ((with_reducible refine mk_n ?_); refine n_if_gt (tgt := 27) dX11_laysNext_23 (by decide) (by omega) (fun h23 => ?_) (fun h23 => ?_)) | refine e_if_gt (tgt := 27) dX11_laysNext_23 (by decide) (fun h23 => ?_) (fun h23 => ?_)
        · try first | contradiction | omega
          all_goals
            refine e_aload_n dX11_laysNext_27 rfl rfl ?_
            refine e_iconst (v := nI 1) dX11_laysNext_28 rfl ?_
            refine x_V1 (M' := mX11_outer) dX11_laysNext_29 ml_X11_354 ok_X11_outer (by decide) rfl im_X11_outer se_X11_outer (ct_outer1 ‹_› ‹_›) (Nat.le_of_ble_eq_true rfl) (by decide) (Nat.le_of_ble_eq_true rfl) ?_
            rw [ha, oI_s]
            refine e_istore_n dX11_laysNext_32 rfl (Nat.le_of_ble_eq_true rfl) rfl ?_
            refine e_aload_n dX11_laysNext_33 rfl rfl ?_
            refine e_iconst (v := nI 0) dX11_laysNext_34 rfl ?_
            refine x_V1 (M' := mX11_outer) dX11_laysNext_35 ml_X11_354 ok_X11_outer (by decide) rfl im_X11_outer se_X11_outer (ct_outer0 ‹_› ‹_›) (Nat.le_of_ble_eq_true rfl) (by decide) (Nat.le_of_ble_eq_true rfl) ?_
            rw [hl, oI_s]
            refine e_istore dX11_laysNext_38 (Nat.le_of_ble_eq_true rfl) rfl ?_
            refine e_aload_n dX11_laysNext_40 rfl rfl ?_
            refine e_iload_n dX11_laysNext_41 rfl rfl ?_
            refine e_iload dX11_laysNext_42 rfl ?_
            refine e_lload_n dX11_laysNext_44 rfl rfl ?_
            refine x_V3 (M' := mX11_spanToMove) dX11_laysNext_45 ml_X11_374 ok_X11_spanToMove (by decide) rfl im_X11_spanToMove se_X11_spanToMove (ct_X11_spanToMove ‹_› ‹_› ha6 hl6 (by omega)) (Nat.le_of_ble_eq_true rfl) (by decide) (Nat.le_of_ble_eq_true rfl) ?_
            rw [if_neg hne, hsm]
            refine e_istore dX11_laysNext_48 (Nat.le_of_ble_eq_true rfl) rfl ?_
            refine e_iload dX11_laysNext_50 rfl ?_
            refine e_iconst (v := -1) dX11_laysNext_52 rfl ?_
            first | ((with_reducible refine mk_mo ?_); refine p_icmp_eq (tgt := 74) dX11_laysNext_53 (by decide) (fun h53 => ?_) (fun h53 => ?_)) | ((with_reducible refine mk_ms ?_); refine s_icmp_eq (tgt := 74) dX11_laysNext_53 (by decide) (by omega) (fun h53 => ?_) (fun h53 => ?_)) | ((with_reducible refine mk_mn ?_); refine q_icmp_eq (tgt := 74) dX11_laysNext_53 (by decide) (by omega) (fun h53 => ?_) (fun h53 => ?_)) | ((with_reducible refine mk_nn ?_); refine n_icmp_eq (tgt := 74) dX11_laysNext_53 (by decide) (by omega) (by omega) (fun h53 => ?_) (fun h53 => ?_)) | refine e_icmp_eq (tgt := 74) dX11_laysNext_53 (by decide) (fun h53 => ?_) (fun h53 => ?_)
            · try first | contradiction | omega
              all_goals
                contradiction
            · try first | contradiction | omega
              all_goals
                refine e_aload_n dX11_laysNext_56 rfl rfl ?_
                refine e_iconst (v := nI 1) dX11_laysNext_57 rfl ?_
                refine e_putI dX11_laysNext_58 fl_X11_365 rfl rfl rfl rfl ?_
                refine e_aload_n dX11_laysNext_61 rfl rfl ?_
                refine e_iload dX11_laysNext_62 rfl ?_
                refine e_putI dX11_laysNext_64 fl_X11_368 rfl rfl rfl rfl ?_
                refine e_aload_n dX11_laysNext_67 rfl rfl ?_
                refine e_iload dX11_laysNext_68 rfl ?_
                refine e_putI dX11_laysNext_70 fl_X11_371 rfl rfl rfl rfl ?_
                refine e_ret none rfl (r_void dX11_laysNext_73 rfl) ?_
                refine xq rfl ?_ rfl rfl rfl rfl
                exact nxH_o _ _ _ _ _ _ _
        · try first | contradiction | omega
          all_goals
            exact absurd h23 (by show ¬ decide (0 < e) = false; simp; omega)
      | none =>
        cases hss : ssO w a with
        | none =>
          have en : nxO w = none := by rw [hnx, hsm]; dsimp only; rw [hss]
          have e1 : nx1 (nxO w) = nI 0 := by rw [en]; rfl
          have e2 : nx2 (nxO w) = -1 := by rw [en]; rfl
          have e3 : nx3 (nxO w) = -1 := by rw [en]; rfl
          rw [e1, e2, e3]
          refine e_aload_n dX11_laysNext_0 rfl rfl ?_
          refine e_iconst (v := nI 0) dX11_laysNext_1 rfl ?_
          refine e_putI dX11_laysNext_2 fl_X11_365 rfl rfl rfl rfl ?_
          refine e_aload_n dX11_laysNext_5 rfl rfl ?_
          refine e_iconst (v := -1) dX11_laysNext_6 rfl ?_
          refine e_putI dX11_laysNext_7 fl_X11_368 rfl rfl rfl rfl ?_
          refine e_aload_n dX11_laysNext_10 rfl rfl ?_
          refine e_iconst (v := -1) dX11_laysNext_11 rfl ?_
          refine e_putI dX11_laysNext_12 fl_X11_371 rfl rfl rfl rfl ?_
          refine e_aload_n dX11_laysNext_15 rfl rfl ?_
          refine x_V0 (M' := mX11_evenOf) dX11_laysNext_16 ml_X11_358 ok_X11_evenOf (by decide) rfl im_X11_evenOf se_X11_evenOf (ct_X11_evenOf ‹_› ‹_›) (Nat.le_of_ble_eq_true rfl) (by decide) (Nat.le_of_ble_eq_true rfl) ?_
          rw [hev]
          refine e_lstore_n dX11_laysNext_19 rfl (Nat.le_of_ble_eq_true rfl) rfl ?_
          refine e_lload_n dX11_laysNext_20 rfl rfl ?_
          refine e_lconst (v := lN 0) dX11_laysNext_21 rfl ?_
          refine e_lcmp dX11_laysNext_22 ?_
          first | ((with_reducible refine mk_lo ?_); refine o_if_gt (tgt := 27) dX11_laysNext_23 (by decide) (by omega) (by first | assumption | (intro _ he; cases he; done)) (fun h23 => ?_) (fun h23 => ?_)) | ((with_reducible refine mk_ll ?_); refine m_if_gt (tgt := 27) dX11_laysNext_23 (by decide) (by omega) (by omega) (fun h23 => ?_) (fun h23 => ?_)) | ((with_reducible refine mk_lc ?_); refine l_if_gt (tgt := 27) dX11_laysNext_23 (by decide) (fun h23 => ?_) (fun h23 => ?_)) | ((with_reducible refine mk_n ?_); refine n_if_gt (tgt := 27) dX11_laysNext_23 (by decide) (by omega) (fun h23 => ?_) (fun h23 => ?_)) | refine e_if_gt (tgt := 27) dX11_laysNext_23 (by decide) (fun h23 => ?_) (fun h23 => ?_)
          · try first | contradiction | omega
            all_goals
              refine e_aload_n dX11_laysNext_27 rfl rfl ?_
              refine e_iconst (v := nI 1) dX11_laysNext_28 rfl ?_
              refine x_V1 (M' := mX11_outer) dX11_laysNext_29 ml_X11_354 ok_X11_outer (by decide) rfl im_X11_outer se_X11_outer (ct_outer1 ‹_› ‹_›) (Nat.le_of_ble_eq_true rfl) (by decide) (Nat.le_of_ble_eq_true rfl) ?_
              rw [ha, oI_s]
              refine e_istore_n dX11_laysNext_32 rfl (Nat.le_of_ble_eq_true rfl) rfl ?_
              refine e_aload_n dX11_laysNext_33 rfl rfl ?_
              refine e_iconst (v := nI 0) dX11_laysNext_34 rfl ?_
              refine x_V1 (M' := mX11_outer) dX11_laysNext_35 ml_X11_354 ok_X11_outer (by decide) rfl im_X11_outer se_X11_outer (ct_outer0 ‹_› ‹_›) (Nat.le_of_ble_eq_true rfl) (by decide) (Nat.le_of_ble_eq_true rfl) ?_
              rw [hl, oI_s]
              refine e_istore dX11_laysNext_38 (Nat.le_of_ble_eq_true rfl) rfl ?_
              refine e_aload_n dX11_laysNext_40 rfl rfl ?_
              refine e_iload_n dX11_laysNext_41 rfl rfl ?_
              refine e_iload dX11_laysNext_42 rfl ?_
              refine e_lload_n dX11_laysNext_44 rfl rfl ?_
              refine x_V3 (M' := mX11_spanToMove) dX11_laysNext_45 ml_X11_374 ok_X11_spanToMove (by decide) rfl im_X11_spanToMove se_X11_spanToMove (ct_X11_spanToMove ‹_› ‹_› ha6 hl6 (by omega)) (Nat.le_of_ble_eq_true rfl) (by decide) (Nat.le_of_ble_eq_true rfl) ?_
              rw [if_neg hne, hsm]
              refine e_istore dX11_laysNext_48 (Nat.le_of_ble_eq_true rfl) rfl ?_
              refine e_iload dX11_laysNext_50 rfl ?_
              refine e_iconst (v := -1) dX11_laysNext_52 rfl ?_
              first | ((with_reducible refine mk_mo ?_); refine p_icmp_eq (tgt := 74) dX11_laysNext_53 (by decide) (fun h53 => ?_) (fun h53 => ?_)) | ((with_reducible refine mk_ms ?_); refine s_icmp_eq (tgt := 74) dX11_laysNext_53 (by decide) (by omega) (fun h53 => ?_) (fun h53 => ?_)) | ((with_reducible refine mk_mn ?_); refine q_icmp_eq (tgt := 74) dX11_laysNext_53 (by decide) (by omega) (fun h53 => ?_) (fun h53 => ?_)) | ((with_reducible refine mk_nn ?_); refine n_icmp_eq (tgt := 74) dX11_laysNext_53 (by decide) (by omega) (by omega) (fun h53 => ?_) (fun h53 => ?_)) | refine e_icmp_eq (tgt := 74) dX11_laysNext_53 (by decide) (fun h53 => ?_) (fun h53 => ?_)
              · try first | contradiction | omega
                all_goals
                  refine e_aload_n dX11_laysNext_74 rfl rfl ?_
                  refine e_iload_n dX11_laysNext_75 rfl rfl ?_
                  refine x_V1 (M' := mX11_spanToSplit) dX11_laysNext_76 ml_X11_378 ok_X11_spanToSplit (by decide) rfl im_X11_spanToSplit se_X11_spanToSplit (ct_X11_spanToSplit ‹_› ‹_› (by omega)) (Nat.le_of_ble_eq_true rfl) (by decide) (Nat.le_of_ble_eq_true rfl) ?_
                  rw [hss]
                  refine e_istore dX11_laysNext_79 (Nat.le_of_ble_eq_true rfl) rfl ?_
                  refine e_iload dX11_laysNext_81 rfl ?_
                  refine e_iconst (v := -1) dX11_laysNext_83 rfl ?_
                  first | ((with_reducible refine mk_mo ?_); refine p_icmp_ne (tgt := 88) dX11_laysNext_84 (by decide) (fun h84 => ?_) (fun h84 => ?_)) | ((with_reducible refine mk_ms ?_); refine s_icmp_ne (tgt := 88) dX11_laysNext_84 (by decide) (by omega) (fun h84 => ?_) (fun h84 => ?_)) | ((with_reducible refine mk_mn ?_); refine q_icmp_ne (tgt := 88) dX11_laysNext_84 (by decide) (by omega) (fun h84 => ?_) (fun h84 => ?_)) | ((with_reducible refine mk_nn ?_); refine n_icmp_ne (tgt := 88) dX11_laysNext_84 (by decide) (by omega) (by omega) (fun h84 => ?_) (fun h84 => ?_)) | refine e_icmp_ne (tgt := 88) dX11_laysNext_84 (by decide) (fun h84 => ?_) (fun h84 => ?_)
                  · try first | contradiction | omega
                    all_goals
                      contradiction
                  · try first | contradiction | omega
                    all_goals
                      refine e_ret none rfl (r_void dX11_laysNext_87 rfl) ?_
                      exact xq rfl rfl rfl rfl rfl rfl
              · try first | contradiction | omega
                all_goals
                  contradiction
          · try first | contradiction | omega
            all_goals
              exact absurd h23 (by show ¬ decide (0 < e) = false; simp; omega)
        | some i =>
          have hin : i < w 1 ∧ (mdO w i).isSome = true := by
            unfold ssO at hss
            split at hss
            · have := bst_in hss
              refine ⟨this.1, ?_⟩
              have h2 := this.2
              simp only [Bool.and_eq_true] at h2
              exact h2.2
            · cases hss
          have hi := hin.1
          obtain ⟨k, hk⟩ := Option.isSome_iff_exists.mp hin.2
          have en : nxO w = some (2, i, k) := by rw [hnx, hsm]; dsimp only; rw [hss]; dsimp only; rw [hk]
          have e1 : nx1 (nxO w) = nI 2 := by rw [en]; rfl
          have e2 : nx2 (nxO w) = nI i := by rw [en]; rfl
          have e3 : nx3 (nxO w) = nI k := by rw [en]; rfl
          rw [e1, e2, e3]
          refine e_aload_n dX11_laysNext_0 rfl rfl ?_
          refine e_iconst (v := nI 0) dX11_laysNext_1 rfl ?_
          refine e_putI dX11_laysNext_2 fl_X11_365 rfl rfl rfl rfl ?_
          refine e_aload_n dX11_laysNext_5 rfl rfl ?_
          refine e_iconst (v := -1) dX11_laysNext_6 rfl ?_
          refine e_putI dX11_laysNext_7 fl_X11_368 rfl rfl rfl rfl ?_
          refine e_aload_n dX11_laysNext_10 rfl rfl ?_
          refine e_iconst (v := -1) dX11_laysNext_11 rfl ?_
          refine e_putI dX11_laysNext_12 fl_X11_371 rfl rfl rfl rfl ?_
          refine e_aload_n dX11_laysNext_15 rfl rfl ?_
          refine x_V0 (M' := mX11_evenOf) dX11_laysNext_16 ml_X11_358 ok_X11_evenOf (by decide) rfl im_X11_evenOf se_X11_evenOf (ct_X11_evenOf ‹_› ‹_›) (Nat.le_of_ble_eq_true rfl) (by decide) (Nat.le_of_ble_eq_true rfl) ?_
          rw [hev]
          refine e_lstore_n dX11_laysNext_19 rfl (Nat.le_of_ble_eq_true rfl) rfl ?_
          refine e_lload_n dX11_laysNext_20 rfl rfl ?_
          refine e_lconst (v := lN 0) dX11_laysNext_21 rfl ?_
          refine e_lcmp dX11_laysNext_22 ?_
          first | ((with_reducible refine mk_lo ?_); refine o_if_gt (tgt := 27) dX11_laysNext_23 (by decide) (by omega) (by first | assumption | (intro _ he; cases he; done)) (fun h23 => ?_) (fun h23 => ?_)) | ((with_reducible refine mk_ll ?_); refine m_if_gt (tgt := 27) dX11_laysNext_23 (by decide) (by omega) (by omega) (fun h23 => ?_) (fun h23 => ?_)) | ((with_reducible refine mk_lc ?_); refine l_if_gt (tgt := 27) dX11_laysNext_23 (by decide) (fun h23 => ?_) (fun h23 => ?_)) | ((with_reducible refine mk_n ?_); refine n_if_gt (tgt := 27) dX11_laysNext_23 (by decide) (by omega) (fun h23 => ?_) (fun h23 => ?_)) | refine e_if_gt (tgt := 27) dX11_laysNext_23 (by decide) (fun h23 => ?_) (fun h23 => ?_)
          · try first | contradiction | omega
            all_goals
              refine e_aload_n dX11_laysNext_27 rfl rfl ?_
              refine e_iconst (v := nI 1) dX11_laysNext_28 rfl ?_
              refine x_V1 (M' := mX11_outer) dX11_laysNext_29 ml_X11_354 ok_X11_outer (by decide) rfl im_X11_outer se_X11_outer (ct_outer1 ‹_› ‹_›) (Nat.le_of_ble_eq_true rfl) (by decide) (Nat.le_of_ble_eq_true rfl) ?_
              rw [ha, oI_s]
              refine e_istore_n dX11_laysNext_32 rfl (Nat.le_of_ble_eq_true rfl) rfl ?_
              refine e_aload_n dX11_laysNext_33 rfl rfl ?_
              refine e_iconst (v := nI 0) dX11_laysNext_34 rfl ?_
              refine x_V1 (M' := mX11_outer) dX11_laysNext_35 ml_X11_354 ok_X11_outer (by decide) rfl im_X11_outer se_X11_outer (ct_outer0 ‹_› ‹_›) (Nat.le_of_ble_eq_true rfl) (by decide) (Nat.le_of_ble_eq_true rfl) ?_
              rw [hl, oI_s]
              refine e_istore dX11_laysNext_38 (Nat.le_of_ble_eq_true rfl) rfl ?_
              refine e_aload_n dX11_laysNext_40 rfl rfl ?_
              refine e_iload_n dX11_laysNext_41 rfl rfl ?_
              refine e_iload dX11_laysNext_42 rfl ?_
              refine e_lload_n dX11_laysNext_44 rfl rfl ?_
              refine x_V3 (M' := mX11_spanToMove) dX11_laysNext_45 ml_X11_374 ok_X11_spanToMove (by decide) rfl im_X11_spanToMove se_X11_spanToMove (ct_X11_spanToMove ‹_› ‹_› ha6 hl6 (by omega)) (Nat.le_of_ble_eq_true rfl) (by decide) (Nat.le_of_ble_eq_true rfl) ?_
              rw [if_neg hne, hsm]
              refine e_istore dX11_laysNext_48 (Nat.le_of_ble_eq_true rfl) rfl ?_
              refine e_iload dX11_laysNext_50 rfl ?_
              refine e_iconst (v := -1) dX11_laysNext_52 rfl ?_
              first | ((with_reducible refine mk_mo ?_); refine p_icmp_eq (tgt := 74) dX11_laysNext_53 (by decide) (fun h53 => ?_) (fun h53 => ?_)) | ((with_reducible refine mk_ms ?_); refine s_icmp_eq (tgt := 74) dX11_laysNext_53 (by decide) (by omega) (fun h53 => ?_) (fun h53 => ?_)) | ((with_reducible refine mk_mn ?_); refine q_icmp_eq (tgt := 74) dX11_laysNext_53 (by decide) (by omega) (fun h53 => ?_) (fun h53 => ?_)) | ((with_reducible refine mk_nn ?_); refine n_icmp_eq (tgt := 74) dX11_laysNext_53 (by decide) (by omega) (by omega) (fun h53 => ?_) (fun h53 => ?_)) | refine e_icmp_eq (tgt := 74) dX11_laysNext_53 (by decide) (fun h53 => ?_) (fun h53 => ?_)
              · try first | contradiction | omega
                all_goals
                  refine e_aload_n dX11_laysNext_74 rfl rfl ?_
                  refine e_iload_n dX11_laysNext_75 rfl rfl ?_
                  refine x_V1 (M' := mX11_spanToSplit) dX11_laysNext_76 ml_X11_378 ok_X11_spanToSplit (by decide) rfl im_X11_spanToSplit se_X11_spanToSplit (ct_X11_spanToSplit ‹_› ‹_› (by omega)) (Nat.le_of_ble_eq_true rfl) (by decide) (Nat.le_of_ble_eq_true rfl) ?_
                  rw [hss]
                  refine e_istore dX11_laysNext_79 (Nat.le_of_ble_eq_true rfl) rfl ?_
                  refine e_iload dX11_laysNext_81 rfl ?_
                  refine e_iconst (v := -1) dX11_laysNext_83 rfl ?_
                  first | ((with_reducible refine mk_mo ?_); refine p_icmp_ne (tgt := 88) dX11_laysNext_84 (by decide) (fun h84 => ?_) (fun h84 => ?_)) | ((with_reducible refine mk_ms ?_); refine s_icmp_ne (tgt := 88) dX11_laysNext_84 (by decide) (by omega) (fun h84 => ?_) (fun h84 => ?_)) | ((with_reducible refine mk_mn ?_); refine q_icmp_ne (tgt := 88) dX11_laysNext_84 (by decide) (by omega) (fun h84 => ?_) (fun h84 => ?_)) | ((with_reducible refine mk_nn ?_); refine n_icmp_ne (tgt := 88) dX11_laysNext_84 (by decide) (by omega) (by omega) (fun h84 => ?_) (fun h84 => ?_)) | refine e_icmp_ne (tgt := 88) dX11_laysNext_84 (by decide) (fun h84 => ?_) (fun h84 => ?_)
                  · try first | contradiction | omega
                    all_goals
                      refine e_aload_n dX11_laysNext_88 rfl rfl ?_
                      refine e_iconst (v := nI 2) dX11_laysNext_89 rfl ?_
                      refine e_putI dX11_laysNext_90 fl_X11_365 rfl rfl rfl rfl ?_
                      refine e_aload_n dX11_laysNext_93 rfl rfl ?_
                      refine e_iload dX11_laysNext_94 rfl ?_
                      refine e_putI dX11_laysNext_96 fl_X11_368 rfl rfl rfl rfl ?_
                      refine e_aload_n dX11_laysNext_99 rfl rfl ?_
                      refine e_aload_n dX11_laysNext_100 rfl rfl ?_
                      refine e_iload dX11_laysNext_101 rfl ?_
                      refine x_V1 (M' := mX11_middleIn) dX11_laysNext_103 ml_X11_107 ok_X11_middleIn (by decide) rfl im_X11_middleIn se_X11_middleIn (ct_X11_middleIn ‹_› ‹_› hi) (Nat.le_of_ble_eq_true rfl) (by decide) (Nat.le_of_ble_eq_true rfl) ?_
                      rw [hk]
                      refine e_putI dX11_laysNext_106 fl_X11_371 rfl rfl rfl rfl ?_
                      refine e_ret none rfl (r_void dX11_laysNext_109 rfl) ?_
                      refine xq rfl ?_ rfl rfl rfl rfl
                      exact nxH_o _ _ _ _ _ _ _
                  · try first | contradiction | omega
                    all_goals
                      contradiction
              · try first | contradiction | omega
                all_goals
                  contradiction
          · try first | contradiction | omega
            all_goals
              exact absurd h23 (by show ¬ decide (0 < e) = false; simp; omega)
theorem nxO_in {w : Nat → Nat} (iv : Inv w) {q : Nat × Nat × Nat} (h : nxO w = some q) : q.2.1 < w 1 ∧ ((q.1 = 1 ∧ q.2.2 < 6) ∨ (q.1 = 2 ∧ w 1 ≤ 31 ∧ mdO w q.2.1 = some q.2.2)) := by
  unfold nxO at h
  split at h
  · rename_i e a l he ha hl
    split at h
    · cases h
    · have hl6 := (bst_in hl).1
      split at h
      · rename_i i hi
        obtain rfl := Option.some.inj h
        exact ⟨(bst_in hi).1, Or.inl ⟨rfl, hl6⟩⟩
      · split at h
        · rename_i i hi
          split at h
          · rename_i k hk
            obtain rfl := Option.some.inj h
            unfold ssO at hi
            split at hi
            · exact ⟨(bst_in hi).1, Or.inr ⟨rfl, by omega, hk⟩⟩
            · cases hi
          · cases h
        · cases h
  · cases h
def nexR (w : Nat → Nat) (y : Int32) : Int32 := if y = 0 then nx1 (nxO w) else if y = 1 then (match nxO w with | none => -1 | some q => nI (w (10 + q.2.1))) else if y = 2 then nx3 (nxO w) else -1
theorem ct_X11_next {fi : FI} {fr : FR} {ai : FI} {ar : FR} {N : Nat} {w : Nat → Nat} (sm : SM fr) (iv : Inv w) (y0 : Int32) : CP mX11_next 6 0 0 [.ref (rf 11 80), .int y0] fi fr (mW ai w) ar N (xQ (some (.int (nexR w y0))) (nxH fi (nx1 (nxO w)) (nx2 (nxO w)) (nx3 (nxO w))) fr (mW ai w) ar N) := by
  obtain ⟨sW, sA, sK, sU, sC, sKC, sT, sCl⟩ := id sm
  have h1 := iv_n iv
  have h3 := iv_mm iv
  change EV mX11_next 6 0 0 0 [some (.ref (rf 11 80)), some (.int y0)] [] fi fr (mW ai w) ar N (xQ (some (.int (nexR w y0))) (nxH fi (nx1 (nxO w)) (nx2 (nxO w)) (nx3 (nxO w))) fr (mW ai w) ar N)
  have z0 : nI 0 = 0 := rfl
  have z1 : nI 1 = 1 := rfl
  have z2 : nI 2 = 2 := rfl
  cases hn : nxO w with
  | none =>
    refine e_aload_n dX11_next_0 rfl rfl ?_
    refine y_V0 (M' := mX11_laysNext) dX11_next_1 ml_X11_381 ok_X11_laysNext (by decide) rfl im_X11_laysNext se_X11_laysNext (ct_X11_laysNext ‹_› ‹_›) (Nat.le_of_ble_eq_true rfl) (by decide) (Nat.le_of_ble_eq_true rfl) ?_
    rw [hn]
    refine e_iload_n dX11_next_4 rfl rfl ?_
    first | ((with_reducible refine mk_b ?_); refine b_if_ne (tgt := 15) dX11_next_5 (by decide) (fun h5 => ?_) (fun h5 => ?_)) | ((with_reducible refine mk_ll ?_); refine m_if_ne (tgt := 15) dX11_next_5 (by decide) (by omega) (by omega) (fun h5 => ?_) (fun h5 => ?_)) | ((with_reducible refine mk_lc ?_); refine l_if_ne (tgt := 15) dX11_next_5 (by decide) (fun h5 => ?_) (fun h5 => ?_)) | ((with_reducible refine mk_n ?_); refine n_if_ne (tgt := 15) dX11_next_5 (by decide) (by omega) (fun h5 => ?_) (fun h5 => ?_)) | refine e_if_ne (tgt := 15) dX11_next_5 (by decide) (fun h5 => ?_) (fun h5 => ?_)
    · try first | contradiction | omega | (simp only [decide_eq_true_eq, decide_eq_false_iff_not] at h5; omega)
      all_goals
        refine e_iload_n dX11_next_15 rfl rfl ?_
        refine e_iconst (v := nI 1) dX11_next_16 rfl ?_
        first | ((with_reducible refine mk_mo ?_); refine p_icmp_ne (tgt := 47) dX11_next_17 (by decide) (fun h17 => ?_) (fun h17 => ?_)) | ((with_reducible refine mk_ms ?_); refine s_icmp_ne (tgt := 47) dX11_next_17 (by decide) (by omega) (fun h17 => ?_) (fun h17 => ?_)) | ((with_reducible refine mk_mn ?_); refine q_icmp_ne (tgt := 47) dX11_next_17 (by decide) (by omega) (fun h17 => ?_) (fun h17 => ?_)) | ((with_reducible refine mk_nn ?_); refine n_icmp_ne (tgt := 47) dX11_next_17 (by decide) (by omega) (by omega) (fun h17 => ?_) (fun h17 => ?_)) | refine e_icmp_ne (tgt := 47) dX11_next_17 (by decide) (fun h17 => ?_) (fun h17 => ?_)
        · try first | contradiction | omega
          all_goals
            refine e_iload_n dX11_next_47 rfl rfl ?_
            refine e_iconst (v := nI 2) dX11_next_48 rfl ?_
            first | ((with_reducible refine mk_mo ?_); refine p_icmp_ne (tgt := 59) dX11_next_49 (by decide) (fun h49 => ?_) (fun h49 => ?_)) | ((with_reducible refine mk_ms ?_); refine s_icmp_ne (tgt := 59) dX11_next_49 (by decide) (by omega) (fun h49 => ?_) (fun h49 => ?_)) | ((with_reducible refine mk_mn ?_); refine q_icmp_ne (tgt := 59) dX11_next_49 (by decide) (by omega) (fun h49 => ?_) (fun h49 => ?_)) | ((with_reducible refine mk_nn ?_); refine n_icmp_ne (tgt := 59) dX11_next_49 (by decide) (by omega) (by omega) (fun h49 => ?_) (fun h49 => ?_)) | refine e_icmp_ne (tgt := 59) dX11_next_49 (by decide) (fun h49 => ?_) (fun h49 => ?_)
            · try first | contradiction | omega
              all_goals
                refine e_iconst (v := -1) dX11_next_59 rfl ?_
                refine e_ret (some _) rfl (r_int dX11_next_60 rfl) ?_
                refine xq ?_ rfl rfl rfl rfl rfl
                unfold nexR
                rw [hn]
                grind [nx1, nx2, nx3]
            · try first | contradiction | omega
              all_goals
                refine e_aload_n dX11_next_52 rfl rfl ?_
                refine e_getI dX11_next_53 fl_X11_371 rfl ?_
                rw [nxH_c]
                refine e_goto (tgt := 60) dX11_next_56 (by decide) ?_
                refine e_ret (some _) rfl (r_int dX11_next_60 rfl) ?_
                refine xq ?_ rfl rfl rfl rfl rfl
                unfold nexR
                rw [hn]
                grind [nx1, nx2, nx3]
        · try first | contradiction | omega
          all_goals
            refine e_aload_n dX11_next_20 rfl rfl ?_
            refine e_getI dX11_next_21 fl_X11_368 rfl ?_
            rw [nxH_b]
            refine e_iconst (v := -1) dX11_next_24 rfl ?_
            first | ((with_reducible refine mk_mo ?_); refine p_icmp_ne (tgt := 32) dX11_next_25 (by decide) (fun h25 => ?_) (fun h25 => ?_)) | ((with_reducible refine mk_ms ?_); refine s_icmp_ne (tgt := 32) dX11_next_25 (by decide) (by omega) (fun h25 => ?_) (fun h25 => ?_)) | ((with_reducible refine mk_mn ?_); refine q_icmp_ne (tgt := 32) dX11_next_25 (by decide) (by omega) (fun h25 => ?_) (fun h25 => ?_)) | ((with_reducible refine mk_nn ?_); refine n_icmp_ne (tgt := 32) dX11_next_25 (by decide) (by omega) (by omega) (fun h25 => ?_) (fun h25 => ?_)) | refine e_icmp_ne (tgt := 32) dX11_next_25 (by decide) (fun h25 => ?_) (fun h25 => ?_)
            · try first | contradiction | omega
              all_goals
                exact absurd rfl h25
            · try first | contradiction | omega
              all_goals
                refine e_iconst (v := -1) dX11_next_28 rfl ?_
                refine e_goto (tgt := 60) dX11_next_29 (by decide) ?_
                refine e_ret (some _) rfl (r_int dX11_next_60 rfl) ?_
                refine xq ?_ rfl rfl rfl rfl rfl
                unfold nexR
                rw [hn]
                grind [nx1, nx2, nx3]
    · try first | contradiction | omega | (simp only [decide_eq_true_eq, decide_eq_false_iff_not] at h5; omega)
      all_goals
        refine e_aload_n dX11_next_8 rfl rfl ?_
        refine e_getI dX11_next_9 fl_X11_365 rfl ?_
        rw [nxH_a]
        refine e_goto (tgt := 60) dX11_next_12 (by decide) ?_
        refine e_ret (some _) rfl (r_int dX11_next_60 rfl) ?_
        refine xq ?_ rfl rfl rfl rfl rfl
        unfold nexR
        rw [hn]
        grind [nx1, nx2, nx3]
  | some q =>
    have hq := nxO_in iv hn
    have e2 : nx2 (some q) = nI q.2.1 := rfl
    refine e_aload_n dX11_next_0 rfl rfl ?_
    refine y_V0 (M' := mX11_laysNext) dX11_next_1 ml_X11_381 ok_X11_laysNext (by decide) rfl im_X11_laysNext se_X11_laysNext (ct_X11_laysNext ‹_› ‹_›) (Nat.le_of_ble_eq_true rfl) (by decide) (Nat.le_of_ble_eq_true rfl) ?_
    rw [hn]
    refine e_iload_n dX11_next_4 rfl rfl ?_
    first | ((with_reducible refine mk_b ?_); refine b_if_ne (tgt := 15) dX11_next_5 (by decide) (fun h5 => ?_) (fun h5 => ?_)) | ((with_reducible refine mk_ll ?_); refine m_if_ne (tgt := 15) dX11_next_5 (by decide) (by omega) (by omega) (fun h5 => ?_) (fun h5 => ?_)) | ((with_reducible refine mk_lc ?_); refine l_if_ne (tgt := 15) dX11_next_5 (by decide) (fun h5 => ?_) (fun h5 => ?_)) | ((with_reducible refine mk_n ?_); refine n_if_ne (tgt := 15) dX11_next_5 (by decide) (by omega) (fun h5 => ?_) (fun h5 => ?_)) | refine e_if_ne (tgt := 15) dX11_next_5 (by decide) (fun h5 => ?_) (fun h5 => ?_)
    · try first | contradiction | omega | (simp only [decide_eq_true_eq, decide_eq_false_iff_not] at h5; omega)
      all_goals
        refine e_iload_n dX11_next_15 rfl rfl ?_
        refine e_iconst (v := nI 1) dX11_next_16 rfl ?_
        first | ((with_reducible refine mk_mo ?_); refine p_icmp_ne (tgt := 47) dX11_next_17 (by decide) (fun h17 => ?_) (fun h17 => ?_)) | ((with_reducible refine mk_ms ?_); refine s_icmp_ne (tgt := 47) dX11_next_17 (by decide) (by omega) (fun h17 => ?_) (fun h17 => ?_)) | ((with_reducible refine mk_mn ?_); refine q_icmp_ne (tgt := 47) dX11_next_17 (by decide) (by omega) (fun h17 => ?_) (fun h17 => ?_)) | ((with_reducible refine mk_nn ?_); refine n_icmp_ne (tgt := 47) dX11_next_17 (by decide) (by omega) (by omega) (fun h17 => ?_) (fun h17 => ?_)) | refine e_icmp_ne (tgt := 47) dX11_next_17 (by decide) (fun h17 => ?_) (fun h17 => ?_)
        · try first | contradiction | omega
          all_goals
            refine e_iload_n dX11_next_47 rfl rfl ?_
            refine e_iconst (v := nI 2) dX11_next_48 rfl ?_
            first | ((with_reducible refine mk_mo ?_); refine p_icmp_ne (tgt := 59) dX11_next_49 (by decide) (fun h49 => ?_) (fun h49 => ?_)) | ((with_reducible refine mk_ms ?_); refine s_icmp_ne (tgt := 59) dX11_next_49 (by decide) (by omega) (fun h49 => ?_) (fun h49 => ?_)) | ((with_reducible refine mk_mn ?_); refine q_icmp_ne (tgt := 59) dX11_next_49 (by decide) (by omega) (fun h49 => ?_) (fun h49 => ?_)) | ((with_reducible refine mk_nn ?_); refine n_icmp_ne (tgt := 59) dX11_next_49 (by decide) (by omega) (by omega) (fun h49 => ?_) (fun h49 => ?_)) | refine e_icmp_ne (tgt := 59) dX11_next_49 (by decide) (fun h49 => ?_) (fun h49 => ?_)
            · try first | contradiction | omega
              all_goals
                refine e_iconst (v := -1) dX11_next_59 rfl ?_
                refine e_ret (some _) rfl (r_int dX11_next_60 rfl) ?_
                refine xq ?_ rfl rfl rfl rfl rfl
                unfold nexR
                rw [hn]
                grind [nx1, nx2, nx3]
            · try first | contradiction | omega
              all_goals
                refine e_aload_n dX11_next_52 rfl rfl ?_
                refine e_getI dX11_next_53 fl_X11_371 rfl ?_
                rw [nxH_c]
                refine e_goto (tgt := 60) dX11_next_56 (by decide) ?_
                refine e_ret (some _) rfl (r_int dX11_next_60 rfl) ?_
                refine xq ?_ rfl rfl rfl rfl rfl
                unfold nexR
                rw [hn]
                grind [nx1, nx2, nx3]
        · try first | contradiction | omega
          all_goals
            refine e_aload_n dX11_next_20 rfl rfl ?_
            refine e_getI dX11_next_21 fl_X11_368 rfl ?_
            rw [nxH_b]
            rw [e2]
            refine e_iconst (v := -1) dX11_next_24 rfl ?_
            first | ((with_reducible refine mk_mo ?_); refine p_icmp_ne (tgt := 32) dX11_next_25 (by decide) (fun h25 => ?_) (fun h25 => ?_)) | ((with_reducible refine mk_ms ?_); refine s_icmp_ne (tgt := 32) dX11_next_25 (by decide) (by omega) (fun h25 => ?_) (fun h25 => ?_)) | ((with_reducible refine mk_mn ?_); refine q_icmp_ne (tgt := 32) dX11_next_25 (by decide) (by omega) (fun h25 => ?_) (fun h25 => ?_)) | ((with_reducible refine mk_nn ?_); refine n_icmp_ne (tgt := 32) dX11_next_25 (by decide) (by omega) (by omega) (fun h25 => ?_) (fun h25 => ?_)) | refine e_icmp_ne (tgt := 32) dX11_next_25 (by decide) (fun h25 => ?_) (fun h25 => ?_)
            · try first | contradiction | omega
              all_goals
                refine e_aload_n dX11_next_32 rfl rfl ?_
                refine e_getR dX11_next_33 fl_X11_7 rfl (by assumption) ?_
                refine e_bipush (v := nI 10) dX11_next_36 rfl ?_
                refine e_aload_n dX11_next_38 rfl rfl ?_
                refine e_getI dX11_next_39 fl_X11_368 rfl ?_
                rw [nxH_b]
                first | ((with_reducible refine mk_nn ?_); refine n_iadd dX11_next_42 ?_) | refine e_iadd dX11_next_42 ?_
                first | ((with_reducible refine mk_ldw ?_); refine e_ldw dX11_next_43 (by omega) ?_) | refine e_iald _ dX11_next_43 ⟨by decide, by decide⟩ rfl rfl (by simp only [lenK]; omega) ?_
                refine e_goto (tgt := 60) dX11_next_44 (by decide) ?_
                refine e_ret (some _) rfl (r_int dX11_next_60 rfl) ?_
                refine xq ?_ rfl rfl rfl rfl rfl
                unfold nexR
                rw [hn]
                grind [nx1, nx2, nx3]
            · try first | contradiction | omega
              all_goals
                contradiction
    · try first | contradiction | omega | (simp only [decide_eq_true_eq, decide_eq_false_iff_not] at h5; omega)
      all_goals
        refine e_aload_n dX11_next_8 rfl rfl ?_
        refine e_getI dX11_next_9 fl_X11_365 rfl ?_
        rw [nxH_a]
        refine e_goto (tgt := 60) dX11_next_12 (by decide) ?_
        refine e_ret (some _) rfl (r_int dX11_next_60 rfl) ?_
        refine xq ?_ rfl rfl rfl rfl rfl
        unfold nexR
        rw [hn]
        grind [nx1, nx2, nx3]
