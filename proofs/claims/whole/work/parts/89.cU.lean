theorem ct_X10_middle {fi : FI} {fr : FR} {ai : FI} {ar : FR} {N : Nat} {w lg : Nat → Nat} {u : Nat} {V : Nat → Nat → Nat} {im : Option ((Nat → Nat) × (Nat → Nat))} (cs : CLS fi fr ai ar N w lg (w 0) u V im) (iv : Inv w) (h01 : w 0 < 1999) (x : Int32) (h3 : (mdlW w x) 3 ≤ 12) : CP mX10_middle 4 57 8609 [.ref (rf 10 0), .int x] fi fr ai ar N (aQ (some (.int (mdlR w x))) (mdlW w x) (mdlL lg w x) (mdlW w x 0) (acU (decide (mdlR w x ≠ -1)) u) (acV (decide (mdlR w x ≠ -1)) u V w) im fi ai) := by
  obtain ⟨cm, sm, hK, B0, t, cb⟩ := cs
  have ht := cb.2.1
  have hu := cb.2.2.1
  change EV mX10_middle 4 57 8609 0 [some (.ref (rf 10 0)), some (.int x)] [] fi fr ai ar N (aQ (some (.int (mdlR w x))) (mdlW w x) (mdlL lg w x) (mdlW w x 0) (acU (decide (mdlR w x ≠ -1)) u) (acV (decide (mdlR w x ≠ -1)) u V w) im fi ai)
  generalize hQ : (aQ (some (.int (mdlR w x))) (mdlW w x) (mdlL lg w x) (mdlW w x 0) (acU (decide (mdlR w x ≠ -1)) u) (acV (decide (mdlR w x ≠ -1)) u V w) im fi ai) = Q
  refine e_aload_n dX10_middle_0 rfl rfl ?_
  refine e_getR dX10_middle_1 fl_X10_58 rfl (cx_6 cm) ?_
  refine e_aload_n dX10_middle_4 rfl rfl ?_
  refine e_getR dX10_middle_5 fl_X10_18 rfl (cx_0 cm) ?_
  refine e_callV (M' := mX0_save) (k' := 57) (z' := 8609) (k2 := 0) (z2 := 0) (As := [_]) dX10_middle_8 ml_X10_126 ok_X0_save (by decide) rfl im_X0_save se_X0_save (ct_X0_save cm sm cb.1 iv hK.1 ht cb.2.2.2.1) rfl rfl (Nat.le_of_ble_eq_true rfl) (by decide) ⟨by omega, by omega⟩ (Nat.le_of_ble_eq_true rfl) (fun r1 f1 g1 a1 q1 n1 hI => ?_)
  obtain ⟨i1, B, cm, sm, al, hB, hb, hk, fa⟩ := hI
  rw [i1]
  clear i1
  dsimp only [Option.toList, List.nil_append]
  have hK : K f1 a1 w lg (w 0) := K_fr (iv_mm iv) (fun f r a b => fa.1 f r (by omega)) (fun a x y => fa.2.1 a (by omega)) hK
  have cb1 := CB_sv cb al hB fa
  have hF : FR1 f1 a1 f1 a1 := FR1_rf
  refine e_aload_n dX10_middle_11 rfl rfl ?_
  refine e_aload_n dX10_middle_12 rfl rfl ?_
  refine e_getR dX10_middle_13 fl_X10_44 rfl (cx_3 cm) ?_
  refine e_iload_n dX10_middle_16 rfl rfl ?_
  refine kx_V1 (M' := mX2_cutInMiddle) dX10_middle_17 ml_X10_136 ok_X2_cutInMiddle (by decide) rfl im_X2_cutInMiddle se_X2_cutInMiddle (ct_X2_cutInMiddle cm iv hK (by omega) _) (Nat.le_of_ble_eq_true rfl) (by decide) (Nat.le_of_ble_eq_true rfl) (fun fi ai hG hK => ?_)
  have hF := FR1_tr hF hG
  refine x_V1 (M' := mX10_kept) dX10_middle_20 ml_X10_133 ok_X10_kept (by decide) rfl im_X10_kept se_X10_kept (ct_X10_kept (t := t) (u := u) cm ht hu ((hF.1 _ _ (by decide)).trans cb1.2.2.2.1) ((hF.1 _ _ (by decide)).trans cb1.2.2.2.2.1)) (Nat.le_of_ble_eq_true rfl) (by decide) (Nat.le_of_ble_eq_true rfl) ?_
  refine e_ret (some _) rfl (r_int dX10_middle_23 rfl) ?_
  subst hQ
  exact ac_fin cm sm fa cb1 hb hk iv hF hK h3
theorem ct_X10_join {fi : FI} {fr : FR} {ai : FI} {ar : FR} {N : Nat} {w lg : Nat → Nat} {u : Nat} {V : Nat → Nat → Nat} {im : Option ((Nat → Nat) × (Nat → Nat))} (cs : CLS fi fr ai ar N w lg (w 0) u V im) (iv : Inv w) (h01 : w 0 < 1999) (x : Int32) (h3 : (jonW w (nmO w x)) 3 ≤ 12) : CP mX10_join 4 57 8609 [.ref (rf 10 0), .int x] fi fr ai ar N (aQ (some (.int (jonR w (nmO w x)))) (jonW w (nmO w x)) (jonL lg w (nmO w x)) (jonW w (nmO w x) 0) (acU (decide (jonR w (nmO w x) ≠ -1)) u) (acV (decide (jonR w (nmO w x) ≠ -1)) u V w) im fi ai) := by
  obtain ⟨cm, sm, hK, B0, t, cb⟩ := cs
  have ht := cb.2.1
  have hu := cb.2.2.1
  change EV mX10_join 4 57 8609 0 [some (.ref (rf 10 0)), some (.int x)] [] fi fr ai ar N (aQ (some (.int (jonR w (nmO w x)))) (jonW w (nmO w x)) (jonL lg w (nmO w x)) (jonW w (nmO w x) 0) (acU (decide (jonR w (nmO w x) ≠ -1)) u) (acV (decide (jonR w (nmO w x) ≠ -1)) u V w) im fi ai)
  generalize hQ : (aQ (some (.int (jonR w (nmO w x)))) (jonW w (nmO w x)) (jonL lg w (nmO w x)) (jonW w (nmO w x) 0) (acU (decide (jonR w (nmO w x) ≠ -1)) u) (acV (decide (jonR w (nmO w x) ≠ -1)) u V w) im fi ai) = Q
  refine e_aload_n dX10_join_0 rfl rfl ?_
  refine e_getR dX10_join_1 fl_X10_58 rfl (cx_6 cm) ?_
  refine e_aload_n dX10_join_4 rfl rfl ?_
  refine e_getR dX10_join_5 fl_X10_18 rfl (cx_0 cm) ?_
  refine e_callV (M' := mX0_save) (k' := 57) (z' := 8609) (k2 := 0) (z2 := 0) (As := [_]) dX10_join_8 ml_X10_126 ok_X0_save (by decide) rfl im_X0_save se_X0_save (ct_X0_save cm sm cb.1 iv hK.1 ht cb.2.2.2.1) rfl rfl (Nat.le_of_ble_eq_true rfl) (by decide) ⟨by omega, by omega⟩ (Nat.le_of_ble_eq_true rfl) (fun r1 f1 g1 a1 q1 n1 hI => ?_)
  obtain ⟨i1, B, cm, sm, al, hB, hb, hk, fa⟩ := hI
  rw [i1]
  clear i1
  dsimp only [Option.toList, List.nil_append]
  have hK : K f1 a1 w lg (w 0) := K_fr (iv_mm iv) (fun f r a b => fa.1 f r (by omega)) (fun a x y => fa.2.1 a (by omega)) hK
  have cb1 := CB_sv cb al hB fa
  have hF : FR1 f1 a1 f1 a1 := FR1_rf
  refine e_aload_n dX10_join_11 rfl rfl ?_
  refine e_aload_n dX10_join_12 rfl rfl ?_
  refine e_getR dX10_join_13 fl_X10_44 rfl (cx_3 cm) ?_
  refine e_iload_n dX10_join_16 rfl rfl ?_
  refine kx_V1 (M' := mX2_joinWithNext) dX10_join_17 ml_X10_139 ok_X2_joinWithNext (by decide) rfl im_X2_joinWithNext se_X2_joinWithNext (ct_X2_joinWithNext cm iv hK (by omega) _) (Nat.le_of_ble_eq_true rfl) (by decide) (Nat.le_of_ble_eq_true rfl) (fun fi ai hG hK => ?_)
  have hF := FR1_tr hF hG
  refine x_V1 (M' := mX10_kept) dX10_join_20 ml_X10_133 ok_X10_kept (by decide) rfl im_X10_kept se_X10_kept (ct_X10_kept (t := t) (u := u) cm ht hu ((hF.1 _ _ (by decide)).trans cb1.2.2.2.1) ((hF.1 _ _ (by decide)).trans cb1.2.2.2.2.1)) (Nat.le_of_ble_eq_true rfl) (by decide) (Nat.le_of_ble_eq_true rfl) ?_
  refine e_ret (some _) rfl (r_int dX10_join_23 rfl) ?_
  subst hQ
  exact ac_fin cm sm fa cb1 hb hk iv hF hK h3
theorem ct_X10_move {fi : FI} {fr : FR} {ai : FI} {ar : FR} {N : Nat} {w lg : Nat → Nat} {u : Nat} {V : Nat → Nat → Nat} {im : Option ((Nat → Nat) × (Nat → Nat))} (cs : CLS fi fr ai ar N w lg (w 0) u V im) (iv : Inv w) (g4 : cnt (goB w) (w 3) ≤ 4) (x y : Int32) (h3 : (mvW w (nmO w x) y) 3 ≤ 12) : CP mX10_move 4 57 8609 [.ref (rf 10 0), .int x, .int y] fi fr ai ar N (aQ (some (.int (mvR w (nmO w x) y))) (mvW w (nmO w x) y) (lg) (w 0) (acU (decide (mvR w (nmO w x) y ≠ -1)) u) (acV (decide (mvR w (nmO w x) y ≠ -1)) u V w) im fi ai) := by
  obtain ⟨cm, sm, hK, B0, t, cb⟩ := cs
  have ht := cb.2.1
  have hu := cb.2.2.1
  change EV mX10_move 4 57 8609 0 [some (.ref (rf 10 0)), some (.int x), some (.int y)] [] fi fr ai ar N (aQ (some (.int (mvR w (nmO w x) y))) (mvW w (nmO w x) y) (lg) (w 0) (acU (decide (mvR w (nmO w x) y ≠ -1)) u) (acV (decide (mvR w (nmO w x) y ≠ -1)) u V w) im fi ai)
  generalize hQ : (aQ (some (.int (mvR w (nmO w x) y))) (mvW w (nmO w x) y) (lg) (w 0) (acU (decide (mvR w (nmO w x) y ≠ -1)) u) (acV (decide (mvR w (nmO w x) y ≠ -1)) u V w) im fi ai) = Q
  refine e_aload_n dX10_move_0 rfl rfl ?_
  refine e_getR dX10_move_1 fl_X10_58 rfl (cx_6 cm) ?_
  refine e_aload_n dX10_move_4 rfl rfl ?_
  refine e_getR dX10_move_5 fl_X10_18 rfl (cx_0 cm) ?_
  refine e_callV (M' := mX0_save) (k' := 57) (z' := 8609) (k2 := 0) (z2 := 0) (As := [_]) dX10_move_8 ml_X10_126 ok_X0_save (by decide) rfl im_X0_save se_X0_save (ct_X0_save cm sm cb.1 iv hK.1 ht cb.2.2.2.1) rfl rfl (Nat.le_of_ble_eq_true rfl) (by decide) ⟨by omega, by omega⟩ (Nat.le_of_ble_eq_true rfl) (fun r1 f1 g1 a1 q1 n1 hI => ?_)
  obtain ⟨i1, B, cm, sm, al, hB, hb, hk, fa⟩ := hI
  rw [i1]
  clear i1
  dsimp only [Option.toList, List.nil_append]
  have hK : K f1 a1 w lg (w 0) := K_fr (iv_mm iv) (fun f r a b => fa.1 f r (by omega)) (fun a x y => fa.2.1 a (by omega)) hK
  have cb1 := CB_sv cb al hB fa
  have hF : FR1 f1 a1 f1 a1 := FR1_rf
  refine e_aload_n dX10_move_11 rfl rfl ?_
  refine e_aload_n dX10_move_12 rfl rfl ?_
  refine e_getR dX10_move_13 fl_X10_51 rfl (cx_4 cm) ?_
  refine e_iload_n dX10_move_16 rfl rfl ?_
  refine e_iload_n dX10_move_17 rfl rfl ?_
  refine kx_V2 (M' := mX5_begin) dX10_move_18 ml_X10_142 ok_X5_begin (by decide) rfl im_X5_begin se_X5_begin (ct_X5_begin cm iv hK (by assumption) _ _) (Nat.le_of_ble_eq_true rfl) (by decide) (Nat.le_of_ble_eq_true rfl) (fun fi ai hG hK => ?_)
  have hF := FR1_tr hF hG
  refine x_V1 (M' := mX10_kept) dX10_move_21 ml_X10_133 ok_X10_kept (by decide) rfl im_X10_kept se_X10_kept (ct_X10_kept (t := t) (u := u) cm ht hu ((hF.1 _ _ (by decide)).trans cb1.2.2.2.1) ((hF.1 _ _ (by decide)).trans cb1.2.2.2.2.1)) (Nat.le_of_ble_eq_true rfl) (by decide) (Nat.le_of_ble_eq_true rfl) ?_
  refine e_ret (some _) rfl (r_int dX10_move_24 rfl) ?_
  subst hQ
  exact ac_fin cm sm fa cb1 hb hk iv hF hK h3
theorem ct_X10_step {fi : FI} {fr : FR} {ai : FI} {ar : FR} {N : Nat} {w lg : Nat → Nat} {u : Nat} {V : Nat → Nat → Nat} {im : Option ((Nat → Nat) × (Nat → Nat))} (cs : CLS fi fr ai ar N w lg (w 0) u V im) (iv : Inv w) (i2 : Inv2 w) (h01 : w 0 < 1999) (x y : Int32) (h3 : (if stpB w x y then st1 w x.toNatClampNeg y.toNatClampNeg else w) 3 ≤ 12) : CP mX10_step 5 57 8609 [.ref (rf 10 0), .int x, .int y] fi fr ai ar N (aQ (some (.int (if stpB w x y then nI (st1 w x.toNatClampNeg y.toNatClampNeg (7694 + 72 * x.toNatClampNeg + 0)) else -1))) (if stpB w x y then st1 w x.toNatClampNeg y.toNatClampNeg else w) (if stpB w x y then stL lg w x.toNatClampNeg y.toNatClampNeg else lg) ((if stpB w x y then st1 w x.toNatClampNeg y.toNatClampNeg else w) 0) (acU (decide ((if stpB w x y then nI (st1 w x.toNatClampNeg y.toNatClampNeg (7694 + 72 * x.toNatClampNeg + 0)) else -1) ≠ -1)) u) (acV (decide ((if stpB w x y then nI (st1 w x.toNatClampNeg y.toNatClampNeg (7694 + 72 * x.toNatClampNeg + 0)) else -1) ≠ -1)) u V w) im fi ai) := by
  obtain ⟨cm, sm, hK, B0, t, cb⟩ := cs
  have ht := cb.2.1
  have hu := cb.2.2.1
  change EV mX10_step 5 57 8609 0 [some (.ref (rf 10 0)), some (.int x), some (.int y)] [] fi fr ai ar N (aQ (some (.int (if stpB w x y then nI (st1 w x.toNatClampNeg y.toNatClampNeg (7694 + 72 * x.toNatClampNeg + 0)) else -1))) (if stpB w x y then st1 w x.toNatClampNeg y.toNatClampNeg else w) (if stpB w x y then stL lg w x.toNatClampNeg y.toNatClampNeg else lg) ((if stpB w x y then st1 w x.toNatClampNeg y.toNatClampNeg else w) 0) (acU (decide ((if stpB w x y then nI (st1 w x.toNatClampNeg y.toNatClampNeg (7694 + 72 * x.toNatClampNeg + 0)) else -1) ≠ -1)) u) (acV (decide ((if stpB w x y then nI (st1 w x.toNatClampNeg y.toNatClampNeg (7694 + 72 * x.toNatClampNeg + 0)) else -1) ≠ -1)) u V w) im fi ai)
  generalize hQ : (aQ (some (.int (if stpB w x y then nI (st1 w x.toNatClampNeg y.toNatClampNeg (7694 + 72 * x.toNatClampNeg + 0)) else -1))) (if stpB w x y then st1 w x.toNatClampNeg y.toNatClampNeg else w) (if stpB w x y then stL lg w x.toNatClampNeg y.toNatClampNeg else lg) ((if stpB w x y then st1 w x.toNatClampNeg y.toNatClampNeg else w) 0) (acU (decide ((if stpB w x y then nI (st1 w x.toNatClampNeg y.toNatClampNeg (7694 + 72 * x.toNatClampNeg + 0)) else -1) ≠ -1)) u) (acV (decide ((if stpB w x y then nI (st1 w x.toNatClampNeg y.toNatClampNeg (7694 + 72 * x.toNatClampNeg + 0)) else -1) ≠ -1)) u V w) im fi ai) = Q
  refine e_aload_n dX10_step_0 rfl rfl ?_
  refine e_getR dX10_step_1 fl_X10_58 rfl (cx_6 cm) ?_
  refine e_aload_n dX10_step_4 rfl rfl ?_
  refine e_getR dX10_step_5 fl_X10_18 rfl (cx_0 cm) ?_
  refine e_callV (M' := mX0_save) (k' := 57) (z' := 8609) (k2 := 0) (z2 := 0) (As := [_]) dX10_step_8 ml_X10_126 ok_X0_save (by decide) rfl im_X0_save se_X0_save (ct_X0_save cm sm cb.1 iv hK.1 ht cb.2.2.2.1) rfl rfl (Nat.le_of_ble_eq_true rfl) (by decide) ⟨by omega, by omega⟩ (Nat.le_of_ble_eq_true rfl) (fun r1 f1 g1 a1 q1 n1 hI => ?_)
  obtain ⟨i1, B, cm, sm, al, hB, hb, hk, fa⟩ := hI
  rw [i1]
  clear i1
  dsimp only [Option.toList, List.nil_append]
  have hK : K f1 a1 w lg (w 0) := K_fr (iv_mm iv) (fun f r a b => fa.1 f r (by omega)) (fun a x y => fa.2.1 a (by omega)) hK
  have cb1 := CB_sv cb al hB fa
  have hF : FR1 f1 a1 f1 a1 := FR1_rf
  refine e_aload_n dX10_step_11 rfl rfl ?_
  refine e_aload_n dX10_step_12 rfl rfl ?_
  refine e_getR dX10_step_13 fl_X10_51 rfl (cx_4 cm) ?_
  refine e_iload_n dX10_step_16 rfl rfl ?_
  refine e_iload_n dX10_step_17 rfl rfl ?_
  refine kx_V2 (M' := mX5_takeSteps) dX10_step_18 ml_X10_145 ok_X5_takeSteps (by decide) rfl im_X5_takeSteps se_X5_takeSteps (ct_X5_takeSteps cm iv ‹_› hK (by omega) _ _) (Nat.le_of_ble_eq_true rfl) (by decide) (Nat.le_of_ble_eq_true rfl) (fun fi ai hG hK => ?_)
  have hF := FR1_tr hF hG
  refine x_V1 (M' := mX10_kept) dX10_step_21 ml_X10_133 ok_X10_kept (by decide) rfl im_X10_kept se_X10_kept (ct_X10_kept (t := t) (u := u) cm ht hu ((hF.1 _ _ (by decide)).trans cb1.2.2.2.1) ((hF.1 _ _ (by decide)).trans cb1.2.2.2.2.1)) (Nat.le_of_ble_eq_true rfl) (by decide) (Nat.le_of_ble_eq_true rfl) ?_
  refine e_ret (some _) rfl (r_int dX10_step_24 rfl) ?_
  subst hQ
  exact ac_fin cm sm fa cb1 hb hk iv hF hK h3
theorem ct_X10_recover {fi : FI} {fr : FR} {ai : FI} {ar : FR} {N : Nat} {w lg : Nat → Nat} {u : Nat} {V : Nat → Nat → Nat} {im : Option ((Nat → Nat) × (Nat → Nat))} (cs : CLS fi fr ai ar N w lg (w 0) u V im) (iv : Inv w) (i2 : Inv2 w) (x : Int32) (h3 : (if recB w x then endW w x.toNatClampNeg else w) 3 ≤ 12) : CP mX10_recover 4 57 8609 [.ref (rf 10 0), .int x] fi fr ai ar N (aQ (some (.int (if recB w x then nI (endS w x.toNatClampNeg) else -1))) (if recB w x then endW w x.toNatClampNeg else w) (lg) (w 0) (acU (decide ((if recB w x then nI (endS w x.toNatClampNeg) else -1) ≠ -1)) u) (acV (decide ((if recB w x then nI (endS w x.toNatClampNeg) else -1) ≠ -1)) u V w) im fi ai) := by
  obtain ⟨cm, sm, hK, B0, t, cb⟩ := cs
  have ht := cb.2.1
  have hu := cb.2.2.1
  change EV mX10_recover 4 57 8609 0 [some (.ref (rf 10 0)), some (.int x)] [] fi fr ai ar N (aQ (some (.int (if recB w x then nI (endS w x.toNatClampNeg) else -1))) (if recB w x then endW w x.toNatClampNeg else w) (lg) (w 0) (acU (decide ((if recB w x then nI (endS w x.toNatClampNeg) else -1) ≠ -1)) u) (acV (decide ((if recB w x then nI (endS w x.toNatClampNeg) else -1) ≠ -1)) u V w) im fi ai)
  generalize hQ : (aQ (some (.int (if recB w x then nI (endS w x.toNatClampNeg) else -1))) (if recB w x then endW w x.toNatClampNeg else w) (lg) (w 0) (acU (decide ((if recB w x then nI (endS w x.toNatClampNeg) else -1) ≠ -1)) u) (acV (decide ((if recB w x then nI (endS w x.toNatClampNeg) else -1) ≠ -1)) u V w) im fi ai) = Q
  refine e_aload_n dX10_recover_0 rfl rfl ?_
  refine e_getR dX10_recover_1 fl_X10_58 rfl (cx_6 cm) ?_
  refine e_aload_n dX10_recover_4 rfl rfl ?_
  refine e_getR dX10_recover_5 fl_X10_18 rfl (cx_0 cm) ?_
  refine e_callV (M' := mX0_save) (k' := 57) (z' := 8609) (k2 := 0) (z2 := 0) (As := [_]) dX10_recover_8 ml_X10_126 ok_X0_save (by decide) rfl im_X0_save se_X0_save (ct_X0_save cm sm cb.1 iv hK.1 ht cb.2.2.2.1) rfl rfl (Nat.le_of_ble_eq_true rfl) (by decide) ⟨by omega, by omega⟩ (Nat.le_of_ble_eq_true rfl) (fun r1 f1 g1 a1 q1 n1 hI => ?_)
  obtain ⟨i1, B, cm, sm, al, hB, hb, hk, fa⟩ := hI
  rw [i1]
  clear i1
  dsimp only [Option.toList, List.nil_append]
  have hK : K f1 a1 w lg (w 0) := K_fr (iv_mm iv) (fun f r a b => fa.1 f r (by omega)) (fun a x y => fa.2.1 a (by omega)) hK
  have cb1 := CB_sv cb al hB fa
  have hF : FR1 f1 a1 f1 a1 := FR1_rf
  refine e_aload_n dX10_recover_11 rfl rfl ?_
  refine e_aload_n dX10_recover_12 rfl rfl ?_
  refine e_getR dX10_recover_13 fl_X10_51 rfl (cx_4 cm) ?_
  refine e_iload_n dX10_recover_16 rfl rfl ?_
  refine kx_V1 (M' := mX5_mend) dX10_recover_17 ml_X10_158 ok_X5_mend (by decide) rfl im_X5_mend se_X5_mend (ct_X5_mend cm iv hK ‹_› _) (Nat.le_of_ble_eq_true rfl) (by decide) (Nat.le_of_ble_eq_true rfl) (fun fi ai hG hK => ?_)
  have hF := FR1_tr hF hG
  refine x_V1 (M' := mX10_kept) dX10_recover_20 ml_X10_133 ok_X10_kept (by decide) rfl im_X10_kept se_X10_kept (ct_X10_kept (t := t) (u := u) cm ht hu ((hF.1 _ _ (by decide)).trans cb1.2.2.2.1) ((hF.1 _ _ (by decide)).trans cb1.2.2.2.2.1)) (Nat.le_of_ble_eq_true rfl) (by decide) (Nat.le_of_ble_eq_true rfl) ?_
  refine e_ret (some _) rfl (r_int dX10_recover_23 rfl) ?_
  subst hQ
  exact ac_fin cm sm fa cb1 hb hk iv hF hK h3
theorem ct_X10_give {fi : FI} {fr : FR} {ai : FI} {ar : FR} {N : Nat} {w lg : Nat → Nat} {u : Nat} {V : Nat → Nat → Nat} {im : Option ((Nat → Nat) × (Nat → Nat))} (cs : CLS fi fr ai ar N w lg (w 0) u V im) (iv : Inv w) (i2 : Inv2 w) (x : Int32) (h3 : (if givB w x then endW w x.toNatClampNeg else w) 3 ≤ 12) : CP mX10_give 4 57 8609 [.ref (rf 10 0), .int x] fi fr ai ar N (aQ (some (.int (bI (givB w x)))) (if givB w x then endW w x.toNatClampNeg else w) (lg) (w 0) (acU (givB w x) u) (acV (givB w x) u V w) im fi ai) := by
  obtain ⟨cm, sm, hK, B0, t, cb⟩ := cs
  have ht := cb.2.1
  have hu := cb.2.2.1
  change EV mX10_give 4 57 8609 0 [some (.ref (rf 10 0)), some (.int x), none] [] fi fr ai ar N (aQ (some (.int (bI (givB w x)))) (if givB w x then endW w x.toNatClampNeg else w) (lg) (w 0) (acU (givB w x) u) (acV (givB w x) u V w) im fi ai)
  cases hg : givB w x with
  | true =>
    rw [hg] at h3
    generalize hQ : (aQ (some (.int (bI true))) (if true then endW w x.toNatClampNeg else w) lg (w 0) (acU true u) (acV true u V w) im fi ai) = Q
    refine e_aload_n dX10_give_0 rfl rfl ?_
    refine e_getR dX10_give_1 fl_X10_58 rfl (cx_6 cm) ?_
    refine e_aload_n dX10_give_4 rfl rfl ?_
    refine e_getR dX10_give_5 fl_X10_18 rfl (cx_0 cm) ?_
    refine e_callV (M' := mX0_save) (k' := 57) (z' := 8609) (k2 := 0) (z2 := 0) (As := [_]) dX10_give_8 ml_X10_126 ok_X0_save (by decide) rfl im_X0_save se_X0_save (ct_X0_save cm sm cb.1 iv hK.1 ht cb.2.2.2.1) rfl rfl (Nat.le_of_ble_eq_true rfl) (by decide) ⟨by omega, by omega⟩ (Nat.le_of_ble_eq_true rfl) (fun r1 f1 g1 a1 q1 n1 hI => ?_)
    obtain ⟨i1, B, cm, sm, al, hB, hb, hk, fa⟩ := hI
    rw [i1]
    clear i1
    dsimp only [Option.toList, List.nil_append]
    have hK : K f1 a1 w lg (w 0) := K_fr (iv_mm iv) (fun f r a b => fa.1 f r (by omega)) (fun a x y => fa.2.1 a (by omega)) hK
    have cb1 := CB_sv cb al hB fa
    have hF : FR1 f1 a1 f1 a1 := FR1_rf
    refine e_aload_n dX10_give_11 rfl rfl ?_
    refine e_getR dX10_give_12 fl_X10_51 rfl (cx_4 cm) ?_
    refine e_iload_n dX10_give_15 rfl rfl ?_
    refine kx_V1 (M' := mX5_giveUp) dX10_give_16 ml_X10_161 ok_X5_giveUp (by decide) rfl im_X5_giveUp se_X5_giveUp (ct_X5_giveUp cm iv hK ‹_› _) (Nat.le_of_ble_eq_true rfl) (by decide) (Nat.le_of_ble_eq_true rfl) (fun fi ai hG hK => ?_)
    have hF := FR1_tr hF hG
    rw [hg] at hK
    rw [hg]
    refine e_istore_n dX10_give_19 rfl (Nat.le_of_ble_eq_true rfl) rfl ?_
    refine e_iload_n dX10_give_20 rfl rfl ?_
    first | ((with_reducible refine mk_b ?_); refine b_if_eq (tgt := 31) dX10_give_21 (by decide) (fun h21 => ?_) (fun h21 => ?_)) | ((with_reducible refine mk_ll ?_); refine m_if_eq (tgt := 31) dX10_give_21 (by decide) (by omega) (by omega) (fun h21 => ?_) (fun h21 => ?_)) | ((with_reducible refine mk_lc ?_); refine l_if_eq (tgt := 31) dX10_give_21 (by decide) (fun h21 => ?_) (fun h21 => ?_)) | ((with_reducible refine mk_n ?_); refine n_if_eq (tgt := 31) dX10_give_21 (by decide) (by omega) (fun h21 => ?_) (fun h21 => ?_)) | refine e_if_eq (tgt := 31) dX10_give_21 (by decide) (fun h21 => ?_) (fun h21 => ?_)
    · try first | contradiction | omega | (simp only [decide_eq_true_eq, decide_eq_false_iff_not] at h21; omega)
      all_goals
        refine e_iload_n dX10_give_31 rfl rfl ?_
        first | ((with_reducible refine mk_b ?_); refine e_ret (some _) rfl (r_bool dX10_give_32 rfl) ?_) | ((with_reducible refine mk_n1 ?_); refine e_ret (some _) rfl (r_b1 dX10_give_32 rfl) ?_) | ((with_reducible refine mk_n0 ?_); refine e_ret (some _) rfl (r_b0 dX10_give_32 rfl) ?_)
        subst hQ
        exact ac_fin (b := true) cm sm fa cb1 hb hk iv hF hK h3
    · try first | contradiction | omega | (simp only [decide_eq_true_eq, decide_eq_false_iff_not] at h21; omega)
      all_goals
        refine e_aload_n dX10_give_24 rfl rfl ?_
        refine e_getR dX10_give_25 fl_X10_58 rfl (cx_6 cm) ?_
        refine y_V0 (M' := mX0_keep) dX10_give_28 ml_X10_164 ok_X0_keep (by decide) rfl im_X0_keep se_X0_keep (ct_X0_keep ht hu ((hF.1 _ _ (by decide)).trans cb1.2.2.2.1) ((hF.1 _ _ (by decide)).trans cb1.2.2.2.2.1)) (Nat.le_of_ble_eq_true rfl) (by decide) (Nat.le_of_ble_eq_true rfl) ?_
        refine e_iload_n dX10_give_31 rfl rfl ?_
        first | ((with_reducible refine mk_b ?_); refine e_ret (some _) rfl (r_bool dX10_give_32 rfl) ?_) | ((with_reducible refine mk_n1 ?_); refine e_ret (some _) rfl (r_b1 dX10_give_32 rfl) ?_) | ((with_reducible refine mk_n0 ?_); refine e_ret (some _) rfl (r_b0 dX10_give_32 rfl) ?_)
        subst hQ
        exact ac_fin (b := true) cm sm fa cb1 hb hk iv hF hK h3
  | false =>
    rw [hg] at h3
    generalize hQ : (aQ (some (.int (bI false))) (if false then endW w x.toNatClampNeg else w) lg (w 0) (acU false u) (acV false u V w) im fi ai) = Q
    refine e_aload_n dX10_give_0 rfl rfl ?_
    refine e_getR dX10_give_1 fl_X10_58 rfl (cx_6 cm) ?_
    refine e_aload_n dX10_give_4 rfl rfl ?_
    refine e_getR dX10_give_5 fl_X10_18 rfl (cx_0 cm) ?_
    refine e_callV (M' := mX0_save) (k' := 57) (z' := 8609) (k2 := 0) (z2 := 0) (As := [_]) dX10_give_8 ml_X10_126 ok_X0_save (by decide) rfl im_X0_save se_X0_save (ct_X0_save cm sm cb.1 iv hK.1 ht cb.2.2.2.1) rfl rfl (Nat.le_of_ble_eq_true rfl) (by decide) ⟨by omega, by omega⟩ (Nat.le_of_ble_eq_true rfl) (fun r1 f1 g1 a1 q1 n1 hI => ?_)
    obtain ⟨i1, B, cm, sm, al, hB, hb, hk, fa⟩ := hI
    rw [i1]
    clear i1
    dsimp only [Option.toList, List.nil_append]
    have hK : K f1 a1 w lg (w 0) := K_fr (iv_mm iv) (fun f r a b => fa.1 f r (by omega)) (fun a x y => fa.2.1 a (by omega)) hK
    have cb1 := CB_sv cb al hB fa
    have hF : FR1 f1 a1 f1 a1 := FR1_rf
    refine e_aload_n dX10_give_11 rfl rfl ?_
    refine e_getR dX10_give_12 fl_X10_51 rfl (cx_4 cm) ?_
    refine e_iload_n dX10_give_15 rfl rfl ?_
    refine kx_V1 (M' := mX5_giveUp) dX10_give_16 ml_X10_161 ok_X5_giveUp (by decide) rfl im_X5_giveUp se_X5_giveUp (ct_X5_giveUp cm iv hK ‹_› _) (Nat.le_of_ble_eq_true rfl) (by decide) (Nat.le_of_ble_eq_true rfl) (fun fi ai hG hK => ?_)
    have hF := FR1_tr hF hG
    rw [hg] at hK
    rw [hg]
    refine e_istore_n dX10_give_19 rfl (Nat.le_of_ble_eq_true rfl) rfl ?_
    refine e_iload_n dX10_give_20 rfl rfl ?_
    first | ((with_reducible refine mk_b ?_); refine b_if_eq (tgt := 31) dX10_give_21 (by decide) (fun h21 => ?_) (fun h21 => ?_)) | ((with_reducible refine mk_ll ?_); refine m_if_eq (tgt := 31) dX10_give_21 (by decide) (by omega) (by omega) (fun h21 => ?_) (fun h21 => ?_)) | ((with_reducible refine mk_lc ?_); refine l_if_eq (tgt := 31) dX10_give_21 (by decide) (fun h21 => ?_) (fun h21 => ?_)) | ((with_reducible refine mk_n ?_); refine n_if_eq (tgt := 31) dX10_give_21 (by decide) (by omega) (fun h21 => ?_) (fun h21 => ?_)) | refine e_if_eq (tgt := 31) dX10_give_21 (by decide) (fun h21 => ?_) (fun h21 => ?_)
    · try first | contradiction | omega | (simp only [decide_eq_true_eq, decide_eq_false_iff_not] at h21; omega)
      all_goals
        refine e_iload_n dX10_give_31 rfl rfl ?_
        first | ((with_reducible refine mk_b ?_); refine e_ret (some _) rfl (r_bool dX10_give_32 rfl) ?_) | ((with_reducible refine mk_n1 ?_); refine e_ret (some _) rfl (r_b1 dX10_give_32 rfl) ?_) | ((with_reducible refine mk_n0 ?_); refine e_ret (some _) rfl (r_b0 dX10_give_32 rfl) ?_)
        subst hQ
        exact ac_fin (b := false) cm sm fa cb1 hb hk iv hF hK h3
    · try first | contradiction | omega | (simp only [decide_eq_true_eq, decide_eq_false_iff_not] at h21; omega)
      all_goals
        refine e_aload_n dX10_give_24 rfl rfl ?_
        refine e_getR dX10_give_25 fl_X10_58 rfl (cx_6 cm) ?_
        refine y_V0 (M' := mX0_keep) dX10_give_28 ml_X10_164 ok_X0_keep (by decide) rfl im_X0_keep se_X0_keep (ct_X0_keep ht hu ((hF.1 _ _ (by decide)).trans cb1.2.2.2.1) ((hF.1 _ _ (by decide)).trans cb1.2.2.2.2.1)) (Nat.le_of_ble_eq_true rfl) (by decide) (Nat.le_of_ble_eq_true rfl) ?_
        refine e_iload_n dX10_give_31 rfl rfl ?_
        first | ((with_reducible refine mk_b ?_); refine e_ret (some _) rfl (r_bool dX10_give_32 rfl) ?_) | ((with_reducible refine mk_n1 ?_); refine e_ret (some _) rfl (r_b1 dX10_give_32 rfl) ?_) | ((with_reducible refine mk_n0 ?_); refine e_ret (some _) rfl (r_b0 dX10_give_32 rfl) ?_)
        subst hQ
        exact ac_fin (b := false) cm sm fa cb1 hb hk iv hF hK h3
theorem ct_X10_age {fi : FI} {fr : FR} {ai : FI} {ar : FR} {N : Nat} {w lg : Nat → Nat} {u : Nat} {V : Nat → Nat → Nat} {im : Option ((Nat → Nat) × (Nat → Nat))} (cs : CLS fi fr ai ar N w lg (w 0) u V im) (iv : Inv w) (h3 : (ageW w) 3 ≤ 12) : CP mX10_age 4 57 8609 [.ref (rf 10 0)] fi fr ai ar N (aQ (some (.long (lN (rs (fun k => ageW w (106 + k)) 0 1000)))) (ageW w) (lg) (w 0) (acU (true) u) (acV (true) u V w) im fi ai) := by
  obtain ⟨cm, sm, hK, B0, t, cb⟩ := cs
  have ht := cb.2.1
  have hu := cb.2.2.1
  change EV mX10_age 4 57 8609 0 [some (.ref (rf 10 0)), none, none] [] fi fr ai ar N (aQ (some (.long (lN (rs (fun k => ageW w (106 + k)) 0 1000)))) (ageW w) (lg) (w 0) (acU (true) u) (acV (true) u V w) im fi ai)
  generalize hQ : (aQ (some (.long (lN (rs (fun k => ageW w (106 + k)) 0 1000)))) (ageW w) (lg) (w 0) (acU (true) u) (acV (true) u V w) im fi ai) = Q
  refine e_aload_n dX10_age_0 rfl rfl ?_
  refine e_getR dX10_age_1 fl_X10_58 rfl (cx_6 cm) ?_
  refine e_aload_n dX10_age_4 rfl rfl ?_
  refine e_getR dX10_age_5 fl_X10_18 rfl (cx_0 cm) ?_
  refine e_callV (M' := mX0_save) (k' := 57) (z' := 8609) (k2 := 0) (z2 := 0) (As := [_]) dX10_age_8 ml_X10_126 ok_X0_save (by decide) rfl im_X0_save se_X0_save (ct_X0_save cm sm cb.1 iv hK.1 ht cb.2.2.2.1) rfl rfl (Nat.le_of_ble_eq_true rfl) (by decide) ⟨by omega, by omega⟩ (Nat.le_of_ble_eq_true rfl) (fun r1 f1 g1 a1 q1 n1 hI => ?_)
  obtain ⟨i1, B, cm, sm, al, hB, hb, hk, fa⟩ := hI
  rw [i1]
  clear i1
  dsimp only [Option.toList, List.nil_append]
  have hK : K f1 a1 w lg (w 0) := K_fr (iv_mm iv) (fun f r a b => fa.1 f r (by omega)) (fun a x y => fa.2.1 a (by omega)) hK
  have cb1 := CB_sv cb al hB fa
  have hF : FR1 f1 a1 f1 a1 := FR1_rf
  refine e_aload_n dX10_age_11 rfl rfl ?_
  refine e_getR dX10_age_12 fl_X10_18 rfl (cx_0 cm) ?_
  refine kx_V0 (M' := mX9_halveWeights) dX10_age_15 ml_X10_167 ok_X9_halveWeights (by decide) rfl im_X9_halveWeights se_X9_halveWeights (ct_X9_halveWeights cm iv hK) (Nat.le_of_ble_eq_true rfl) (by decide) (Nat.le_of_ble_eq_true rfl) (fun fi ai hG hK => ?_)
  have hF := FR1_tr hF hG
  refine e_lstore_n dX10_age_18 rfl (Nat.le_of_ble_eq_true rfl) rfl ?_
  refine e_aload_n dX10_age_19 rfl rfl ?_
  refine e_getR dX10_age_20 fl_X10_58 rfl (cx_6 cm) ?_
  refine y_V0 (M' := mX0_keep) dX10_age_23 ml_X10_164 ok_X0_keep (by decide) rfl im_X0_keep se_X0_keep (ct_X0_keep ht hu ((hF.1 _ _ (by decide)).trans cb1.2.2.2.1) ((hF.1 _ _ (by decide)).trans cb1.2.2.2.2.1)) (Nat.le_of_ble_eq_true rfl) (by decide) (Nat.le_of_ble_eq_true rfl) ?_
  refine e_lload_n dX10_age_26 rfl rfl ?_
  refine e_ret (some _) rfl (r_long dX10_age_27 rfl) ?_
  subst hQ
  exact ac_fin (b := true) cm sm fa cb1 hb hk iv hF hK h3
