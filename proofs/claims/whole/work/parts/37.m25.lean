def bt (x : Int32) (j : Nat) : Nat := x.toUInt32.toNat / 2 ^ (24 - 8 * j) % 256
theorem bt_lt (x : Int32) (j : Nat) : bt x j < 256 := Nat.mod_lt _ (by decide)
def sB (c : Nat) : Int32 := Int32.ofInt (if c < 128 then (c : Int) else (c : Int) - 256)
theorem sB_toInt {c : Nat} (h : c < 256) : (sB c).toInt = if c < 128 then (c : Int) else (c : Int) - 256 := by
  unfold sB
  rw [Int32.toInt_ofInt]
  rw [show Int32.size = 4294967296 from rfl, Int.bmod_def]
  split <;> split <;> omega
theorem sB_lo {c : Nat} (h : c < 128) : sB c = nI c := by
  apply Int32.toInt_inj.mp
  rw [sB_toInt (by omega), nI_toInt (by omega), if_pos h]
theorem by_aux (x : Int32) (s : UInt32) (n : Nat) (hs : s.toNat % 32 = n) (h : n = 0 ∨ n = 8 ∨ n = 16 ∨ n = 24) : vp_nar .byte (((x.toUInt32 >>> s).toInt32).toInt8.toInt32) = sB (x.toUInt32.toNat / 2 ^ n % 256) := by
  rw [vp_nar_byte]
  apply Int32.toInt_inj.mp
  rw [sB_toInt (Nat.mod_lt _ (by decide))]
  have e : ∀ u : UInt32, u.toInt32.toInt = (u.toNat : Int).bmod (2 ^ 32) := fun u => BitVec.toInt_eq_toNat_bmod _
  simp only [Int8.toInt_toInt32, Int32.toInt_toInt8, e, UInt32.toNat_shiftRight, hs, Nat.shiftRight_eq_div_pow]
  generalize x.toUInt32.toNat / 2 ^ n = q
  simp only [Int.bmod_def]
  repeat' split
  all_goals omega
theorem by_m {x s : Int32} {j : Nat} (hj : j < 4) (hs : s = nI (24 - 8 * j)) : vp_nar .byte (((x.toUInt32 >>> (s.toUInt32 &&& Int32.toUInt32 31)).toInt32).toInt8.toInt32) = sB (bt x j) := by
  have h : ∀ j, j < 4 → ((nI (24 - 8 * j)).toUInt32 &&& Int32.toUInt32 31).toNat % 32 = 24 - 8 * j := by decide +kernel
  rw [hs]
  exact by_aux x _ (24 - 8 * j) (h j hj) (by omega)
def cmT (T : Nat → Int32) (t : Nat) (x : Int32) (j : Nat) : Nat → Int32 := cpA T (fun i => sB (bt x (i - t))) t j
theorem cmT_s (T : Nat → Int32) (t : Nat) (x : Int32) (j : Nat) : upd (cmT T t x j) (t + j) (sB (bt x j)) = cmT T t x (j + 1) := cpA_v (by show _ = sB (bt x (t + j - t)); rw [Nat.add_sub_cancel_left])
theorem up2_id {α : Type} {g : Nat → Nat → α} {i j : Nat} {x : α} (h : g i j = x) : up2 g i j x = g := by
  funext a b
  unfold up2
  split
  · rename_i q; rw [q.1, q.2, h]
  · rfl
theorem cm_8 : ∀ j, j < 3 → nI (24 - 8 * j) + -8 = nI (24 - 8 * (j + 1)) := by decide +kernel
theorem ct_X11_comes {fi : FI} {fr : FR} {ai : FI} {ar : FR} {N : Nat} (sm : SM fr) {x : Int32} {t : Nat} (ht : fi (32 * 11 + 10) (rf 11 80) = nI t) (ht2 : t + 4 ≤ 400) : CP mX11_comes 0 0 0 [.ref (rf 11 80), .int x] fi fr ai ar N (xQ none (up2 fi (32 * 11 + 10) (rf 11 80) (nI (t + 4))) fr (sA ai (rf 35 87) (cmT (ai (rf 35 87)) t x 4)) ar N) := by
  obtain ⟨sW, sA0, sK, sU, sC, sKC, sT, sCl⟩ := id sm
  change EV mX11_comes 0 0 0 0 [some (.ref (rf 11 80)), some (.int x), none] [] fi fr ai ar N (xQ none (up2 fi (32 * 11 + 10) (rf 11 80) (nI (t + 4))) fr (sA ai (rf 35 87) (cmT (ai (rf 35 87)) t x 4)) ar N)
  have p4 : EV mX11_comes 0 0 0 3 [some (.ref (rf 11 80)), some (.int x), some (.int (-8))] [] (up2 fi (32 * 11 + 10) (rf 11 80) (nI (t + 4))) fr (sA ai (rf 35 87) (cmT (ai (rf 35 87)) t x 4)) ar N (xQ none (up2 fi (32 * 11 + 10) (rf 11 80) (nI (t + 4))) fr (sA ai (rf 35 87) (cmT (ai (rf 35 87)) t x 4)) ar N) := by
    refine e_iload_n dX11_comes_3 rfl rfl ?_
    first | ((with_reducible refine mk_ll ?_); refine m_if_lt (tgt := 36) dX11_comes_4 (by decide) (by omega) (by omega) (fun h4 => ?_) (fun h4 => ?_)) | ((with_reducible refine mk_lc ?_); refine l_if_lt (tgt := 36) dX11_comes_4 (by decide) (fun h4 => ?_) (fun h4 => ?_)) | ((with_reducible refine mk_n ?_); refine n_if_lt (tgt := 36) dX11_comes_4 (by decide) (by omega) (fun h4 => ?_) (fun h4 => ?_)) | refine e_if_lt (tgt := 36) dX11_comes_4 (by decide) (fun h4 => ?_) (fun h4 => ?_)
    · try first | contradiction | omega
      all_goals
        refine e_ret none rfl (r_void dX11_comes_36 rfl) ?_
        exact xq rfl rfl rfl rfl rfl rfl
    · try first | contradiction | omega
      all_goals
        exact absurd h4 (by decide)
  have p3 : EV mX11_comes 0 0 0 3 [some (.ref (rf 11 80)), some (.int x), some (.int (nI 0))] [] (up2 fi (32 * 11 + 10) (rf 11 80) (nI (t + 3))) fr (sA ai (rf 35 87) (cmT (ai (rf 35 87)) t x 3)) ar N (xQ none (up2 fi (32 * 11 + 10) (rf 11 80) (nI (t + 4))) fr (sA ai (rf 35 87) (cmT (ai (rf 35 87)) t x 4)) ar N) := by
    refine e_iload_n dX11_comes_3 rfl rfl ?_
    first | ((with_reducible refine mk_ll ?_); refine m_if_lt (tgt := 36) dX11_comes_4 (by decide) (by omega) (by omega) (fun h4 => ?_) (fun h4 => ?_)) | ((with_reducible refine mk_lc ?_); refine l_if_lt (tgt := 36) dX11_comes_4 (by decide) (fun h4 => ?_) (fun h4 => ?_)) | ((with_reducible refine mk_n ?_); refine n_if_lt (tgt := 36) dX11_comes_4 (by decide) (by omega) (fun h4 => ?_) (fun h4 => ?_)) | refine e_if_lt (tgt := 36) dX11_comes_4 (by decide) (fun h4 => ?_) (fun h4 => ?_)
    · try first | contradiction | omega
      all_goals
        contradiction
    · try first | contradiction | omega
      all_goals
        refine e_aload_n dX11_comes_7 rfl rfl ?_
        refine e_getR dX11_comes_8 fl_X11_29 rfl (by assumption) ?_
        refine e_aload_n dX11_comes_11 rfl rfl ?_
        refine e_getI dX11_comes_12 fl_X11_217 rfl ?_
        rw [up2_s]
        refine e_iload_n dX11_comes_15 rfl rfl ?_
        refine e_iload_n dX11_comes_16 rfl rfl ?_
        refine e_iushr dX11_comes_17 ?_
        refine e_i2b dX11_comes_18 ?_
        first | refine e_bast _ dX11_comes_19 ⟨by decide, by decide⟩ rfl rfl (by simp only [lenK]; omega) ?_ | refine e_zast _ dX11_comes_19 ⟨by decide, by decide⟩ rfl rfl (by simp only [lenK]; omega) ?_
        rw [by_m (j := 3) (by omega) rfl, sA_up, cmT_s]
        refine e_aload_n dX11_comes_20 rfl rfl ?_
        refine e_dup dX11_comes_21 rfl ?_
        refine e_getI dX11_comes_22 fl_X11_217 rfl ?_
        rw [up2_s]
        refine e_iconst (v := nI 1) dX11_comes_25 rfl ?_
        first | ((with_reducible refine mk_nn ?_); refine n_iadd dX11_comes_26 ?_) | refine e_iadd dX11_comes_26 ?_
        refine e_putI dX11_comes_27 fl_X11_217 rfl rfl rfl rfl ?_
        rw [up2_2]
        refine e_iinc dX11_comes_30 rfl rfl (Nat.le_of_ble_eq_true rfl) rfl ?_
        refine e_goto (tgt := 3) dX11_comes_33 (by decide) ?_
        exact p4
  have p2 : EV mX11_comes 0 0 0 3 [some (.ref (rf 11 80)), some (.int x), some (.int (nI 8))] [] (up2 fi (32 * 11 + 10) (rf 11 80) (nI (t + 2))) fr (sA ai (rf 35 87) (cmT (ai (rf 35 87)) t x 2)) ar N (xQ none (up2 fi (32 * 11 + 10) (rf 11 80) (nI (t + 4))) fr (sA ai (rf 35 87) (cmT (ai (rf 35 87)) t x 4)) ar N) := by
    refine e_iload_n dX11_comes_3 rfl rfl ?_
    first | ((with_reducible refine mk_ll ?_); refine m_if_lt (tgt := 36) dX11_comes_4 (by decide) (by omega) (by omega) (fun h4 => ?_) (fun h4 => ?_)) | ((with_reducible refine mk_lc ?_); refine l_if_lt (tgt := 36) dX11_comes_4 (by decide) (fun h4 => ?_) (fun h4 => ?_)) | ((with_reducible refine mk_n ?_); refine n_if_lt (tgt := 36) dX11_comes_4 (by decide) (by omega) (fun h4 => ?_) (fun h4 => ?_)) | refine e_if_lt (tgt := 36) dX11_comes_4 (by decide) (fun h4 => ?_) (fun h4 => ?_)
    · try first | contradiction | omega
      all_goals
        contradiction
    · try first | contradiction | omega
      all_goals
        refine e_aload_n dX11_comes_7 rfl rfl ?_
        refine e_getR dX11_comes_8 fl_X11_29 rfl (by assumption) ?_
        refine e_aload_n dX11_comes_11 rfl rfl ?_
        refine e_getI dX11_comes_12 fl_X11_217 rfl ?_
        rw [up2_s]
        refine e_iload_n dX11_comes_15 rfl rfl ?_
        refine e_iload_n dX11_comes_16 rfl rfl ?_
        refine e_iushr dX11_comes_17 ?_
        refine e_i2b dX11_comes_18 ?_
        first | refine e_bast _ dX11_comes_19 ⟨by decide, by decide⟩ rfl rfl (by simp only [lenK]; omega) ?_ | refine e_zast _ dX11_comes_19 ⟨by decide, by decide⟩ rfl rfl (by simp only [lenK]; omega) ?_
        rw [by_m (j := 2) (by omega) rfl, sA_up, cmT_s]
        refine e_aload_n dX11_comes_20 rfl rfl ?_
        refine e_dup dX11_comes_21 rfl ?_
        refine e_getI dX11_comes_22 fl_X11_217 rfl ?_
        rw [up2_s]
        refine e_iconst (v := nI 1) dX11_comes_25 rfl ?_
        first | ((with_reducible refine mk_nn ?_); refine n_iadd dX11_comes_26 ?_) | refine e_iadd dX11_comes_26 ?_
        refine e_putI dX11_comes_27 fl_X11_217 rfl rfl rfl rfl ?_
        rw [up2_2]
        refine e_iinc dX11_comes_30 rfl rfl (Nat.le_of_ble_eq_true rfl) rfl ?_
        refine e_goto (tgt := 3) dX11_comes_33 (by decide) ?_
        exact p3
  have p1 : EV mX11_comes 0 0 0 3 [some (.ref (rf 11 80)), some (.int x), some (.int (nI 16))] [] (up2 fi (32 * 11 + 10) (rf 11 80) (nI (t + 1))) fr (sA ai (rf 35 87) (cmT (ai (rf 35 87)) t x 1)) ar N (xQ none (up2 fi (32 * 11 + 10) (rf 11 80) (nI (t + 4))) fr (sA ai (rf 35 87) (cmT (ai (rf 35 87)) t x 4)) ar N) := by
    refine e_iload_n dX11_comes_3 rfl rfl ?_
    first | ((with_reducible refine mk_ll ?_); refine m_if_lt (tgt := 36) dX11_comes_4 (by decide) (by omega) (by omega) (fun h4 => ?_) (fun h4 => ?_)) | ((with_reducible refine mk_lc ?_); refine l_if_lt (tgt := 36) dX11_comes_4 (by decide) (fun h4 => ?_) (fun h4 => ?_)) | ((with_reducible refine mk_n ?_); refine n_if_lt (tgt := 36) dX11_comes_4 (by decide) (by omega) (fun h4 => ?_) (fun h4 => ?_)) | refine e_if_lt (tgt := 36) dX11_comes_4 (by decide) (fun h4 => ?_) (fun h4 => ?_)
    · try first | contradiction | omega
      all_goals
        contradiction
    · try first | contradiction | omega
      all_goals
        refine e_aload_n dX11_comes_7 rfl rfl ?_
        refine e_getR dX11_comes_8 fl_X11_29 rfl (by assumption) ?_
        refine e_aload_n dX11_comes_11 rfl rfl ?_
        refine e_getI dX11_comes_12 fl_X11_217 rfl ?_
        rw [up2_s]
        refine e_iload_n dX11_comes_15 rfl rfl ?_
        refine e_iload_n dX11_comes_16 rfl rfl ?_
        refine e_iushr dX11_comes_17 ?_
        refine e_i2b dX11_comes_18 ?_
        first | refine e_bast _ dX11_comes_19 ⟨by decide, by decide⟩ rfl rfl (by simp only [lenK]; omega) ?_ | refine e_zast _ dX11_comes_19 ⟨by decide, by decide⟩ rfl rfl (by simp only [lenK]; omega) ?_
        rw [by_m (j := 1) (by omega) rfl, sA_up, cmT_s]
        refine e_aload_n dX11_comes_20 rfl rfl ?_
        refine e_dup dX11_comes_21 rfl ?_
        refine e_getI dX11_comes_22 fl_X11_217 rfl ?_
        rw [up2_s]
        refine e_iconst (v := nI 1) dX11_comes_25 rfl ?_
        first | ((with_reducible refine mk_nn ?_); refine n_iadd dX11_comes_26 ?_) | refine e_iadd dX11_comes_26 ?_
        refine e_putI dX11_comes_27 fl_X11_217 rfl rfl rfl rfl ?_
        rw [up2_2]
        refine e_iinc dX11_comes_30 rfl rfl (Nat.le_of_ble_eq_true rfl) rfl ?_
        refine e_goto (tgt := 3) dX11_comes_33 (by decide) ?_
        exact p2
  have p0 : EV mX11_comes 0 0 0 3 [some (.ref (rf 11 80)), some (.int x), some (.int (nI 24))] [] (up2 fi (32 * 11 + 10) (rf 11 80) (nI (t + 0))) fr (sA ai (rf 35 87) (cmT (ai (rf 35 87)) t x 0)) ar N (xQ none (up2 fi (32 * 11 + 10) (rf 11 80) (nI (t + 4))) fr (sA ai (rf 35 87) (cmT (ai (rf 35 87)) t x 4)) ar N) := by
    refine e_iload_n dX11_comes_3 rfl rfl ?_
    first | ((with_reducible refine mk_ll ?_); refine m_if_lt (tgt := 36) dX11_comes_4 (by decide) (by omega) (by omega) (fun h4 => ?_) (fun h4 => ?_)) | ((with_reducible refine mk_lc ?_); refine l_if_lt (tgt := 36) dX11_comes_4 (by decide) (fun h4 => ?_) (fun h4 => ?_)) | ((with_reducible refine mk_n ?_); refine n_if_lt (tgt := 36) dX11_comes_4 (by decide) (by omega) (fun h4 => ?_) (fun h4 => ?_)) | refine e_if_lt (tgt := 36) dX11_comes_4 (by decide) (fun h4 => ?_) (fun h4 => ?_)
    · try first | contradiction | omega
      all_goals
        contradiction
    · try first | contradiction | omega
      all_goals
        refine e_aload_n dX11_comes_7 rfl rfl ?_
        refine e_getR dX11_comes_8 fl_X11_29 rfl (by assumption) ?_
        refine e_aload_n dX11_comes_11 rfl rfl ?_
        refine e_getI dX11_comes_12 fl_X11_217 rfl ?_
        rw [up2_s]
        refine e_iload_n dX11_comes_15 rfl rfl ?_
        refine e_iload_n dX11_comes_16 rfl rfl ?_
        refine e_iushr dX11_comes_17 ?_
        refine e_i2b dX11_comes_18 ?_
        first | refine e_bast _ dX11_comes_19 ⟨by decide, by decide⟩ rfl rfl (by simp only [lenK]; omega) ?_ | refine e_zast _ dX11_comes_19 ⟨by decide, by decide⟩ rfl rfl (by simp only [lenK]; omega) ?_
        rw [by_m (j := 0) (by omega) rfl, sA_up, cmT_s]
        refine e_aload_n dX11_comes_20 rfl rfl ?_
        refine e_dup dX11_comes_21 rfl ?_
        refine e_getI dX11_comes_22 fl_X11_217 rfl ?_
        rw [up2_s]
        refine e_iconst (v := nI 1) dX11_comes_25 rfl ?_
        first | ((with_reducible refine mk_nn ?_); refine n_iadd dX11_comes_26 ?_) | refine e_iadd dX11_comes_26 ?_
        refine e_putI dX11_comes_27 fl_X11_217 rfl rfl rfl rfl ?_
        rw [up2_2]
        refine e_iinc dX11_comes_30 rfl rfl (Nat.le_of_ble_eq_true rfl) rfl ?_
        refine e_goto (tgt := 3) dX11_comes_33 (by decide) ?_
        exact p1
  have e0 : up2 fi (32 * 11 + 10) (rf 11 80) (nI (t + 0)) = fi := up2_id ht
  have e1 : sA ai (rf 35 87) (cmT (ai (rf 35 87)) t x 0) = ai := by unfold cmT; rw [cpA_0, sA_self]
  rw [e0, e1] at p0
  refine e_bipush (v := nI 24) dX11_comes_0 rfl ?_
  refine e_istore_n dX11_comes_2 rfl (Nat.le_of_ble_eq_true rfl) rfl ?_
  exact p0
def fd5 (T : Nat → Int32) (t : Nat) (a b c d e : Int32) : Nat → Int32 := cmT (cmT (cmT (cmT (cmT T t a 4) (t + 4) b 4) (t + 4 + 4) c 4) (t + 4 + 4 + 4) d 4) (t + 4 + 4 + 4 + 4) e 4
theorem ct_X11_feed {fi : FI} {fr : FR} {ai : FI} {ar : FR} {N : Nat} (sm : SM fr) (a b c d e : Int32) {t : Nat} (ht : fi (32 * 11 + 10) (rf 11 80) = nI t) (ht2 : t ≤ 400) : CP mX11_feed 1 0 0 [.ref (rf 11 80), .int a, .int b, .int c, .int d, .int e] fi fr ai ar N (xQ (some (.int (if t + 20 ≤ 400 then nI (t + 20) else -1))) (if t + 20 ≤ 400 then up2 fi (32 * 11 + 10) (rf 11 80) (nI (t + 20)) else fi) fr (if t + 20 ≤ 400 then sA ai (rf 35 87) (fd5 (ai (rf 35 87)) t a b c d e) else ai) ar N) := by
  obtain ⟨sW, sA0, sK, sU, sC, sKC, sT, sCl⟩ := id sm
  change EV mX11_feed 1 0 0 0 [some (.ref (rf 11 80)), some (.int a), some (.int b), some (.int c), some (.int d), some (.int e)] [] fi fr ai ar N (xQ (some (.int (if t + 20 ≤ 400 then nI (t + 20) else -1))) (if t + 20 ≤ 400 then up2 fi (32 * 11 + 10) (rf 11 80) (nI (t + 20)) else fi) fr (if t + 20 ≤ 400 then sA ai (rf 35 87) (fd5 (ai (rf 35 87)) t a b c d e) else ai) ar N)
  by_cases h : t + 20 ≤ 400
  · rw [if_pos h, if_pos h, if_pos h]
    refine e_aload_n dX11_feed_0 rfl rfl ?_
    refine e_getI dX11_feed_1 fl_X11_217 rfl ?_
    rw [ht]
    refine e_bipush (v := nI 20) dX11_feed_4 rfl ?_
    first | ((with_reducible refine mk_nn ?_); refine n_iadd dX11_feed_6 ?_) | refine e_iadd dX11_feed_6 ?_
    refine e_sipush (v := nI 400) dX11_feed_7 rfl ?_
    first | ((with_reducible refine mk_nn ?_); refine n_icmp_le (tgt := 15) dX11_feed_10 (by decide) (by omega) (by omega) (fun h10 => ?_) (fun h10 => ?_)) | refine e_icmp_le (tgt := 15) dX11_feed_10 (by decide) (fun h10 => ?_) (fun h10 => ?_)
    · try first | contradiction | omega
      all_goals
        refine e_aload_n dX11_feed_15 rfl rfl ?_
        refine e_iload_n dX11_feed_16 rfl rfl ?_
        refine y_V1 (M' := mX11_comes) dX11_feed_17 ml_X11_220 ok_X11_comes (by decide) rfl im_X11_comes se_X11_comes (ct_X11_comes sm ht (by omega)) (Nat.le_of_ble_eq_true rfl) (by decide) (Nat.le_of_ble_eq_true rfl) ?_
        refine e_aload_n dX11_feed_20 rfl rfl ?_
        refine e_iload_n dX11_feed_21 rfl rfl ?_
        refine y_V1 (M' := mX11_comes) dX11_feed_22 ml_X11_220 ok_X11_comes (by decide) rfl im_X11_comes se_X11_comes (ct_X11_comes sm (t := t + 4) (up2_s _ _ _ _) (by omega)) (Nat.le_of_ble_eq_true rfl) (by decide) (Nat.le_of_ble_eq_true rfl) ?_
        rw [up2_2, sA_s, sA_sA]
        refine e_aload_n dX11_feed_25 rfl rfl ?_
        refine e_iload_n dX11_feed_26 rfl rfl ?_
        refine y_V1 (M' := mX11_comes) dX11_feed_27 ml_X11_220 ok_X11_comes (by decide) rfl im_X11_comes se_X11_comes (ct_X11_comes sm (t := t + 4 + 4) (up2_s _ _ _ _) (by omega)) (Nat.le_of_ble_eq_true rfl) (by decide) (Nat.le_of_ble_eq_true rfl) ?_
        rw [up2_2, sA_s, sA_sA]
        refine e_aload_n dX11_feed_30 rfl rfl ?_
        refine e_iload dX11_feed_31 rfl ?_
        refine y_V1 (M' := mX11_comes) dX11_feed_33 ml_X11_220 ok_X11_comes (by decide) rfl im_X11_comes se_X11_comes (ct_X11_comes sm (t := t + 4 + 4 + 4) (up2_s _ _ _ _) (by omega)) (Nat.le_of_ble_eq_true rfl) (by decide) (Nat.le_of_ble_eq_true rfl) ?_
        rw [up2_2, sA_s, sA_sA]
        refine e_aload_n dX11_feed_36 rfl rfl ?_
        refine e_iload dX11_feed_37 rfl ?_
        refine y_V1 (M' := mX11_comes) dX11_feed_39 ml_X11_220 ok_X11_comes (by decide) rfl im_X11_comes se_X11_comes (ct_X11_comes sm (t := t + 4 + 4 + 4 + 4) (up2_s _ _ _ _) (by omega)) (Nat.le_of_ble_eq_true rfl) (by decide) (Nat.le_of_ble_eq_true rfl) ?_
        rw [up2_2, sA_s, sA_sA]
        refine e_aload_n dX11_feed_42 rfl rfl ?_
        refine e_getI dX11_feed_43 fl_X11_217 rfl ?_
        rw [up2_s]
        refine e_ret (some _) rfl (r_int dX11_feed_46 rfl) ?_
        exact xq rfl rfl rfl rfl rfl rfl
    · try first | contradiction | omega
      all_goals
        omega
  · rw [if_neg h, if_neg h, if_neg h]
    refine e_aload_n dX11_feed_0 rfl rfl ?_
    refine e_getI dX11_feed_1 fl_X11_217 rfl ?_
    rw [ht]
    refine e_bipush (v := nI 20) dX11_feed_4 rfl ?_
    first | ((with_reducible refine mk_nn ?_); refine n_iadd dX11_feed_6 ?_) | refine e_iadd dX11_feed_6 ?_
    refine e_sipush (v := nI 400) dX11_feed_7 rfl ?_
    first | ((with_reducible refine mk_nn ?_); refine n_icmp_le (tgt := 15) dX11_feed_10 (by decide) (by omega) (by omega) (fun h10 => ?_) (fun h10 => ?_)) | refine e_icmp_le (tgt := 15) dX11_feed_10 (by decide) (fun h10 => ?_) (fun h10 => ?_)
    · try first | contradiction | omega
      all_goals
        omega
    · try first | contradiction | omega
      all_goals
        refine e_iconst (v := -1) dX11_feed_13 rfl ?_
        refine e_ret (some _) rfl (r_int dX11_feed_14 rfl) ?_
        exact xq rfl rfl rfl rfl rfl rfl
