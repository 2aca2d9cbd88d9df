theorem sh_aux (x : Int32) (n : Nat) (h : n = 0 ∨ n = 8 ∨ n = 16 ∨ n = 24) : (x >>> (nI n &&& 31)).toUInt32.toNat % 256 = x.toUInt32.toNat / 2 ^ n % 256 := by
  have hb : ((nI n &&& 31).toBitVec.smod 32).toNat = n := by rcases h with rfl | rfl | rfl | rfl <;> decide +kernel
  have hy : (x >>> (nI n &&& 31)).toBitVec.toInt = x.toBitVec.toInt >>> n := by
    show (x.toBitVec.sshiftRight ((nI n &&& 31).toBitVec.smod 32).toNat).toInt = _
    rw [hb, BitVec.toInt_sshiftRight]
  rw [BitVec.toInt_eq_toNat_bmod, BitVec.toInt_eq_toNat_bmod, Int.shiftRight_eq_div_pow] at hy
  show (x >>> (nI n &&& 31)).toBitVec.toNat % 256 = x.toBitVec.toNat / 2 ^ n % 256
  have h1 := (x >>> (nI n &&& 31)).toBitVec.isLt
  have h2 := x.toBitVec.isLt
  generalize (x >>> (nI n &&& 31)).toBitVec.toNat = Y at *
  generalize x.toBitVec.toNat = X at *
  simp only [Int.bmod_def] at hy
  rcases h with rfl | rfl | rfl | rfl <;> (split at hy <;> split at hy <;> omega)
theorem by_c {x s : Int32} {j : Nat} (hj : j < 4) (hs : s = nI (24 - 8 * j)) : vp_nar .char ((((x >>> (s &&& 31)) &&& nI 255).toUInt32 % 65536).toInt32) = nI (bt x j) := by
  have ha := sh_aux x (24 - 8 * j) (by omega)
  rw [hs]
  generalize x >>> (nI (24 - 8 * j) &&& 31) = y at *
  have e1 : (y &&& nI 255).toUInt32.toNat = y.toUInt32.toNat % 256 := by
    show (y.toBitVec &&& (nI 255).toBitVec).toNat = _
    rw [BitVec.toNat_and]
    exact Nat.and_two_pow_sub_one_eq_mod _ 8
  show ((((y &&& nI 255).toUInt32 % 65536).toInt32).toUInt32 % 65536).toInt32 = nI (bt x j)
  have e : ∀ u : UInt32, u.toInt32.toInt = (u.toNat : Int).bmod (2 ^ 32) := fun u => BitVec.toInt_eq_toNat_bmod _
  have e2 : ∀ u : UInt32, u.toInt32.toUInt32 = u := fun u => rfl
  apply Int32.toInt_inj.mp
  rw [nI_toInt (by have := bt_lt x j; omega)]
  unfold bt
  rw [← ha, e2, e, UInt32.toNat_mod, UInt32.toNat_mod, e1, show (65536 : UInt32).toNat = 65536 from rfl, Int.bmod_def]
  split <;> omega
def cmU (T : Nat → Int32) (t : Nat) (x : Int32) (j : Nat) : Nat → Int32 := cpA T (fun i => nI (bt x (i - t))) t j
theorem cmU_s (T : Nat → Int32) (t : Nat) (x : Int32) (j : Nat) : upd (cmU T t x j) (t + j) (nI (bt x j)) = cmU T t x (j + 1) := cpA_v (by show _ = nI (bt x (t + j - t)); rw [Nat.add_sub_cancel_left])
theorem ct_X7_addFour {fi : FI} {fr : FR} {ai : FI} {ar : FR} {N : Nat} (cm : CM fr ar) {x : Int32} {t : Nat} (ht : fi (32 * 7 + 3) (rf 7 76) = nI t) (ht2 : t + 4 ≤ 400) : CP mX7_addFour 0 0 0 [.ref (rf 7 76), .int x] fi fr ai ar N (xQ none (up2 fi (32 * 7 + 3) (rf 7 76) (nI (t + 4))) fr (sA ai (rf 29 77) (cmU (ai (rf 29 77)) t x 4)) ar N) := by
  change EV mX7_addFour 0 0 0 0 [some (.ref (rf 7 76)), some (.int x), none] [] fi fr ai ar N (xQ none (up2 fi (32 * 7 + 3) (rf 7 76) (nI (t + 4))) fr (sA ai (rf 29 77) (cmU (ai (rf 29 77)) t x 4)) ar N)
  have p4 : EV mX7_addFour 0 0 0 3 [some (.ref (rf 7 76)), some (.int x), some (.int (-8))] [] (up2 fi (32 * 7 + 3) (rf 7 76) (nI (t + 4))) fr (sA ai (rf 29 77) (cmU (ai (rf 29 77)) t x 4)) ar N (xQ none (up2 fi (32 * 7 + 3) (rf 7 76) (nI (t + 4))) fr (sA ai (rf 29 77) (cmU (ai (rf 29 77)) t x 4)) ar N) := by
    refine e_iload_n dX7_addFour_3 rfl rfl ?_
    first | ((with_reducible refine mk_ll ?_); refine m_if_lt (tgt := 50) dX7_addFour_4 (by decide) (by omega) (by omega) (fun h4 => ?_) (fun h4 => ?_)) | ((with_reducible refine mk_lc ?_); refine l_if_lt (tgt := 50) dX7_addFour_4 (by decide) (fun h4 => ?_) (fun h4 => ?_)) | ((with_reducible refine mk_n ?_); refine n_if_lt (tgt := 50) dX7_addFour_4 (by decide) (by omega) (fun h4 => ?_) (fun h4 => ?_)) | refine e_if_lt (tgt := 50) dX7_addFour_4 (by decide) (fun h4 => ?_) (fun h4 => ?_)
    · try first | contradiction | omega
      all_goals
        refine e_ret none rfl (r_void dX7_addFour_50 rfl) ?_
        exact xq rfl rfl rfl rfl rfl rfl
    · try first | contradiction | omega
      all_goals
        exact absurd h4 (by decide)
  have p3 : EV mX7_addFour 0 0 0 3 [some (.ref (rf 7 76)), some (.int x), some (.int (nI 0))] [] (up2 fi (32 * 7 + 3) (rf 7 76) (nI (t + 3))) fr (sA ai (rf 29 77) (cmU (ai (rf 29 77)) t x 3)) ar N (xQ none (up2 fi (32 * 7 + 3) (rf 7 76) (nI (t + 4))) fr (sA ai (rf 29 77) (cmU (ai (rf 29 77)) t x 4)) ar N) := by
    refine e_iload_n dX7_addFour_3 rfl rfl ?_
    first | ((with_reducible refine mk_ll ?_); refine m_if_lt (tgt := 50) dX7_addFour_4 (by decide) (by omega) (by omega) (fun h4 => ?_) (fun h4 => ?_)) | ((with_reducible refine mk_lc ?_); refine l_if_lt (tgt := 50) dX7_addFour_4 (by decide) (fun h4 => ?_) (fun h4 => ?_)) | ((with_reducible refine mk_n ?_); refine n_if_lt (tgt := 50) dX7_addFour_4 (by decide) (by omega) (fun h4 => ?_) (fun h4 => ?_)) | refine e_if_lt (tgt := 50) dX7_addFour_4 (by decide) (fun h4 => ?_) (fun h4 => ?_)
    · try first | contradiction | omega
      all_goals
        first | contradiction | omega
    · try first | contradiction | omega
      all_goals
        refine e_aload_n dX7_addFour_7 rfl rfl ?_
        refine e_getE dX7_addFour_8 fl_X7_26 rfl (up2_s _ _ _ _) ?_
        refine e_sipush (v := nI 400) dX7_addFour_11 rfl ?_
        first | ((with_reducible refine mk_nn ?_); refine n_icmp_ge (tgt := 50) dX7_addFour_14 (by decide) (by omega) (by omega) (fun h14 => ?_) (fun h14 => ?_)) | refine e_icmp_ge (tgt := 50) dX7_addFour_14 (by decide) (fun h14 => ?_) (fun h14 => ?_)
        · try first | contradiction | omega
          all_goals
            first | contradiction | omega
        · try first | contradiction | omega
          all_goals
            refine e_aload_n dX7_addFour_17 rfl rfl ?_
            refine e_getR dX7_addFour_18 fl_X7_9 rfl (cs_txt cm) ?_
            refine e_aload_n dX7_addFour_21 rfl rfl ?_
            refine e_getE dX7_addFour_22 fl_X7_26 rfl (up2_s _ _ _ _) ?_
            refine e_iload_n dX7_addFour_25 rfl rfl ?_
            refine e_iload_n dX7_addFour_26 rfl rfl ?_
            refine e_ishr dX7_addFour_27 ?_
            refine e_sipush (v := nI 255) dX7_addFour_28 rfl ?_
            refine e_iand dX7_addFour_31 ?_
            refine e_i2c dX7_addFour_32 ?_
            refine e_cast _ dX7_addFour_33 ⟨by decide, by decide⟩ rfl rfl (by simp only [lenK]; omega) ?_
            rw [by_c (j := 3) (by omega) rfl, sA_up, cmU_s]
            refine e_aload_n dX7_addFour_34 rfl rfl ?_
            refine e_dup dX7_addFour_35 rfl ?_
            refine e_getE dX7_addFour_36 fl_X7_26 rfl (up2_s _ _ _ _) ?_
            refine e_iconst (v := nI 1) dX7_addFour_39 rfl ?_
            first | ((with_reducible refine mk_nn ?_); refine n_iadd dX7_addFour_40 ?_) | refine e_iadd dX7_addFour_40 ?_
            refine e_putI dX7_addFour_41 fl_X7_26 rfl rfl rfl rfl ?_
            rw [up2_2]
            refine e_iinc dX7_addFour_44 rfl rfl (Nat.le_of_ble_eq_true rfl) rfl ?_
            refine e_goto (tgt := 3) dX7_addFour_47 (by decide) ?_
            exact p4
  have p2 : EV mX7_addFour 0 0 0 3 [some (.ref (rf 7 76)), some (.int x), some (.int (nI 8))] [] (up2 fi (32 * 7 + 3) (rf 7 76) (nI (t + 2))) fr (sA ai (rf 29 77) (cmU (ai (rf 29 77)) t x 2)) ar N (xQ none (up2 fi (32 * 7 + 3) (rf 7 76) (nI (t + 4))) fr (sA ai (rf 29 77) (cmU (ai (rf 29 77)) t x 4)) ar N) := by
    refine e_iload_n dX7_addFour_3 rfl rfl ?_
    first | ((with_reducible refine mk_ll ?_); refine m_if_lt (tgt := 50) dX7_addFour_4 (by decide) (by omega) (by omega) (fun h4 => ?_) (fun h4 => ?_)) | ((with_reducible refine mk_lc ?_); refine l_if_lt (tgt := 50) dX7_addFour_4 (by decide) (fun h4 => ?_) (fun h4 => ?_)) | ((with_reducible refine mk_n ?_); refine n_if_lt (tgt := 50) dX7_addFour_4 (by decide) (by omega) (fun h4 => ?_) (fun h4 => ?_)) | refine e_if_lt (tgt := 50) dX7_addFour_4 (by decide) (fun h4 => ?_) (fun h4 => ?_)
    · try first | contradiction | omega
      all_goals
        first | contradiction | omega
    · try first | contradiction | omega
      all_goals
        refine e_aload_n dX7_addFour_7 rfl rfl ?_
        refine e_getE dX7_addFour_8 fl_X7_26 rfl (up2_s _ _ _ _) ?_
        refine e_sipush (v := nI 400) dX7_addFour_11 rfl ?_
        first | ((with_reducible refine mk_nn ?_); refine n_icmp_ge (tgt := 50) dX7_addFour_14 (by decide) (by omega) (by omega) (fun h14 => ?_) (fun h14 => ?_)) | refine e_icmp_ge (tgt := 50) dX7_addFour_14 (by decide) (fun h14 => ?_) (fun h14 => ?_)
        · try first | contradiction | omega
          all_goals
            first | contradiction | omega
        · try first | contradiction | omega
          all_goals
            refine e_aload_n dX7_addFour_17 rfl rfl ?_
            refine e_getR dX7_addFour_18 fl_X7_9 rfl (cs_txt cm) ?_
            refine e_aload_n dX7_addFour_21 rfl rfl ?_
            refine e_getE dX7_addFour_22 fl_X7_26 rfl (up2_s _ _ _ _) ?_
            refine e_iload_n dX7_addFour_25 rfl rfl ?_
            refine e_iload_n dX7_addFour_26 rfl rfl ?_
            refine e_ishr dX7_addFour_27 ?_
            refine e_sipush (v := nI 255) dX7_addFour_28 rfl ?_
            refine e_iand dX7_addFour_31 ?_
            refine e_i2c dX7_addFour_32 ?_
            refine e_cast _ dX7_addFour_33 ⟨by decide, by decide⟩ rfl rfl (by simp only [lenK]; omega) ?_
            rw [by_c (j := 2) (by omega) rfl, sA_up, cmU_s]
            refine e_aload_n dX7_addFour_34 rfl rfl ?_
            refine e_dup dX7_addFour_35 rfl ?_
            refine e_getE dX7_addFour_36 fl_X7_26 rfl (up2_s _ _ _ _) ?_
            refine e_iconst (v := nI 1) dX7_addFour_39 rfl ?_
            first | ((with_reducible refine mk_nn ?_); refine n_iadd dX7_addFour_40 ?_) | refine e_iadd dX7_addFour_40 ?_
            refine e_putI dX7_addFour_41 fl_X7_26 rfl rfl rfl rfl ?_
            rw [up2_2]
            refine e_iinc dX7_addFour_44 rfl rfl (Nat.le_of_ble_eq_true rfl) rfl ?_
            refine e_goto (tgt := 3) dX7_addFour_47 (by decide) ?_
            exact p3
  have p1 : EV mX7_addFour 0 0 0 3 [some (.ref (rf 7 76)), some (.int x), some (.int (nI 16))] [] (up2 fi (32 * 7 + 3) (rf 7 76) (nI (t + 1))) fr (sA ai (rf 29 77) (cmU (ai (rf 29 77)) t x 1)) ar N (xQ none (up2 fi (32 * 7 + 3) (rf 7 76) (nI (t + 4))) fr (sA ai (rf 29 77) (cmU (ai (rf 29 77)) t x 4)) ar N) := by
    refine e_iload_n dX7_addFour_3 rfl rfl ?_
    first | ((with_reducible refine mk_ll ?_); refine m_if_lt (tgt := 50) dX7_addFour_4 (by decide) (by omega) (by omega) (fun h4 => ?_) (fun h4 => ?_)) | ((with_reducible refine mk_lc ?_); refine l_if_lt (tgt := 50) dX7_addFour_4 (by decide) (fun h4 => ?_) (fun h4 => ?_)) | ((with_reducible refine mk_n ?_); refine n_if_lt (tgt := 50) dX7_addFour_4 (by decide) (by omega) (fun h4 => ?_) (fun h4 => ?_)) | refine e_if_lt (tgt := 50) dX7_addFour_4 (by decide) (fun h4 => ?_) (fun h4 => ?_)
    · try first | contradiction | omega
      all_goals
        first | contradiction | omega
    · try first | contradiction | omega
      all_goals
        refine e_aload_n dX7_addFour_7 rfl rfl ?_
        refine e_getE dX7_addFour_8 fl_X7_26 rfl (up2_s _ _ _ _) ?_
        refine e_sipush (v := nI 400) dX7_addFour_11 rfl ?_
        first | ((with_reducible refine mk_nn ?_); refine n_icmp_ge (tgt := 50) dX7_addFour_14 (by decide) (by omega) (by omega) (fun h14 => ?_) (fun h14 => ?_)) | refine e_icmp_ge (tgt := 50) dX7_addFour_14 (by decide) (fun h14 => ?_) (fun h14 => ?_)
        · try first | contradiction | omega
          all_goals
            first | contradiction | omega
        · try first | contradiction | omega
          all_goals
            refine e_aload_n dX7_addFour_17 rfl rfl ?_
            refine e_getR dX7_addFour_18 fl_X7_9 rfl (cs_txt cm) ?_
            refine e_aload_n dX7_addFour_21 rfl rfl ?_
            refine e_getE dX7_addFour_22 fl_X7_26 rfl (up2_s _ _ _ _) ?_
            refine e_iload_n dX7_addFour_25 rfl rfl ?_
            refine e_iload_n dX7_addFour_26 rfl rfl ?_
            refine e_ishr dX7_addFour_27 ?_
            refine e_sipush (v := nI 255) dX7_addFour_28 rfl ?_
            refine e_iand dX7_addFour_31 ?_
            refine e_i2c dX7_addFour_32 ?_
            refine e_cast _ dX7_addFour_33 ⟨by decide, by decide⟩ rfl rfl (by simp only [lenK]; omega) ?_
            rw [by_c (j := 1) (by omega) rfl, sA_up, cmU_s]
            refine e_aload_n dX7_addFour_34 rfl rfl ?_
            refine e_dup dX7_addFour_35 rfl ?_
            refine e_getE dX7_addFour_36 fl_X7_26 rfl (up2_s _ _ _ _) ?_
            refine e_iconst (v := nI 1) dX7_addFour_39 rfl ?_
            first | ((with_reducible refine mk_nn ?_); refine n_iadd dX7_addFour_40 ?_) | refine e_iadd dX7_addFour_40 ?_
            refine e_putI dX7_addFour_41 fl_X7_26 rfl rfl rfl rfl ?_
            rw [up2_2]
            refine e_iinc dX7_addFour_44 rfl rfl (Nat.le_of_ble_eq_true rfl) rfl ?_
            refine e_goto (tgt := 3) dX7_addFour_47 (by decide) ?_
            exact p2
  have p0 : EV mX7_addFour 0 0 0 3 [some (.ref (rf 7 76)), some (.int x), some (.int (nI 24))] [] (up2 fi (32 * 7 + 3) (rf 7 76) (nI (t + 0))) fr (sA ai (rf 29 77) (cmU (ai (rf 29 77)) t x 0)) ar N (xQ none (up2 fi (32 * 7 + 3) (rf 7 76) (nI (t + 4))) fr (sA ai (rf 29 77) (cmU (ai (rf 29 77)) t x 4)) ar N) := by
    refine e_iload_n dX7_addFour_3 rfl rfl ?_
    first | ((with_reducible refine mk_ll ?_); refine m_if_lt (tgt := 50) dX7_addFour_4 (by decide) (by omega) (by omega) (fun h4 => ?_) (fun h4 => ?_)) | ((with_reducible refine mk_lc ?_); refine l_if_lt (tgt := 50) dX7_addFour_4 (by decide) (fun h4 => ?_) (fun h4 => ?_)) | ((with_reducible refine mk_n ?_); refine n_if_lt (tgt := 50) dX7_addFour_4 (by decide) (by omega) (fun h4 => ?_) (fun h4 => ?_)) | refine e_if_lt (tgt := 50) dX7_addFour_4 (by decide) (fun h4 => ?_) (fun h4 => ?_)
    · try first | contradiction | omega
      all_goals
        first | contradiction | omega
    · try first | contradiction | omega
      all_goals
        refine e_aload_n dX7_addFour_7 rfl rfl ?_
        refine e_getE dX7_addFour_8 fl_X7_26 rfl (up2_s _ _ _ _) ?_
        refine e_sipush (v := nI 400) dX7_addFour_11 rfl ?_
        first | ((with_reducible refine mk_nn ?_); refine n_icmp_ge (tgt := 50) dX7_addFour_14 (by decide) (by omega) (by omega) (fun h14 => ?_) (fun h14 => ?_)) | refine e_icmp_ge (tgt := 50) dX7_addFour_14 (by decide) (fun h14 => ?_) (fun h14 => ?_)
        · try first | contradiction | omega
          all_goals
            first | contradiction | omega
        · try first | contradiction | omega
          all_goals
            refine e_aload_n dX7_addFour_17 rfl rfl ?_
            refine e_getR dX7_addFour_18 fl_X7_9 rfl (cs_txt cm) ?_
            refine e_aload_n dX7_addFour_21 rfl rfl ?_
            refine e_getE dX7_addFour_22 fl_X7_26 rfl (up2_s _ _ _ _) ?_
            refine e_iload_n dX7_addFour_25 rfl rfl ?_
            refine e_iload_n dX7_addFour_26 rfl rfl ?_
            refine e_ishr dX7_addFour_27 ?_
            refine e_sipush (v := nI 255) dX7_addFour_28 rfl ?_
            refine e_iand dX7_addFour_31 ?_
            refine e_i2c dX7_addFour_32 ?_
            refine e_cast _ dX7_addFour_33 ⟨by decide, by decide⟩ rfl rfl (by simp only [lenK]; omega) ?_
            rw [by_c (j := 0) (by omega) rfl, sA_up, cmU_s]
            refine e_aload_n dX7_addFour_34 rfl rfl ?_
            refine e_dup dX7_addFour_35 rfl ?_
            refine e_getE dX7_addFour_36 fl_X7_26 rfl (up2_s _ _ _ _) ?_
            refine e_iconst (v := nI 1) dX7_addFour_39 rfl ?_
            first | ((with_reducible refine mk_nn ?_); refine n_iadd dX7_addFour_40 ?_) | refine e_iadd dX7_addFour_40 ?_
            refine e_putI dX7_addFour_41 fl_X7_26 rfl rfl rfl rfl ?_
            rw [up2_2]
            refine e_iinc dX7_addFour_44 rfl rfl (Nat.le_of_ble_eq_true rfl) rfl ?_
            refine e_goto (tgt := 3) dX7_addFour_47 (by decide) ?_
            exact p1
  have e0 : up2 fi (32 * 7 + 3) (rf 7 76) (nI (t + 0)) = fi := up2_id ht
  have e1 : sA ai (rf 29 77) (cmU (ai (rf 29 77)) t x 0) = ai := by unfold cmU; rw [cpA_0, sA_self]
  rw [e0, e1] at p0
  refine e_bipush (v := nI 24) dX7_addFour_0 rfl ?_
  refine e_istore_n dX7_addFour_2 rfl (Nat.le_of_ble_eq_true rfl) rfl ?_
  exact p0
def fe5 (T : Nat → Int32) (t : Nat) (a b c d e : Int32) : Nat → Int32 := cmU (cmU (cmU (cmU (cmU T t a 4) (t + 4) b 4) (t + 4 + 4) c 4) (t + 4 + 4 + 4) d 4) (t + 4 + 4 + 4 + 4) e 4
theorem ct_X10_feed {fi : FI} {fr : FR} {ai : FI} {ar : FR} {N : Nat} (cm : CM fr ar) (a b c d e : Int32) {t : Nat} (ht : fi (32 * 7 + 3) (rf 7 76) = nI t) (ht2 : t ≤ 400) : CP mX10_feed 1 0 0 [.ref (rf 10 0), .int a, .int b, .int c, .int d, .int e] fi fr ai ar N (xQ (some (.int (if t + 20 ≤ 400 then nI (t + 20) else -1))) (if t + 20 ≤ 400 then up2 fi (32 * 7 + 3) (rf 7 76) (nI (t + 20)) else fi) fr (if t + 20 ≤ 400 then sA ai (rf 29 77) (fe5 (ai (rf 29 77)) t a b c d e) else ai) ar N) := by
  change EV mX10_feed 1 0 0 0 [some (.ref (rf 10 0)), some (.int a), some (.int b), some (.int c), some (.int d), some (.int e)] [] fi fr ai ar N (xQ (some (.int (if t + 20 ≤ 400 then nI (t + 20) else -1))) (if t + 20 ≤ 400 then up2 fi (32 * 7 + 3) (rf 7 76) (nI (t + 20)) else fi) fr (if t + 20 ≤ 400 then sA ai (rf 29 77) (fe5 (ai (rf 29 77)) t a b c d e) else ai) ar N)
  by_cases h : t + 20 ≤ 400
  · rw [if_pos h, if_pos h, if_pos h]
    refine e_aload_n dX10_feed_0 rfl rfl ?_
    refine e_getR dX10_feed_1 fl_X10_65 rfl (cx_7 cm) ?_
    refine e_getE dX10_feed_4 fl_X10_174 rfl ht ?_
    refine e_sipush (v := nI 380) dX10_feed_7 rfl ?_
    first | ((with_reducible refine mk_nn ?_); refine n_icmp_le (tgt := 15) dX10_feed_10 (by decide) (by omega) (by omega) (fun h10 => ?_) (fun h10 => ?_)) | refine e_icmp_le (tgt := 15) dX10_feed_10 (by decide) (fun h10 => ?_) (fun h10 => ?_)
    · try first | contradiction | omega
      all_goals
        refine e_aload_n dX10_feed_15 rfl rfl ?_
        refine e_getR dX10_feed_16 fl_X10_65 rfl (cx_7 cm) ?_
        refine e_iload_n dX10_feed_19 rfl rfl ?_
        refine y_V1 (M' := mX7_addFour) dX10_feed_20 ml_X10_177 ok_X7_addFour (by decide) rfl im_X7_addFour se_X7_addFour (ct_X7_addFour cm ht (by omega)) (Nat.le_of_ble_eq_true rfl) (by decide) (Nat.le_of_ble_eq_true rfl) ?_
        refine e_aload_n dX10_feed_23 rfl rfl ?_
        refine e_getR dX10_feed_24 fl_X10_65 rfl (cx_7 cm) ?_
        refine e_iload_n dX10_feed_27 rfl rfl ?_
        refine y_V1 (M' := mX7_addFour) dX10_feed_28 ml_X10_177 ok_X7_addFour (by decide) rfl im_X7_addFour se_X7_addFour (ct_X7_addFour cm (t := t + 4) (up2_s _ _ _ _) (by omega)) (Nat.le_of_ble_eq_true rfl) (by decide) (Nat.le_of_ble_eq_true rfl) ?_
        rw [up2_2, sA_s, sA_sA]
        refine e_aload_n dX10_feed_31 rfl rfl ?_
        refine e_getR dX10_feed_32 fl_X10_65 rfl (cx_7 cm) ?_
        refine e_iload_n dX10_feed_35 rfl rfl ?_
        refine y_V1 (M' := mX7_addFour) dX10_feed_36 ml_X10_177 ok_X7_addFour (by decide) rfl im_X7_addFour se_X7_addFour (ct_X7_addFour cm (t := t + 4 + 4) (up2_s _ _ _ _) (by omega)) (Nat.le_of_ble_eq_true rfl) (by decide) (Nat.le_of_ble_eq_true rfl) ?_
        rw [up2_2, sA_s, sA_sA]
        refine e_aload_n dX10_feed_39 rfl rfl ?_
        refine e_getR dX10_feed_40 fl_X10_65 rfl (cx_7 cm) ?_
        refine e_iload dX10_feed_43 rfl ?_
        refine y_V1 (M' := mX7_addFour) dX10_feed_45 ml_X10_177 ok_X7_addFour (by decide) rfl im_X7_addFour se_X7_addFour (ct_X7_addFour cm (t := t + 4 + 4 + 4) (up2_s _ _ _ _) (by omega)) (Nat.le_of_ble_eq_true rfl) (by decide) (Nat.le_of_ble_eq_true rfl) ?_
        rw [up2_2, sA_s, sA_sA]
        refine e_aload_n dX10_feed_48 rfl rfl ?_
        refine e_getR dX10_feed_49 fl_X10_65 rfl (cx_7 cm) ?_
        refine e_iload dX10_feed_52 rfl ?_
        refine y_V1 (M' := mX7_addFour) dX10_feed_54 ml_X10_177 ok_X7_addFour (by decide) rfl im_X7_addFour se_X7_addFour (ct_X7_addFour cm (t := t + 4 + 4 + 4 + 4) (up2_s _ _ _ _) (by omega)) (Nat.le_of_ble_eq_true rfl) (by decide) (Nat.le_of_ble_eq_true rfl) ?_
        rw [up2_2, sA_s, sA_sA]
        refine e_aload_n dX10_feed_57 rfl rfl ?_
        refine e_getR dX10_feed_58 fl_X10_65 rfl (cx_7 cm) ?_
        refine e_getE dX10_feed_61 fl_X10_174 rfl (up2_s _ _ _ _) ?_
        refine e_ret (some _) rfl (r_int dX10_feed_64 rfl) ?_
        exact xq rfl rfl rfl rfl rfl rfl
    · try first | contradiction | omega
      all_goals
        omega
  · rw [if_neg h, if_neg h, if_neg h]
    refine e_aload_n dX10_feed_0 rfl rfl ?_
    refine e_getR dX10_feed_1 fl_X10_65 rfl (cx_7 cm) ?_
    refine e_getE dX10_feed_4 fl_X10_174 rfl ht ?_
    refine e_sipush (v := nI 380) dX10_feed_7 rfl ?_
    first | ((with_reducible refine mk_nn ?_); refine n_icmp_le (tgt := 15) dX10_feed_10 (by decide) (by omega) (by omega) (fun h10 => ?_) (fun h10 => ?_)) | refine e_icmp_le (tgt := 15) dX10_feed_10 (by decide) (fun h10 => ?_) (fun h10 => ?_)
    · try first | contradiction | omega
      all_goals
        omega
    · try first | contradiction | omega
      all_goals
        refine e_iconst (v := -1) dX10_feed_13 rfl ?_
        refine e_ret (some _) rfl (r_int dX10_feed_14 rfl) ?_
        exact xq rfl rfl rfl rfl rfl rfl
theorem ct_X10_end {fi : FI} {fr : FR} {ai : FI} {ar : FR} {N : Nat} (cm : CM fr ar) (y : Int32) {t : Nat} (ht : fi (32 * 7 + 3) (rf 7 76) = nI t) (ht2 : t ≤ 400) : CP mX10_end 0 0 0 [.ref (rf 10 0), .int y] fi fr ai ar N (xQ (some (.int (bI (inR y (t + 1))))) (if inR y (t + 1) then up2 fi (32 * 7 + 3) (rf 7 76) y else fi) fr ai ar N) := by
  change EV mX10_end 0 0 0 0 [some (.ref (rf 10 0)), some (.int y)] [] fi fr ai ar N _
  cases hy : inR y (t + 1) with
  | true =>
    obtain ⟨c, hc, hc2, rfl⟩ := inR_ex hy
    refine e_iload_n dX10_end_0 rfl rfl ?_
    first | ((with_reducible refine mk_ll ?_); refine m_if_lt (tgt := 15) dX10_end_1 (by decide) (by omega) (by omega) (fun h1 => ?_) (fun h1 => ?_)) | ((with_reducible refine mk_lc ?_); refine l_if_lt (tgt := 15) dX10_end_1 (by decide) (fun h1 => ?_) (fun h1 => ?_)) | ((with_reducible refine mk_n ?_); refine n_if_lt (tgt := 15) dX10_end_1 (by decide) (by omega) (fun h1 => ?_) (fun h1 => ?_)) | refine e_if_lt (tgt := 15) dX10_end_1 (by decide) (fun h1 => ?_) (fun h1 => ?_)
    · try first | contradiction | omega
      all_goals
        omega
    · try first | contradiction | omega
      all_goals
        refine e_iload_n dX10_end_4 rfl rfl ?_
        refine e_aload_n dX10_end_5 rfl rfl ?_
        refine e_getR dX10_end_6 fl_X10_65 rfl (cx_7 cm) ?_
        refine e_getE dX10_end_9 fl_X10_174 rfl ht ?_
        first | ((with_reducible refine mk_nn ?_); refine n_icmp_le (tgt := 17) dX10_end_12 (by decide) (by omega) (by omega) (fun h12 => ?_) (fun h12 => ?_)) | refine e_icmp_le (tgt := 17) dX10_end_12 (by decide) (fun h12 => ?_) (fun h12 => ?_)
        · try first | contradiction | omega
          all_goals
            refine e_aload_n dX10_end_17 rfl rfl ?_
            refine e_getR dX10_end_18 fl_X10_65 rfl (cx_7 cm) ?_
            refine e_iload_n dX10_end_21 rfl rfl ?_
            refine e_putI dX10_end_22 fl_X10_174 rfl rfl rfl rfl ?_
            refine e_iconst (v := nI 1) dX10_end_25 rfl ?_
            first | ((with_reducible refine mk_b ?_); refine e_ret (some _) rfl (r_bool dX10_end_26 rfl) ?_) | ((with_reducible refine mk_n1 ?_); refine e_ret (some _) rfl (r_b1 dX10_end_26 rfl) ?_) | ((with_reducible refine mk_n0 ?_); refine e_ret (some _) rfl (r_b0 dX10_end_26 rfl) ?_)
            exact xq rfl rfl rfl rfl rfl rfl
        · try first | contradiction | omega
          all_goals
            omega
  | false =>
    have hn := inR_f hy
    refine e_iload_n dX10_end_0 rfl rfl ?_
    first | ((with_reducible refine mk_ll ?_); refine m_if_lt (tgt := 15) dX10_end_1 (by decide) (by omega) (by omega) (fun h1 => ?_) (fun h1 => ?_)) | ((with_reducible refine mk_lc ?_); refine l_if_lt (tgt := 15) dX10_end_1 (by decide) (fun h1 => ?_) (fun h1 => ?_)) | ((with_reducible refine mk_n ?_); refine n_if_lt (tgt := 15) dX10_end_1 (by decide) (by omega) (fun h1 => ?_) (fun h1 => ?_)) | refine e_if_lt (tgt := 15) dX10_end_1 (by decide) (fun h1 => ?_) (fun h1 => ?_)
    · try first | contradiction | omega
      all_goals
        refine e_iconst (v := nI 0) dX10_end_15 rfl ?_
        first | ((with_reducible refine mk_b ?_); refine e_ret (some _) rfl (r_bool dX10_end_16 rfl) ?_) | ((with_reducible refine mk_n1 ?_); refine e_ret (some _) rfl (r_b1 dX10_end_16 rfl) ?_) | ((with_reducible refine mk_n0 ?_); refine e_ret (some _) rfl (r_b0 dX10_end_16 rfl) ?_)
        exact xq rfl rfl rfl rfl rfl rfl
    · try first | contradiction | omega
      all_goals
        refine e_iload_n dX10_end_4 rfl rfl ?_
        refine e_aload_n dX10_end_5 rfl rfl ?_
        refine e_getR dX10_end_6 fl_X10_65 rfl (cx_7 cm) ?_
        refine e_getE dX10_end_9 fl_X10_174 rfl ht ?_
        first | ((with_reducible refine mk_nn ?_); refine n_icmp_le (tgt := 17) dX10_end_12 (by decide) (by omega) (by omega) (fun h12 => ?_) (fun h12 => ?_)) | refine e_icmp_le (tgt := 17) dX10_end_12 (by decide) (fun h12 => ?_) (fun h12 => ?_)
        · try first | contradiction | omega
          all_goals
            rw [Int32.lt_iff_toInt_lt, show (0 : Int32).toInt = 0 from rfl] at h1
            rw [Int32.le_iff_toInt_le, nI_toInt (by omega)] at h12
            exact absurd ⟨by omega, by omega⟩ hn
        · try first | contradiction | omega
          all_goals
            refine e_iconst (v := nI 0) dX10_end_15 rfl ?_
            first | ((with_reducible refine mk_b ?_); refine e_ret (some _) rfl (r_bool dX10_end_16 rfl) ?_) | ((with_reducible refine mk_n1 ?_); refine e_ret (some _) rfl (r_b1 dX10_end_16 rfl) ?_) | ((with_reducible refine mk_n0 ?_); refine e_ret (some _) rfl (r_b0 dX10_end_16 rfl) ?_)
            exact xq rfl rfl rfl rfl rfl rfl
