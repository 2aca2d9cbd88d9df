theorem ct_rc0 {fi : FI} {fr : FR} {ai : FI} {ar : FR} {N : Nat} {w lg : Nat → Nat} (cm : CM fr ar) (iv : Inv w) (i2 : Inv2 w) (hK : K fi ai w lg (w 0)) (h01 : w 0 < 1999) (g4 : cnt (goB w) (w 3) ≤ 4) (hwt : ∀ k, k < 1000 → w (106 + k) + 2 ≤ 100000) (x y z : Int32) : CP mX10_runClause 5 0 0 [.ref (rf 10 0), .int (nI 0), .int x, .int y, .int z] fi fr ai ar N (kQ (some (.int (bI (decide ((if inR x 6 then nI (w 0) else -1) ≠ (-1 : Int32)))))) fi fr ai ar N (fun fi ai => K fi ai (if inR x 6 then fetW w x.toNatClampNeg else w) (lg) (w 0))) := by
  have hF : FR1 fi ai fi ai := FR1_rf
  change EV mX10_runClause 5 0 0 0 [some (.ref (rf 10 0)), some (.int (nI 0)), some (.int x), some (.int y), some (.int z)] [] fi fr ai ar N (kQ (some (.int (bI (decide ((if inR x 6 then nI (w 0) else -1) ≠ (-1 : Int32)))))) fi fr ai ar N (fun fi ai => K fi ai (if inR x 6 then fetW w x.toNatClampNeg else w) (lg) (w 0)))
  refine e_iload_n dX10_runClause_0 rfl rfl ?_
  refine e_swc (tgt := 76) 0 dX10_runClause_1 (by decide) (by decide) rfl (by decide) (fun _ => ?_) (fun h => absurd (show (nI 0).toInt = 0 by decide) h)
  refine e_aload_n dX10_runClause_76 rfl rfl ?_
  refine e_getR dX10_runClause_77 fl_X10_35 rfl (cx_2 cm) ?_
  refine e_iload_n dX10_runClause_80 rfl rfl ?_
  refine kx_V1 (M' := mX1_takeMap) dX10_runClause_81 ml_X10_79 ok_X1_takeMap (by decide) rfl im_X1_takeMap se_X1_takeMap (ct_X1_takeMap cm iv hK _) (Nat.le_of_ble_eq_true rfl) (by decide) (Nat.le_of_ble_eq_true rfl) (fun fi ai hG hK => ?_)
  have hF := FR1_tr hF hG
  refine e_iconst (v := -1) dX10_runClause_84 rfl ?_
  first | ((with_reducible refine mk_mo ?_); refine p_icmp_eq (tgt := 92) dX10_runClause_85 (by decide) (fun h85 => ?_) (fun h85 => ?_)) | ((with_reducible refine mk_ms ?_); refine s_icmp_eq (tgt := 92) dX10_runClause_85 (by decide) (by omega) (fun h85 => ?_) (fun h85 => ?_)) | ((with_reducible refine mk_mn ?_); refine q_icmp_eq (tgt := 92) dX10_runClause_85 (by decide) (by omega) (fun h85 => ?_) (fun h85 => ?_)) | ((with_reducible refine mk_nn ?_); refine n_icmp_eq (tgt := 92) dX10_runClause_85 (by decide) (by omega) (by omega) (fun h85 => ?_) (fun h85 => ?_)) | refine e_icmp_eq (tgt := 92) dX10_runClause_85 (by decide) (fun h85 => ?_) (fun h85 => ?_)
  · try first | contradiction | omega
    all_goals
      refine e_iconst (v := nI 0) dX10_runClause_92 rfl ?_
      first | ((with_reducible refine mk_b ?_); refine e_ret (some _) rfl (r_bool dX10_runClause_93 rfl) ?_) | ((with_reducible refine mk_n1 ?_); refine e_ret (some _) rfl (r_b1 dX10_runClause_93 rfl) ?_) | ((with_reducible refine mk_n0 ?_); refine e_ret (some _) rfl (r_b0 dX10_runClause_93 rfl) ?_)
      first | exact kq (by rw [decide_eq_false (fun q => q (by assumption))]; rfl) hF hK | exact kq (by rw [decide_eq_true (by assumption)]; rfl) hF hK
  · try first | contradiction | omega
    all_goals
      refine e_iconst (v := nI 1) dX10_runClause_88 rfl ?_
      refine e_goto (tgt := 93) dX10_runClause_89 (by decide) ?_
      first | ((with_reducible refine mk_b ?_); refine e_ret (some _) rfl (r_bool dX10_runClause_93 rfl) ?_) | ((with_reducible refine mk_n1 ?_); refine e_ret (some _) rfl (r_b1 dX10_runClause_93 rfl) ?_) | ((with_reducible refine mk_n0 ?_); refine e_ret (some _) rfl (r_b0 dX10_runClause_93 rfl) ?_)
      first | exact kq (by rw [decide_eq_false (fun q => q (by assumption))]; rfl) hF hK | exact kq (by rw [decide_eq_true (by assumption)]; rfl) hF hK
theorem ct_rc1 {fi : FI} {fr : FR} {ai : FI} {ar : FR} {N : Nat} {w lg : Nat → Nat} (cm : CM fr ar) (iv : Inv w) (i2 : Inv2 w) (hK : K fi ai w lg (w 0)) (h01 : w 0 < 1999) (g4 : cnt (goB w) (w 3) ≤ 4) (hwt : ∀ k, k < 1000 → w (106 + k) + 2 ≤ 100000) (x y z : Int32) : CP mX10_runClause 5 0 0 [.ref (rf 10 0), .int (nI 1), .int x, .int y, .int z] fi fr ai ar N (kQ (some (.int (bI (decide (0 ≤ (redR w x y).toInt))))) fi fr ai ar N (fun fi ai => K fi ai (redW w x y) (lg) (w 0))) := by
  have hF : FR1 fi ai fi ai := FR1_rf
  change EV mX10_runClause 5 0 0 0 [some (.ref (rf 10 0)), some (.int (nI 1)), some (.int x), some (.int y), some (.int z)] [] fi fr ai ar N (kQ (some (.int (bI (decide (0 ≤ (redR w x y).toInt))))) fi fr ai ar N (fun fi ai => K fi ai (redW w x y) (lg) (w 0)))
  refine e_iload_n dX10_runClause_0 rfl rfl ?_
  refine e_swc (tgt := 94) 1 dX10_runClause_1 (by decide) (by decide) rfl (by decide) (fun _ => ?_) (fun h => absurd (show (nI 1).toInt = 1 by decide) h)
  refine e_aload_n dX10_runClause_94 rfl rfl ?_
  refine e_getR dX10_runClause_95 fl_X10_35 rfl (cx_2 cm) ?_
  refine e_iload_n dX10_runClause_98 rfl rfl ?_
  refine e_iload_n dX10_runClause_99 rfl rfl ?_
  refine kx_V2 (M' := mX1_readKey) dX10_runClause_100 ml_X10_86 ok_X1_readKey (by decide) rfl im_X1_readKey se_X1_readKey (ct_X1_readKey cm iv hK _ _) (Nat.le_of_ble_eq_true rfl) (by decide) (Nat.le_of_ble_eq_true rfl) (fun fi ai hG hK => ?_)
  have hF := FR1_tr hF hG
  first | ((with_reducible refine mk_ll ?_); refine m_if_lt (tgt := 110) dX10_runClause_103 (by decide) (by omega) (by omega) (fun h103 => ?_) (fun h103 => ?_)) | ((with_reducible refine mk_lc ?_); refine l_if_lt (tgt := 110) dX10_runClause_103 (by decide) (fun h103 => ?_) (fun h103 => ?_)) | ((with_reducible refine mk_n ?_); refine n_if_lt (tgt := 110) dX10_runClause_103 (by decide) (by omega) (fun h103 => ?_) (fun h103 => ?_)) | refine e_if_lt (tgt := 110) dX10_runClause_103 (by decide) (fun h103 => ?_) (fun h103 => ?_)
  · try first | contradiction | omega
    all_goals
      refine e_iconst (v := nI 0) dX10_runClause_110 rfl ?_
      first | ((with_reducible refine mk_b ?_); refine e_ret (some _) rfl (r_bool dX10_runClause_111 rfl) ?_) | ((with_reducible refine mk_n1 ?_); refine e_ret (some _) rfl (r_b1 dX10_runClause_111 rfl) ?_) | ((with_reducible refine mk_n0 ?_); refine e_ret (some _) rfl (r_b0 dX10_runClause_111 rfl) ?_)
      first | exact kq (by rw [decide_eq_false (fun q => by first | omega | (rw [Int32.lt_iff_toInt_lt, show (0 : Int32).toInt = 0 from rfl] at h103; omega))]; rfl) hF hK | exact kq (by rw [decide_eq_true (by first | omega | (rw [Int32.lt_iff_toInt_lt, show (0 : Int32).toInt = 0 from rfl] at h103; omega))]; rfl) hF hK
  · try first | contradiction | omega
    all_goals
      refine e_iconst (v := nI 1) dX10_runClause_106 rfl ?_
      refine e_goto (tgt := 111) dX10_runClause_107 (by decide) ?_
      first | ((with_reducible refine mk_b ?_); refine e_ret (some _) rfl (r_bool dX10_runClause_111 rfl) ?_) | ((with_reducible refine mk_n1 ?_); refine e_ret (some _) rfl (r_b1 dX10_runClause_111 rfl) ?_) | ((with_reducible refine mk_n0 ?_); refine e_ret (some _) rfl (r_b0 dX10_runClause_111 rfl) ?_)
      first | exact kq (by rw [decide_eq_false (fun q => by first | omega | (rw [Int32.lt_iff_toInt_lt, show (0 : Int32).toInt = 0 from rfl] at h103; omega))]; rfl) hF hK | exact kq (by rw [decide_eq_true (by first | omega | (rw [Int32.lt_iff_toInt_lt, show (0 : Int32).toInt = 0 from rfl] at h103; omega))]; rfl) hF hK
theorem ct_rc2 {fi : FI} {fr : FR} {ai : FI} {ar : FR} {N : Nat} {w lg : Nat → Nat} (cm : CM fr ar) (iv : Inv w) (i2 : Inv2 w) (hK : K fi ai w lg (w 0)) (h01 : w 0 < 1999) (g4 : cnt (goB w) (w 3) ≤ 4) (hwt : ∀ k, k < 1000 → w (106 + k) + 2 ≤ 100000) (x y z : Int32) : CP mX10_runClause 5 0 0 [.ref (rf 10 0), .int (nI 2), .int x, .int y, .int z] fi fr ai ar N (kQ (some (.int (bI (decide (wriR w x y z = 0))))) fi fr ai ar N (fun fi ai => K fi ai (wriW w x y z) (lg) (w 0))) := by
  have hF : FR1 fi ai fi ai := FR1_rf
  change EV mX10_runClause 5 0 0 0 [some (.ref (rf 10 0)), some (.int (nI 2)), some (.int x), some (.int y), some (.int z)] [] fi fr ai ar N (kQ (some (.int (bI (decide (wriR w x y z = 0))))) fi fr ai ar N (fun fi ai => K fi ai (wriW w x y z) (lg) (w 0)))
  refine e_iload_n dX10_runClause_0 rfl rfl ?_
  refine e_swc (tgt := 112) 2 dX10_runClause_1 (by decide) (by decide) rfl (by decide) (fun _ => ?_) (fun h => absurd (show (nI 2).toInt = 2 by decide) h)
  refine e_aload_n dX10_runClause_112 rfl rfl ?_
  refine e_getR dX10_runClause_113 fl_X10_35 rfl (cx_2 cm) ?_
  refine e_iload_n dX10_runClause_116 rfl rfl ?_
  refine e_iload_n dX10_runClause_117 rfl rfl ?_
  refine e_iload dX10_runClause_118 rfl ?_
  refine kx_V3 (M' := mX1_writeKey) dX10_runClause_120 ml_X10_90 ok_X1_writeKey (by decide) rfl im_X1_writeKey se_X1_writeKey (ct_X1_writeKey cm iv hK _ _ _ (by assumption)) (Nat.le_of_ble_eq_true rfl) (by decide) (Nat.le_of_ble_eq_true rfl) (fun fi ai hG hK => ?_)
  have hF := FR1_tr hF hG
  first | ((with_reducible refine mk_b ?_); refine b_if_ne (tgt := 130) dX10_runClause_123 (by decide) (fun h123 => ?_) (fun h123 => ?_)) | ((with_reducible refine mk_ll ?_); refine m_if_ne (tgt := 130) dX10_runClause_123 (by decide) (by omega) (by omega) (fun h123 => ?_) (fun h123 => ?_)) | ((with_reducible refine mk_lc ?_); refine l_if_ne (tgt := 130) dX10_runClause_123 (by decide) (fun h123 => ?_) (fun h123 => ?_)) | ((with_reducible refine mk_n ?_); refine n_if_ne (tgt := 130) dX10_runClause_123 (by decide) (by omega) (fun h123 => ?_) (fun h123 => ?_)) | refine e_if_ne (tgt := 130) dX10_runClause_123 (by decide) (fun h123 => ?_) (fun h123 => ?_)
  · try first | contradiction | omega | (simp only [decide_eq_true_eq, decide_eq_false_iff_not] at h123; omega)
    all_goals
      refine e_iconst (v := nI 0) dX10_runClause_130 rfl ?_
      first | ((with_reducible refine mk_b ?_); refine e_ret (some _) rfl (r_bool dX10_runClause_131 rfl) ?_) | ((with_reducible refine mk_n1 ?_); refine e_ret (some _) rfl (r_b1 dX10_runClause_131 rfl) ?_) | ((with_reducible refine mk_n0 ?_); refine e_ret (some _) rfl (r_b0 dX10_runClause_131 rfl) ?_)
      first | exact kq (by rw [decide_eq_false (by assumption)]; rfl) hF hK | exact kq (by rw [decide_eq_true (by assumption)]; rfl) hF hK
  · try first | contradiction | omega | (simp only [decide_eq_true_eq, decide_eq_false_iff_not] at h123; omega)
    all_goals
      refine e_iconst (v := nI 1) dX10_runClause_126 rfl ?_
      refine e_goto (tgt := 131) dX10_runClause_127 (by decide) ?_
      first | ((with_reducible refine mk_b ?_); refine e_ret (some _) rfl (r_bool dX10_runClause_131 rfl) ?_) | ((with_reducible refine mk_n1 ?_); refine e_ret (some _) rfl (r_b1 dX10_runClause_131 rfl) ?_) | ((with_reducible refine mk_n0 ?_); refine e_ret (some _) rfl (r_b0 dX10_runClause_131 rfl) ?_)
      first | exact kq (by rw [decide_eq_false (by assumption)]; rfl) hF hK | exact kq (by rw [decide_eq_true (by assumption)]; rfl) hF hK
theorem ct_rc3 {fi : FI} {fr : FR} {ai : FI} {ar : FR} {N : Nat} {w lg : Nat → Nat} (cm : CM fr ar) (iv : Inv w) (i2 : Inv2 w) (hK : K fi ai w lg (w 0)) (h01 : w 0 < 1999) (g4 : cnt (goB w) (w 3) ≤ 4) (hwt : ∀ k, k < 1000 → w (106 + k) + 2 ≤ 100000) (x y z : Int32) : CP mX10_runClause 5 0 0 [.ref (rf 10 0), .int (nI 3), .int x, .int y, .int z] fi fr ai ar N (kQ (some (.int (bI (decide ((sptR w (nmO w x) y (-1)) ≠ (-1 : Int32)))))) fi fr ai ar N (fun fi ai => K fi ai (sptW w (nmO w x) y) (sptL lg w (nmO w x) y) (sptW w (nmO w x) y 0))) := by
  have hF : FR1 fi ai fi ai := FR1_rf
  change EV mX10_runClause 5 0 0 0 [some (.ref (rf 10 0)), some (.int (nI 3)), some (.int x), some (.int y), some (.int z)] [] fi fr ai ar N (kQ (some (.int (bI (decide ((sptR w (nmO w x) y (-1)) ≠ (-1 : Int32)))))) fi fr ai ar N (fun fi ai => K fi ai (sptW w (nmO w x) y) (sptL lg w (nmO w x) y) (sptW w (nmO w x) y 0)))
  refine e_iload_n dX10_runClause_0 rfl rfl ?_
  refine e_swc (tgt := 132) 3 dX10_runClause_1 (by decide) (by decide) rfl (by decide) (fun _ => ?_) (fun h => absurd (show (nI 3).toInt = 3 by decide) h)
  refine e_aload_n dX10_runClause_132 rfl rfl ?_
  refine e_getR dX10_runClause_133 fl_X10_44 rfl (cx_3 cm) ?_
  refine e_iload_n dX10_runClause_136 rfl rfl ?_
  refine e_iload_n dX10_runClause_137 rfl rfl ?_
  refine kx_V2 (M' := mX2_cutAt) dX10_runClause_138 ml_X10_130 ok_X2_cutAt (by decide) rfl im_X2_cutAt se_X2_cutAt (ct_X2_cutAt cm iv hK (by omega) _ _) (Nat.le_of_ble_eq_true rfl) (by decide) (Nat.le_of_ble_eq_true rfl) (fun fi ai hG hK => ?_)
  have hF := FR1_tr hF hG
  refine e_iconst (v := -1) dX10_runClause_141 rfl ?_
  first | ((with_reducible refine mk_mo ?_); refine p_icmp_eq (tgt := 149) dX10_runClause_142 (by decide) (fun h142 => ?_) (fun h142 => ?_)) | ((with_reducible refine mk_ms ?_); refine s_icmp_eq (tgt := 149) dX10_runClause_142 (by decide) (by omega) (fun h142 => ?_) (fun h142 => ?_)) | ((with_reducible refine mk_mn ?_); refine q_icmp_eq (tgt := 149) dX10_runClause_142 (by decide) (by omega) (fun h142 => ?_) (fun h142 => ?_)) | ((with_reducible refine mk_nn ?_); refine n_icmp_eq (tgt := 149) dX10_runClause_142 (by decide) (by omega) (by omega) (fun h142 => ?_) (fun h142 => ?_)) | refine e_icmp_eq (tgt := 149) dX10_runClause_142 (by decide) (fun h142 => ?_) (fun h142 => ?_)
  · try first | contradiction | omega
    all_goals
      refine e_iconst (v := nI 0) dX10_runClause_149 rfl ?_
      first | ((with_reducible refine mk_b ?_); refine e_ret (some _) rfl (r_bool dX10_runClause_150 rfl) ?_) | ((with_reducible refine mk_n1 ?_); refine e_ret (some _) rfl (r_b1 dX10_runClause_150 rfl) ?_) | ((with_reducible refine mk_n0 ?_); refine e_ret (some _) rfl (r_b0 dX10_runClause_150 rfl) ?_)
      first | exact kq (by rw [decide_eq_false (fun q => q (by assumption))]; rfl) hF hK | exact kq (by rw [decide_eq_true (by assumption)]; rfl) hF hK
  · try first | contradiction | omega
    all_goals
      refine e_iconst (v := nI 1) dX10_runClause_145 rfl ?_
      refine e_goto (tgt := 150) dX10_runClause_146 (by decide) ?_
      first | ((with_reducible refine mk_b ?_); refine e_ret (some _) rfl (r_bool dX10_runClause_150 rfl) ?_) | ((with_reducible refine mk_n1 ?_); refine e_ret (some _) rfl (r_b1 dX10_runClause_150 rfl) ?_) | ((with_reducible refine mk_n0 ?_); refine e_ret (some _) rfl (r_b0 dX10_runClause_150 rfl) ?_)
      first | exact kq (by rw [decide_eq_false (fun q => q (by assumption))]; rfl) hF hK | exact kq (by rw [decide_eq_true (by assumption)]; rfl) hF hK
theorem ct_rc4 {fi : FI} {fr : FR} {ai : FI} {ar : FR} {N : Nat} {w lg : Nat → Nat} (cm : CM fr ar) (iv : Inv w) (i2 : Inv2 w) (hK : K fi ai w lg (w 0)) (h01 : w 0 < 1999) (g4 : cnt (goB w) (w 3) ≤ 4) (hwt : ∀ k, k < 1000 → w (106 + k) + 2 ≤ 100000) (x y z : Int32) : CP mX10_runClause 5 0 0 [.ref (rf 10 0), .int (nI 4), .int x, .int y, .int z] fi fr ai ar N (kQ (some (.int (bI (decide ((mdlR w x) ≠ (-1 : Int32)))))) fi fr ai ar N (fun fi ai => K fi ai (mdlW w x) (mdlL lg w x) (mdlW w x 0))) := by
  have hF : FR1 fi ai fi ai := FR1_rf
  change EV mX10_runClause 5 0 0 0 [some (.ref (rf 10 0)), some (.int (nI 4)), some (.int x), some (.int y), some (.int z)] [] fi fr ai ar N (kQ (some (.int (bI (decide ((mdlR w x) ≠ (-1 : Int32)))))) fi fr ai ar N (fun fi ai => K fi ai (mdlW w x) (mdlL lg w x) (mdlW w x 0)))
  refine e_iload_n dX10_runClause_0 rfl rfl ?_
  refine e_swc (tgt := 151) 4 dX10_runClause_1 (by decide) (by decide) rfl (by decide) (fun _ => ?_) (fun h => absurd (show (nI 4).toInt = 4 by decide) h)
  refine e_aload_n dX10_runClause_151 rfl rfl ?_
  refine e_getR dX10_runClause_152 fl_X10_44 rfl (cx_3 cm) ?_
  refine e_iload_n dX10_runClause_155 rfl rfl ?_
  refine kx_V1 (M' := mX2_cutInMiddle) dX10_runClause_156 ml_X10_136 ok_X2_cutInMiddle (by decide) rfl im_X2_cutInMiddle se_X2_cutInMiddle (ct_X2_cutInMiddle cm iv hK (by omega) _) (Nat.le_of_ble_eq_true rfl) (by decide) (Nat.le_of_ble_eq_true rfl) (fun fi ai hG hK => ?_)
  have hF := FR1_tr hF hG
  refine e_iconst (v := -1) dX10_runClause_159 rfl ?_
  first | ((with_reducible refine mk_mo ?_); refine p_icmp_eq (tgt := 167) dX10_runClause_160 (by decide) (fun h160 => ?_) (fun h160 => ?_)) | ((with_reducible refine mk_ms ?_); refine s_icmp_eq (tgt := 167) dX10_runClause_160 (by decide) (by omega) (fun h160 => ?_) (fun h160 => ?_)) | ((with_reducible refine mk_mn ?_); refine q_icmp_eq (tgt := 167) dX10_runClause_160 (by decide) (by omega) (fun h160 => ?_) (fun h160 => ?_)) | ((with_reducible refine mk_nn ?_); refine n_icmp_eq (tgt := 167) dX10_runClause_160 (by decide) (by omega) (by omega) (fun h160 => ?_) (fun h160 => ?_)) | refine e_icmp_eq (tgt := 167) dX10_runClause_160 (by decide) (fun h160 => ?_) (fun h160 => ?_)
  · try first | contradiction | omega
    all_goals
      refine e_iconst (v := nI 0) dX10_runClause_167 rfl ?_
      first | ((with_reducible refine mk_b ?_); refine e_ret (some _) rfl (r_bool dX10_runClause_168 rfl) ?_) | ((with_reducible refine mk_n1 ?_); refine e_ret (some _) rfl (r_b1 dX10_runClause_168 rfl) ?_) | ((with_reducible refine mk_n0 ?_); refine e_ret (some _) rfl (r_b0 dX10_runClause_168 rfl) ?_)
      first | exact kq (by rw [decide_eq_false (fun q => q (by assumption))]; rfl) hF hK | exact kq (by rw [decide_eq_true (by assumption)]; rfl) hF hK
  · try first | contradiction | omega
    all_goals
      refine e_iconst (v := nI 1) dX10_runClause_163 rfl ?_
      refine e_goto (tgt := 168) dX10_runClause_164 (by decide) ?_
      first | ((with_reducible refine mk_b ?_); refine e_ret (some _) rfl (r_bool dX10_runClause_168 rfl) ?_) | ((with_reducible refine mk_n1 ?_); refine e_ret (some _) rfl (r_b1 dX10_runClause_168 rfl) ?_) | ((with_reducible refine mk_n0 ?_); refine e_ret (some _) rfl (r_b0 dX10_runClause_168 rfl) ?_)
      first | exact kq (by rw [decide_eq_false (fun q => q (by assumption))]; rfl) hF hK | exact kq (by rw [decide_eq_true (by assumption)]; rfl) hF hK
theorem ct_rc5 {fi : FI} {fr : FR} {ai : FI} {ar : FR} {N : Nat} {w lg : Nat → Nat} (cm : CM fr ar) (iv : Inv w) (i2 : Inv2 w) (hK : K fi ai w lg (w 0)) (h01 : w 0 < 1999) (g4 : cnt (goB w) (w 3) ≤ 4) (hwt : ∀ k, k < 1000 → w (106 + k) + 2 ≤ 100000) (x y z : Int32) : CP mX10_runClause 5 0 0 [.ref (rf 10 0), .int (nI 5), .int x, .int y, .int z] fi fr ai ar N (kQ (some (.int (bI (decide ((jonR w (nmO w x)) ≠ (-1 : Int32)))))) fi fr ai ar N (fun fi ai => K fi ai (jonW w (nmO w x)) (jonL lg w (nmO w x)) (jonW w (nmO w x) 0))) := by
  have hF : FR1 fi ai fi ai := FR1_rf
  change EV mX10_runClause 5 0 0 0 [some (.ref (rf 10 0)), some (.int (nI 5)), some (.int x), some (.int y), some (.int z)] [] fi fr ai ar N (kQ (some (.int (bI (decide ((jonR w (nmO w x)) ≠ (-1 : Int32)))))) fi fr ai ar N (fun fi ai => K fi ai (jonW w (nmO w x)) (jonL lg w (nmO w x)) (jonW w (nmO w x) 0)))
  refine e_iload_n dX10_runClause_0 rfl rfl ?_
  refine e_swc (tgt := 169) 5 dX10_runClause_1 (by decide) (by decide) rfl (by decide) (fun _ => ?_) (fun h => absurd (show (nI 5).toInt = 5 by decide) h)
  refine e_aload_n dX10_runClause_169 rfl rfl ?_
  refine e_getR dX10_runClause_170 fl_X10_44 rfl (cx_3 cm) ?_
  refine e_iload_n dX10_runClause_173 rfl rfl ?_
  refine kx_V1 (M' := mX2_joinWithNext) dX10_runClause_174 ml_X10_139 ok_X2_joinWithNext (by decide) rfl im_X2_joinWithNext se_X2_joinWithNext (ct_X2_joinWithNext cm iv hK (by omega) _) (Nat.le_of_ble_eq_true rfl) (by decide) (Nat.le_of_ble_eq_true rfl) (fun fi ai hG hK => ?_)
  have hF := FR1_tr hF hG
  refine e_iconst (v := -1) dX10_runClause_177 rfl ?_
  first | ((with_reducible refine mk_mo ?_); refine p_icmp_eq (tgt := 185) dX10_runClause_178 (by decide) (fun h178 => ?_) (fun h178 => ?_)) | ((with_reducible refine mk_ms ?_); refine s_icmp_eq (tgt := 185) dX10_runClause_178 (by decide) (by omega) (fun h178 => ?_) (fun h178 => ?_)) | ((with_reducible refine mk_mn ?_); refine q_icmp_eq (tgt := 185) dX10_runClause_178 (by decide) (by omega) (fun h178 => ?_) (fun h178 => ?_)) | ((with_reducible refine mk_nn ?_); refine n_icmp_eq (tgt := 185) dX10_runClause_178 (by decide) (by omega) (by omega) (fun h178 => ?_) (fun h178 => ?_)) | refine e_icmp_eq (tgt := 185) dX10_runClause_178 (by decide) (fun h178 => ?_) (fun h178 => ?_)
  · try first | contradiction | omega
    all_goals
      refine e_iconst (v := nI 0) dX10_runClause_185 rfl ?_
      first | ((with_reducible refine mk_b ?_); refine e_ret (some _) rfl (r_bool dX10_runClause_186 rfl) ?_) | ((with_reducible refine mk_n1 ?_); refine e_ret (some _) rfl (r_b1 dX10_runClause_186 rfl) ?_) | ((with_reducible refine mk_n0 ?_); refine e_ret (some _) rfl (r_b0 dX10_runClause_186 rfl) ?_)
      first | exact kq (by rw [decide_eq_false (fun q => q (by assumption))]; rfl) hF hK | exact kq (by rw [decide_eq_true (by assumption)]; rfl) hF hK
  · try first | contradiction | omega
    all_goals
      refine e_iconst (v := nI 1) dX10_runClause_181 rfl ?_
      refine e_goto (tgt := 186) dX10_runClause_182 (by decide) ?_
      first | ((with_reducible refine mk_b ?_); refine e_ret (some _) rfl (r_bool dX10_runClause_186 rfl) ?_) | ((with_reducible refine mk_n1 ?_); refine e_ret (some _) rfl (r_b1 dX10_runClause_186 rfl) ?_) | ((with_reducible refine mk_n0 ?_); refine e_ret (some _) rfl (r_b0 dX10_runClause_186 rfl) ?_)
      first | exact kq (by rw [decide_eq_false (fun q => q (by assumption))]; rfl) hF hK | exact kq (by rw [decide_eq_true (by assumption)]; rfl) hF hK
theorem ct_rc6 {fi : FI} {fr : FR} {ai : FI} {ar : FR} {N : Nat} {w lg : Nat → Nat} (cm : CM fr ar) (iv : Inv w) (i2 : Inv2 w) (hK : K fi ai w lg (w 0)) (h01 : w 0 < 1999) (g4 : cnt (goB w) (w 3) ≤ 4) (hwt : ∀ k, k < 1000 → w (106 + k) + 2 ≤ 100000) (x y z : Int32) : CP mX10_runClause 5 0 0 [.ref (rf 10 0), .int (nI 6), .int x, .int y, .int z] fi fr ai ar N (kQ (some (.int (bI (decide ((mvR w (nmO w x) y) ≠ (-1 : Int32)))))) fi fr ai ar N (fun fi ai => K fi ai (mvW w (nmO w x) y) (lg) (w 0))) := by
  have hF : FR1 fi ai fi ai := FR1_rf
  change EV mX10_runClause 5 0 0 0 [some (.ref (rf 10 0)), some (.int (nI 6)), some (.int x), some (.int y), some (.int z)] [] fi fr ai ar N (kQ (some (.int (bI (decide ((mvR w (nmO w x) y) ≠ (-1 : Int32)))))) fi fr ai ar N (fun fi ai => K fi ai (mvW w (nmO w x) y) (lg) (w 0)))
  refine e_iload_n dX10_runClause_0 rfl rfl ?_
  refine e_swc (tgt := 187) 6 dX10_runClause_1 (by decide) (by decide) rfl (by decide) (fun _ => ?_) (fun h => absurd (show (nI 6).toInt = 6 by decide) h)
  refine e_aload_n dX10_runClause_187 rfl rfl ?_
  refine e_getR dX10_runClause_188 fl_X10_51 rfl (cx_4 cm) ?_
  refine e_iload_n dX10_runClause_191 rfl rfl ?_
  refine e_iload_n dX10_runClause_192 rfl rfl ?_
  refine kx_V2 (M' := mX5_begin) dX10_runClause_193 ml_X10_142 ok_X5_begin (by decide) rfl im_X5_begin se_X5_begin (ct_X5_begin cm iv hK (by assumption) _ _) (Nat.le_of_ble_eq_true rfl) (by decide) (Nat.le_of_ble_eq_true rfl) (fun fi ai hG hK => ?_)
  have hF := FR1_tr hF hG
  refine e_iconst (v := -1) dX10_runClause_196 rfl ?_
  first | ((with_reducible refine mk_mo ?_); refine p_icmp_eq (tgt := 204) dX10_runClause_197 (by decide) (fun h197 => ?_) (fun h197 => ?_)) | ((with_reducible refine mk_ms ?_); refine s_icmp_eq (tgt := 204) dX10_runClause_197 (by decide) (by omega) (fun h197 => ?_) (fun h197 => ?_)) | ((with_reducible refine mk_mn ?_); refine q_icmp_eq (tgt := 204) dX10_runClause_197 (by decide) (by omega) (fun h197 => ?_) (fun h197 => ?_)) | ((with_reducible refine mk_nn ?_); refine n_icmp_eq (tgt := 204) dX10_runClause_197 (by decide) (by omega) (by omega) (fun h197 => ?_) (fun h197 => ?_)) | refine e_icmp_eq (tgt := 204) dX10_runClause_197 (by decide) (fun h197 => ?_) (fun h197 => ?_)
  · try first | contradiction | omega
    all_goals
      refine e_iconst (v := nI 0) dX10_runClause_204 rfl ?_
      first | ((with_reducible refine mk_b ?_); refine e_ret (some _) rfl (r_bool dX10_runClause_205 rfl) ?_) | ((with_reducible refine mk_n1 ?_); refine e_ret (some _) rfl (r_b1 dX10_runClause_205 rfl) ?_) | ((with_reducible refine mk_n0 ?_); refine e_ret (some _) rfl (r_b0 dX10_runClause_205 rfl) ?_)
      first | exact kq (by rw [decide_eq_false (fun q => q (by assumption))]; rfl) hF hK | exact kq (by rw [decide_eq_true (by assumption)]; rfl) hF hK
  · try first | contradiction | omega
    all_goals
      refine e_iconst (v := nI 1) dX10_runClause_200 rfl ?_
      refine e_goto (tgt := 205) dX10_runClause_201 (by decide) ?_
      first | ((with_reducible refine mk_b ?_); refine e_ret (some _) rfl (r_bool dX10_runClause_205 rfl) ?_) | ((with_reducible refine mk_n1 ?_); refine e_ret (some _) rfl (r_b1 dX10_runClause_205 rfl) ?_) | ((with_reducible refine mk_n0 ?_); refine e_ret (some _) rfl (r_b0 dX10_runClause_205 rfl) ?_)
      first | exact kq (by rw [decide_eq_false (fun q => q (by assumption))]; rfl) hF hK | exact kq (by rw [decide_eq_true (by assumption)]; rfl) hF hK
theorem ct_rc7 {fi : FI} {fr : FR} {ai : FI} {ar : FR} {N : Nat} {w lg : Nat → Nat} (cm : CM fr ar) (iv : Inv w) (i2 : Inv2 w) (hK : K fi ai w lg (w 0)) (h01 : w 0 < 1999) (g4 : cnt (goB w) (w 3) ≤ 4) (hwt : ∀ k, k < 1000 → w (106 + k) + 2 ≤ 100000) (x y z : Int32) : CP mX10_runClause 5 0 0 [.ref (rf 10 0), .int (nI 7), .int x, .int y, .int z] fi fr ai ar N (kQ (some (.int (bI (decide ((if stpB w x y then nI (st1 w x.toNatClampNeg y.toNatClampNeg (7694 + 72 * x.toNatClampNeg + 0)) else -1) ≠ (-1 : Int32)))))) fi fr ai ar N (fun fi ai => K fi ai (if stpB w x y then st1 w x.toNatClampNeg y.toNatClampNeg else w) (if stpB w x y then stL lg w x.toNatClampNeg y.toNatClampNeg else lg) ((if stpB w x y then st1 w x.toNatClampNeg y.toNatClampNeg else w) 0))) := by
  have hF : FR1 fi ai fi ai := FR1_rf
  change EV mX10_runClause 5 0 0 0 [some (.ref (rf 10 0)), some (.int (nI 7)), some (.int x), some (.int y), some (.int z)] [] fi fr ai ar N (kQ (some (.int (bI (decide ((if stpB w x y then nI (st1 w x.toNatClampNeg y.toNatClampNeg (7694 + 72 * x.toNatClampNeg + 0)) else -1) ≠ (-1 : Int32)))))) fi fr ai ar N (fun fi ai => K fi ai (if stpB w x y then st1 w x.toNatClampNeg y.toNatClampNeg else w) (if stpB w x y then stL lg w x.toNatClampNeg y.toNatClampNeg else lg) ((if stpB w x y then st1 w x.toNatClampNeg y.toNatClampNeg else w) 0)))
  refine e_iload_n dX10_runClause_0 rfl rfl ?_
  refine e_swc (tgt := 206) 7 dX10_runClause_1 (by decide) (by decide) rfl (by decide) (fun _ => ?_) (fun h => absurd (show (nI 7).toInt = 7 by decide) h)
  refine e_aload_n dX10_runClause_206 rfl rfl ?_
  refine e_getR dX10_runClause_207 fl_X10_51 rfl (cx_4 cm) ?_
  refine e_iload_n dX10_runClause_210 rfl rfl ?_
  refine e_iload_n dX10_runClause_211 rfl rfl ?_
  refine kx_V2 (M' := mX5_takeSteps) dX10_runClause_212 ml_X10_145 ok_X5_takeSteps (by decide) rfl im_X5_takeSteps se_X5_takeSteps (ct_X5_takeSteps cm iv ‹_› hK (by omega) _ _) (Nat.le_of_ble_eq_true rfl) (by decide) (Nat.le_of_ble_eq_true rfl) (fun fi ai hG hK => ?_)
  have hF := FR1_tr hF hG
  refine e_iconst (v := -1) dX10_runClause_215 rfl ?_
  first | ((with_reducible refine mk_mo ?_); refine p_icmp_eq (tgt := 223) dX10_runClause_216 (by decide) (fun h216 => ?_) (fun h216 => ?_)) | ((with_reducible refine mk_ms ?_); refine s_icmp_eq (tgt := 223) dX10_runClause_216 (by decide) (by omega) (fun h216 => ?_) (fun h216 => ?_)) | ((with_reducible refine mk_mn ?_); refine q_icmp_eq (tgt := 223) dX10_runClause_216 (by decide) (by omega) (fun h216 => ?_) (fun h216 => ?_)) | ((with_reducible refine mk_nn ?_); refine n_icmp_eq (tgt := 223) dX10_runClause_216 (by decide) (by omega) (by omega) (fun h216 => ?_) (fun h216 => ?_)) | refine e_icmp_eq (tgt := 223) dX10_runClause_216 (by decide) (fun h216 => ?_) (fun h216 => ?_)
  · try first | contradiction | omega
    all_goals
      refine e_iconst (v := nI 0) dX10_runClause_223 rfl ?_
      first | ((with_reducible refine mk_b ?_); refine e_ret (some _) rfl (r_bool dX10_runClause_224 rfl) ?_) | ((with_reducible refine mk_n1 ?_); refine e_ret (some _) rfl (r_b1 dX10_runClause_224 rfl) ?_) | ((with_reducible refine mk_n0 ?_); refine e_ret (some _) rfl (r_b0 dX10_runClause_224 rfl) ?_)
      first | exact kq (by rw [decide_eq_false (fun q => q (by assumption))]; rfl) hF hK | exact kq (by rw [decide_eq_true (by assumption)]; rfl) hF hK
  · try first | contradiction | omega
    all_goals
      refine e_iconst (v := nI 1) dX10_runClause_219 rfl ?_
      refine e_goto (tgt := 224) dX10_runClause_220 (by decide) ?_
      first | ((with_reducible refine mk_b ?_); refine e_ret (some _) rfl (r_bool dX10_runClause_224 rfl) ?_) | ((with_reducible refine mk_n1 ?_); refine e_ret (some _) rfl (r_b1 dX10_runClause_224 rfl) ?_) | ((with_reducible refine mk_n0 ?_); refine e_ret (some _) rfl (r_b0 dX10_runClause_224 rfl) ?_)
      first | exact kq (by rw [decide_eq_false (fun q => q (by assumption))]; rfl) hF hK | exact kq (by rw [decide_eq_true (by assumption)]; rfl) hF hK
theorem ct_rc8 {fi : FI} {fr : FR} {ai : FI} {ar : FR} {N : Nat} {w lg : Nat → Nat} (cm : CM fr ar) (iv : Inv w) (i2 : Inv2 w) (hK : K fi ai w lg (w 0)) (h01 : w 0 < 1999) (g4 : cnt (goB w) (w 3) ≤ 4) (hwt : ∀ k, k < 1000 → w (106 + k) + 2 ≤ 100000) (x y z : Int32) : CP mX10_runClause 5 0 0 [.ref (rf 10 0), .int (nI 8), .int x, .int y, .int z] fi fr ai ar N (kQ (some (.int (bI (faiB w x y)))) fi fr ai ar N (fun fi ai => K fi ai (if faiB w x y then upN w (7694 + 72 * x.toNatClampNeg + 10) y.toNatClampNeg else w) (lg) (w 0))) := by
  have hF : FR1 fi ai fi ai := FR1_rf
  change EV mX10_runClause 5 0 0 0 [some (.ref (rf 10 0)), some (.int (nI 8)), some (.int x), some (.int y), some (.int z)] [] fi fr ai ar N (kQ (some (.int (bI (faiB w x y)))) fi fr ai ar N (fun fi ai => K fi ai (if faiB w x y then upN w (7694 + 72 * x.toNatClampNeg + 10) y.toNatClampNeg else w) (lg) (w 0)))
  refine e_iload_n dX10_runClause_0 rfl rfl ?_
  refine e_swc (tgt := 225) 8 dX10_runClause_1 (by decide) (by decide) rfl (by decide) (fun _ => ?_) (fun h => absurd (show (nI 8).toInt = 8 by decide) h)
  refine e_aload_n dX10_runClause_225 rfl rfl ?_
  refine e_getR dX10_runClause_226 fl_X10_51 rfl (cx_4 cm) ?_
  refine e_iload_n dX10_runClause_229 rfl rfl ?_
  refine e_iload_n dX10_runClause_230 rfl rfl ?_
  refine kx_V2 (M' := mX5_tellToFail) dX10_runClause_231 ml_X10_148 ok_X5_tellToFail (by decide) rfl im_X5_tellToFail se_X5_tellToFail (ct_X5_tellToFail cm iv hK _ _) (Nat.le_of_ble_eq_true rfl) (by decide) (Nat.le_of_ble_eq_true rfl) (fun fi ai hG hK => ?_)
  have hF := FR1_tr hF hG
  first | ((with_reducible refine mk_b ?_); refine e_ret (some _) rfl (r_bool dX10_runClause_234 rfl) ?_) | ((with_reducible refine mk_n1 ?_); refine e_ret (some _) rfl (r_b1 dX10_runClause_234 rfl) ?_) | ((with_reducible refine mk_n0 ?_); refine e_ret (some _) rfl (r_b0 dX10_runClause_234 rfl) ?_)
  exact kq rfl hF hK
theorem ct_rc9 {fi : FI} {fr : FR} {ai : FI} {ar : FR} {N : Nat} {w lg : Nat → Nat} (cm : CM fr ar) (iv : Inv w) (i2 : Inv2 w) (hK : K fi ai w lg (w 0)) (h01 : w 0 < 1999) (g4 : cnt (goB w) (w 3) ≤ 4) (hwt : ∀ k, k < 1000 → w (106 + k) + 2 ≤ 100000) (x y z : Int32) : CP mX10_runClause 5 0 0 [.ref (rf 10 0), .int (nI 9), .int x, .int y, .int z] fi fr ai ar N (kQ (some (.int (bI (decide ((dowR w x) ≠ (-1 : Int32)))))) fi fr ai ar N (fun fi ai => K fi ai (dowW w x) (lg) (w 0))) := by
  have hF : FR1 fi ai fi ai := FR1_rf
  change EV mX10_runClause 5 0 0 0 [some (.ref (rf 10 0)), some (.int (nI 9)), some (.int x), some (.int y), some (.int z)] [] fi fr ai ar N (kQ (some (.int (bI (decide ((dowR w x) ≠ (-1 : Int32)))))) fi fr ai ar N (fun fi ai => K fi ai (dowW w x) (lg) (w 0)))
  refine e_iload_n dX10_runClause_0 rfl rfl ?_
  refine e_swc (tgt := 235) 9 dX10_runClause_1 (by decide) (by decide) rfl (by decide) (fun _ => ?_) (fun h => absurd (show (nI 9).toInt = 9 by decide) h)
  refine e_aload_n dX10_runClause_235 rfl rfl ?_
  refine e_getR dX10_runClause_236 fl_X10_51 rfl (cx_4 cm) ?_
  refine e_iload_n dX10_runClause_239 rfl rfl ?_
  refine kx_V1 (M' := mX5_takeDown) dX10_runClause_240 ml_X10_152 ok_X5_takeDown (by decide) rfl im_X5_takeDown se_X5_takeDown (ct_X5_takeDown cm iv hK _) (Nat.le_of_ble_eq_true rfl) (by decide) (Nat.le_of_ble_eq_true rfl) (fun fi ai hG hK => ?_)
  have hF := FR1_tr hF hG
  refine e_iconst (v := -1) dX10_runClause_243 rfl ?_
  first | ((with_reducible refine mk_mo ?_); refine p_icmp_eq (tgt := 251) dX10_runClause_244 (by decide) (fun h244 => ?_) (fun h244 => ?_)) | ((with_reducible refine mk_ms ?_); refine s_icmp_eq (tgt := 251) dX10_runClause_244 (by decide) (by omega) (fun h244 => ?_) (fun h244 => ?_)) | ((with_reducible refine mk_mn ?_); refine q_icmp_eq (tgt := 251) dX10_runClause_244 (by decide) (by omega) (fun h244 => ?_) (fun h244 => ?_)) | ((with_reducible refine mk_nn ?_); refine n_icmp_eq (tgt := 251) dX10_runClause_244 (by decide) (by omega) (by omega) (fun h244 => ?_) (fun h244 => ?_)) | refine e_icmp_eq (tgt := 251) dX10_runClause_244 (by decide) (fun h244 => ?_) (fun h244 => ?_)
  · try first | contradiction | omega
    all_goals
      refine e_iconst (v := nI 0) dX10_runClause_251 rfl ?_
      first | ((with_reducible refine mk_b ?_); refine e_ret (some _) rfl (r_bool dX10_runClause_252 rfl) ?_) | ((with_reducible refine mk_n1 ?_); refine e_ret (some _) rfl (r_b1 dX10_runClause_252 rfl) ?_) | ((with_reducible refine mk_n0 ?_); refine e_ret (some _) rfl (r_b0 dX10_runClause_252 rfl) ?_)
      first | exact kq (by rw [decide_eq_false (fun q => q (by assumption))]; rfl) hF hK | exact kq (by rw [decide_eq_true (by assumption)]; rfl) hF hK
  · try first | contradiction | omega
    all_goals
      refine e_iconst (v := nI 1) dX10_runClause_247 rfl ?_
      refine e_goto (tgt := 252) dX10_runClause_248 (by decide) ?_
      first | ((with_reducible refine mk_b ?_); refine e_ret (some _) rfl (r_bool dX10_runClause_252 rfl) ?_) | ((with_reducible refine mk_n1 ?_); refine e_ret (some _) rfl (r_b1 dX10_runClause_252 rfl) ?_) | ((with_reducible refine mk_n0 ?_); refine e_ret (some _) rfl (r_b0 dX10_runClause_252 rfl) ?_)
      first | exact kq (by rw [decide_eq_false (fun q => q (by assumption))]; rfl) hF hK | exact kq (by rw [decide_eq_true (by assumption)]; rfl) hF hK
theorem ct_rc10 {fi : FI} {fr : FR} {ai : FI} {ar : FR} {N : Nat} {w lg : Nat → Nat} (cm : CM fr ar) (iv : Inv w) (i2 : Inv2 w) (hK : K fi ai w lg (w 0)) (h01 : w 0 < 1999) (g4 : cnt (goB w) (w 3) ≤ 4) (hwt : ∀ k, k < 1000 → w (106 + k) + 2 ≤ 100000) (x y z : Int32) : CP mX10_runClause 5 0 0 [.ref (rf 10 0), .int (nI 10), .int x, .int y, .int z] fi fr ai ar N (kQ (some (.int (bI (inR x 6 && decide (w (4 + x.toNatClampNeg) ≠ 1))))) fi fr ai ar N (fun fi ai => K fi ai (if inR x 6 && decide (w (4 + x.toNatClampNeg) ≠ 1) then upN w (4 + x.toNatClampNeg) 1 else w) (lg) (w 0))) := by
  have hF : FR1 fi ai fi ai := FR1_rf
  change EV mX10_runClause 5 0 0 0 [some (.ref (rf 10 0)), some (.int (nI 10)), some (.int x), some (.int y), some (.int z)] [] fi fr ai ar N (kQ (some (.int (bI (inR x 6 && decide (w (4 + x.toNatClampNeg) ≠ 1))))) fi fr ai ar N (fun fi ai => K fi ai (if inR x 6 && decide (w (4 + x.toNatClampNeg) ≠ 1) then upN w (4 + x.toNatClampNeg) 1 else w) (lg) (w 0)))
  refine e_iload_n dX10_runClause_0 rfl rfl ?_
  refine e_swc (tgt := 253) 10 dX10_runClause_1 (by decide) (by decide) rfl (by decide) (fun _ => ?_) (fun h => absurd (show (nI 10).toInt = 10 by decide) h)
  refine e_aload_n dX10_runClause_253 rfl rfl ?_
  refine e_getR dX10_runClause_254 fl_X10_18 rfl (cx_0 cm) ?_
  refine e_iload_n dX10_runClause_257 rfl rfl ?_
  refine kx_V1 (M' := mX9_bringUp) dX10_runClause_258 ml_X10_155 ok_X9_bringUp (by decide) rfl im_X9_bringUp se_X9_bringUp (ct_X9_bringUp cm iv hK _) (Nat.le_of_ble_eq_true rfl) (by decide) (Nat.le_of_ble_eq_true rfl) (fun fi ai hG hK => ?_)
  have hF := FR1_tr hF hG
  first | ((with_reducible refine mk_b ?_); refine e_ret (some _) rfl (r_bool dX10_runClause_261 rfl) ?_) | ((with_reducible refine mk_n1 ?_); refine e_ret (some _) rfl (r_b1 dX10_runClause_261 rfl) ?_) | ((with_reducible refine mk_n0 ?_); refine e_ret (some _) rfl (r_b0 dX10_runClause_261 rfl) ?_)
  exact kq rfl hF hK
theorem ct_rc11 {fi : FI} {fr : FR} {ai : FI} {ar : FR} {N : Nat} {w lg : Nat → Nat} (cm : CM fr ar) (iv : Inv w) (i2 : Inv2 w) (hK : K fi ai w lg (w 0)) (h01 : w 0 < 1999) (g4 : cnt (goB w) (w 3) ≤ 4) (hwt : ∀ k, k < 1000 → w (106 + k) + 2 ≤ 100000) (x y z : Int32) : CP mX10_runClause 5 0 0 [.ref (rf 10 0), .int (nI 11), .int x, .int y, .int z] fi fr ai ar N (kQ (some (.int (bI (decide ((if recB w x then nI (endS w x.toNatClampNeg) else -1) ≠ (-1 : Int32)))))) fi fr ai ar N (fun fi ai => K fi ai (if recB w x then endW w x.toNatClampNeg else w) (lg) (w 0))) := by
  have hF : FR1 fi ai fi ai := FR1_rf
  change EV mX10_runClause 5 0 0 0 [some (.ref (rf 10 0)), some (.int (nI 11)), some (.int x), some (.int y), some (.int z)] [] fi fr ai ar N (kQ (some (.int (bI (decide ((if recB w x then nI (endS w x.toNatClampNeg) else -1) ≠ (-1 : Int32)))))) fi fr ai ar N (fun fi ai => K fi ai (if recB w x then endW w x.toNatClampNeg else w) (lg) (w 0)))
  refine e_iload_n dX10_runClause_0 rfl rfl ?_
  refine e_swc (tgt := 262) 11 dX10_runClause_1 (by decide) (by decide) rfl (by decide) (fun _ => ?_) (fun h => absurd (show (nI 11).toInt = 11 by decide) h)
  refine e_aload_n dX10_runClause_262 rfl rfl ?_
  refine e_getR dX10_runClause_263 fl_X10_51 rfl (cx_4 cm) ?_
  refine e_iload_n dX10_runClause_266 rfl rfl ?_
  refine kx_V1 (M' := mX5_mend) dX10_runClause_267 ml_X10_158 ok_X5_mend (by decide) rfl im_X5_mend se_X5_mend (ct_X5_mend cm iv hK ‹_› _) (Nat.le_of_ble_eq_true rfl) (by decide) (Nat.le_of_ble_eq_true rfl) (fun fi ai hG hK => ?_)
  have hF := FR1_tr hF hG
  refine e_iconst (v := -1) dX10_runClause_270 rfl ?_
  first | ((with_reducible refine mk_mo ?_); refine p_icmp_eq (tgt := 278) dX10_runClause_271 (by decide) (fun h271 => ?_) (fun h271 => ?_)) | ((with_reducible refine mk_ms ?_); refine s_icmp_eq (tgt := 278) dX10_runClause_271 (by decide) (by omega) (fun h271 => ?_) (fun h271 => ?_)) | ((with_reducible refine mk_mn ?_); refine q_icmp_eq (tgt := 278) dX10_runClause_271 (by decide) (by omega) (fun h271 => ?_) (fun h271 => ?_)) | ((with_reducible refine mk_nn ?_); refine n_icmp_eq (tgt := 278) dX10_runClause_271 (by decide) (by omega) (by omega) (fun h271 => ?_) (fun h271 => ?_)) | refine e_icmp_eq (tgt := 278) dX10_runClause_271 (by decide) (fun h271 => ?_) (fun h271 => ?_)
  · try first | contradiction | omega
    all_goals
      refine e_iconst (v := nI 0) dX10_runClause_278 rfl ?_
      first | ((with_reducible refine mk_b ?_); refine e_ret (some _) rfl (r_bool dX10_runClause_279 rfl) ?_) | ((with_reducible refine mk_n1 ?_); refine e_ret (some _) rfl (r_b1 dX10_runClause_279 rfl) ?_) | ((with_reducible refine mk_n0 ?_); refine e_ret (some _) rfl (r_b0 dX10_runClause_279 rfl) ?_)
      first | exact kq (by rw [decide_eq_false (fun q => q (by assumption))]; rfl) hF hK | exact kq (by rw [decide_eq_true (by assumption)]; rfl) hF hK
  · try first | contradiction | omega
    all_goals
      refine e_iconst (v := nI 1) dX10_runClause_274 rfl ?_
      refine e_goto (tgt := 279) dX10_runClause_275 (by decide) ?_
      first | ((with_reducible refine mk_b ?_); refine e_ret (some _) rfl (r_bool dX10_runClause_279 rfl) ?_) | ((with_reducible refine mk_n1 ?_); refine e_ret (some _) rfl (r_b1 dX10_runClause_279 rfl) ?_) | ((with_reducible refine mk_n0 ?_); refine e_ret (some _) rfl (r_b0 dX10_runClause_279 rfl) ?_)
      first | exact kq (by rw [decide_eq_false (fun q => q (by assumption))]; rfl) hF hK | exact kq (by rw [decide_eq_true (by assumption)]; rfl) hF hK
theorem ct_rc12 {fi : FI} {fr : FR} {ai : FI} {ar : FR} {N : Nat} {w lg : Nat → Nat} (cm : CM fr ar) (iv : Inv w) (i2 : Inv2 w) (hK : K fi ai w lg (w 0)) (h01 : w 0 < 1999) (g4 : cnt (goB w) (w 3) ≤ 4) (hwt : ∀ k, k < 1000 → w (106 + k) + 2 ≤ 100000) (x y z : Int32) : CP mX10_runClause 5 0 0 [.ref (rf 10 0), .int (nI 12), .int x, .int y, .int z] fi fr ai ar N (kQ (some (.int (bI (givB w x)))) fi fr ai ar N (fun fi ai => K fi ai (if givB w x then endW w x.toNatClampNeg else w) (lg) (w 0))) := by
  have hF : FR1 fi ai fi ai := FR1_rf
  change EV mX10_runClause 5 0 0 0 [some (.ref (rf 10 0)), some (.int (nI 12)), some (.int x), some (.int y), some (.int z)] [] fi fr ai ar N (kQ (some (.int (bI (givB w x)))) fi fr ai ar N (fun fi ai => K fi ai (if givB w x then endW w x.toNatClampNeg else w) (lg) (w 0)))
  refine e_iload_n dX10_runClause_0 rfl rfl ?_
  refine e_swc (tgt := 280) 12 dX10_runClause_1 (by decide) (by decide) rfl (by decide) (fun _ => ?_) (fun h => absurd (show (nI 12).toInt = 12 by decide) h)
  refine e_aload_n dX10_runClause_280 rfl rfl ?_
  refine e_getR dX10_runClause_281 fl_X10_51 rfl (cx_4 cm) ?_
  refine e_iload_n dX10_runClause_284 rfl rfl ?_
  refine kx_V1 (M' := mX5_giveUp) dX10_runClause_285 ml_X10_161 ok_X5_giveUp (by decide) rfl im_X5_giveUp se_X5_giveUp (ct_X5_giveUp cm iv hK ‹_› _) (Nat.le_of_ble_eq_true rfl) (by decide) (Nat.le_of_ble_eq_true rfl) (fun fi ai hG hK => ?_)
  have hF := FR1_tr hF hG
  first | ((with_reducible refine mk_b ?_); refine e_ret (some _) rfl (r_bool dX10_runClause_288 rfl) ?_) | ((with_reducible refine mk_n1 ?_); refine e_ret (some _) rfl (r_b1 dX10_runClause_288 rfl) ?_) | ((with_reducible refine mk_n0 ?_); refine e_ret (some _) rfl (r_b0 dX10_runClause_288 rfl) ?_)
  exact kq rfl hF hK
theorem ct_rc13 {fi : FI} {fr : FR} {ai : FI} {ar : FR} {N : Nat} {w lg : Nat → Nat} (cm : CM fr ar) (iv : Inv w) (i2 : Inv2 w) (hK : K fi ai w lg (w 0)) (h01 : w 0 < 1999) (g4 : cnt (goB w) (w 3) ≤ 4) (hwt : ∀ k, k < 1000 → w (106 + k) + 2 ≤ 100000) (x y z : Int32) : CP mX10_runClause 5 0 0 [.ref (rf 10 0), .int (nI 13), .int x, .int y, .int z] fi fr ai ar N (kQ (some (.int (bI (true)))) fi fr ai ar N (fun fi ai => K fi ai (ageW w) (lg) (w 0))) := by
  have hF : FR1 fi ai fi ai := FR1_rf
  have hag : rs (fun k => ageW w (106 + k)) 0 1000 < 9223372036854775808 := by
    have := rs_le (f := fun k => ageW w (106 + k)) (a := 0) (B := 100000) 1000 (fun j hj => by have := hwt (0 + j) (by omega); show ageW w (106 + (0 + j)) ≤ 100000; unfold ageW agF; split <;> omega)
    omega
  change EV mX10_runClause 5 0 0 0 [some (.ref (rf 10 0)), some (.int (nI 13)), some (.int x), some (.int y), some (.int z)] [] fi fr ai ar N (kQ (some (.int (bI (true)))) fi fr ai ar N (fun fi ai => K fi ai (ageW w) (lg) (w 0)))
  refine e_iload_n dX10_runClause_0 rfl rfl ?_
  refine e_swc (tgt := 289) 13 dX10_runClause_1 (by decide) (by decide) rfl (by decide) (fun _ => ?_) (fun h => absurd (show (nI 13).toInt = 13 by decide) h)
  refine e_aload_n dX10_runClause_289 rfl rfl ?_
  refine e_getR dX10_runClause_290 fl_X10_18 rfl (cx_0 cm) ?_
  refine kx_V0 (M' := mX9_halveWeights) dX10_runClause_293 ml_X10_167 ok_X9_halveWeights (by decide) rfl im_X9_halveWeights se_X9_halveWeights (ct_X9_halveWeights cm iv hK) (Nat.le_of_ble_eq_true rfl) (by decide) (Nat.le_of_ble_eq_true rfl) (fun fi ai hG hK => ?_)
  have hF := FR1_tr hF hG
  refine e_lconst (v := lN 0) dX10_runClause_296 rfl ?_
  refine e_lcmp dX10_runClause_297 ?_
  first | ((with_reducible refine mk_ll ?_); refine m_if_lt (tgt := 305) dX10_runClause_298 (by decide) (by omega) (by omega) (fun h298 => ?_) (fun h298 => ?_)) | ((with_reducible refine mk_lc ?_); refine l_if_lt (tgt := 305) dX10_runClause_298 (by decide) (fun h298 => ?_) (fun h298 => ?_)) | ((with_reducible refine mk_n ?_); refine n_if_lt (tgt := 305) dX10_runClause_298 (by decide) (by omega) (fun h298 => ?_) (fun h298 => ?_)) | refine e_if_lt (tgt := 305) dX10_runClause_298 (by decide) (fun h298 => ?_) (fun h298 => ?_)
  · try first | contradiction | omega
    all_goals
      omega
  · try first | contradiction | omega
    all_goals
      refine e_iconst (v := nI 1) dX10_runClause_301 rfl ?_
      refine e_goto (tgt := 306) dX10_runClause_302 (by decide) ?_
      first | ((with_reducible refine mk_b ?_); refine e_ret (some _) rfl (r_bool dX10_runClause_306 rfl) ?_) | ((with_reducible refine mk_n1 ?_); refine e_ret (some _) rfl (r_b1 dX10_runClause_306 rfl) ?_) | ((with_reducible refine mk_n0 ?_); refine e_ret (some _) rfl (r_b0 dX10_runClause_306 rfl) ?_)
      exact kq rfl hF hK
theorem ct_rc14 {fi : FI} {fr : FR} {ai : FI} {ar : FR} {N : Nat} {w lg : Nat → Nat} (cm : CM fr ar) (iv : Inv w) (i2 : Inv2 w) (hK : K fi ai w lg (w 0)) (h01 : w 0 < 1999) (g4 : cnt (goB w) (w 3) ≤ 4) (hwt : ∀ k, k < 1000 → w (106 + k) + 2 ≤ 100000) (x y z : Int32) : CP mX10_runClause 5 0 0 [.ref (rf 10 0), .int (nI 14), .int x, .int y, .int z] fi fr ai ar N (kQ (some (.int (bI (decide (1 ≤ x.toInt ∧ x.toInt ≤ 16))))) fi fr ai ar N (fun fi ai => K fi ai (if decide (1 ≤ x.toInt ∧ x.toInt ≤ 16) then upN w 2 x.toNatClampNeg else w) (lg) (w 0))) := by
  have hF : FR1 fi ai fi ai := FR1_rf
  change EV mX10_runClause 5 0 0 0 [some (.ref (rf 10 0)), some (.int (nI 14)), some (.int x), some (.int y), some (.int z)] [] fi fr ai ar N (kQ (some (.int (bI (decide (1 ≤ x.toInt ∧ x.toInt ≤ 16))))) fi fr ai ar N (fun fi ai => K fi ai (if decide (1 ≤ x.toInt ∧ x.toInt ≤ 16) then upN w 2 x.toNatClampNeg else w) (lg) (w 0)))
  refine e_iload_n dX10_runClause_0 rfl rfl ?_
  refine e_swc (tgt := 307) 14 dX10_runClause_1 (by decide) (by decide) rfl (by decide) (fun _ => ?_) (fun h => absurd (show (nI 14).toInt = 14 by decide) h)
  refine e_aload_n dX10_runClause_307 rfl rfl ?_
  refine e_getR dX10_runClause_308 fl_X10_18 rfl (cx_0 cm) ?_
  refine e_iload_n dX10_runClause_311 rfl rfl ?_
  refine kx_V1 (M' := mX9_tellChunk) dX10_runClause_312 ml_X10_171 ok_X9_tellChunk (by decide) rfl im_X9_tellChunk se_X9_tellChunk (ct_X9_tellChunk cm iv hK _) (Nat.le_of_ble_eq_true rfl) (by decide) (Nat.le_of_ble_eq_true rfl) (fun fi ai hG hK => ?_)
  have hF := FR1_tr hF hG
  first | ((with_reducible refine mk_b ?_); refine e_ret (some _) rfl (r_bool dX10_runClause_315 rfl) ?_) | ((with_reducible refine mk_n1 ?_); refine e_ret (some _) rfl (r_b1 dX10_runClause_315 rfl) ?_) | ((with_reducible refine mk_n0 ?_); refine e_ret (some _) rfl (r_b0 dX10_runClause_315 rfl) ?_)
  exact kq rfl hF hK
