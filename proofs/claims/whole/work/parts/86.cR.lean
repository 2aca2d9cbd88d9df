def wI (j : Nat) : Nat → Nat := fun q => if q < 2 ∨ q = 74 ∨ (4 ≤ q ∧ q < 4 + j) then 1 else if q = 2 then 4 else 0
theorem wI_s (j : Nat) : upN (wI j) (4 + j) 1 = wI (j + 1) := by
  funext q
  unfold upN wI
  by_cases h : q = 4 + j
  · rw [if_pos h, if_pos (by omega)]
  · rw [if_neg h]
    by_cases h2 : q < 2 ∨ q = 74 ∨ (4 ≤ q ∧ q < 4 + j)
    · rw [if_pos h2, if_pos (by omega)]
    · rw [if_neg h2, if_neg (c := q < 2 ∨ q = 74 ∨ (4 ≤ q ∧ q < 4 + (j + 1))) (by omega)]
theorem wI_0 : upN (upN (upN (upN (fun _ => 0) 0 1) 1 1) 2 4) 74 1 = wI 0 := by
  funext q
  unfold upN wI
  by_cases h : q = 74
  · rw [if_pos h, if_pos (by omega)]
  · rw [if_neg h]
    by_cases h2 : q = 2
    · rw [if_pos h2, if_neg (by omega), if_pos h2]
    · rw [if_neg h2]
      by_cases h3 : q = 1
      · rw [if_pos h3, if_pos (by omega)]
      · rw [if_neg h3]
        by_cases h4 : q = 0
        · rw [if_pos h4, if_pos (by omega)]
        · rw [if_neg h4, if_neg (by omega), if_neg h2]
def mQ0 (fi : FI) (fr : FR) (ai : FI) (ar : FR) : EQ := fun r fi' fr' ai' ar' N' => r = none ∧ N' = 89 ∧ SM fr' ∧ (∀ f r, r ≠ rf 11 80 → fr' f r = fr f r) ∧ ai' = mW ai w00 ∧ ar' = ar ∧ fi' = up2 (up2 fi (32 * 11 + 13) (rf 11 80) (-1)) (32 * 11 + 14) (rf 11 80) (-1)
theorem ct_X11_init {fi : FI} {fr : FR} {ai : FI} {ar : FR} : CP mX11_init 1 8 101699 [.ref (rf 11 80)] fi fr ai ar 81 (mQ0 fi fr ai ar) := by
  change EV mX11_init 1 8 101699 0 [some (.ref (rf 11 80)), none] [] fi fr ai ar 81 (mQ0 fi fr ai ar)
  refine e_zr (fun zn => ?_)
  have k85 : ∀ fr9, SM fr9 → (∀ f r, r ≠ rf 11 80 → fr9 f r = fr f r) → EV mX11_init 1 0 0 85 [some (.ref (rf 11 80)), none] [] (up2 (up2 fi (32 * 11 + 13) (rf 11 80) (-1)) (32 * 11 + 14) (rf 11 80) (-1)) fr9 (mW ai (fun _ => 0)) ar 89 (mQ0 fi fr ai ar) := by
    intro fr9 hS hF
    have key := ev_up (P := fun j => EV mX11_init 1 0 0 116 [some (.ref (rf 11 80)), some (.int (nI j))] [] (up2 (up2 fi (32 * 11 + 13) (rf 11 80) (-1)) (32 * 11 + 14) (rf 11 80) (-1)) fr9 (mW ai (wI j)) ar 89 (mQ0 fi fr ai ar)) 6 (fun j hj ih => by
      refine e_iload_n dX11_init_116 rfl rfl ?_
      refine e_bipush (v := nI 6) dX11_init_117 rfl ?_
      first | ((with_reducible refine mk_nn ?_); refine n_icmp_ge (tgt := 137) dX11_init_119 (by decide) (by omega) (by omega) (fun h119 => ?_) (fun h119 => ?_)) | refine e_icmp_ge (tgt := 137) dX11_init_119 (by decide) (fun h119 => ?_) (fun h119 => ?_)
      · try first | contradiction | omega
        all_goals
          omega
      · try first | contradiction | omega
        all_goals
          refine e_aload_n dX11_init_122 rfl rfl ?_
          refine e_getR dX11_init_123 fl_X11_7 rfl hS.1 ?_
          refine e_iconst (v := nI 4) dX11_init_126 rfl ?_
          refine e_iload_n dX11_init_127 rfl rfl ?_
          first | ((with_reducible refine mk_nn ?_); refine n_iadd dX11_init_128 ?_) | refine e_iadd dX11_init_128 ?_
          refine e_iconst (v := nI 1) dX11_init_129 rfl ?_
          first | ((with_reducible refine mk_stw ?_); refine e_stw dX11_init_130 (by omega) ?_) | refine e_iast _ dX11_init_130 ⟨by decide, by decide⟩ rfl rfl (by simp only [lenK]; omega) ?_
          first | refine n_inc dX11_init_131 rfl (Nat.le_of_ble_eq_true rfl) rfl ?_ | refine e_iinc dX11_init_131 rfl rfl (Nat.le_of_ble_eq_true rfl) rfl ?_
          refine e_goto (tgt := 116) dX11_init_134 (by decide) ?_
          rw [wI_s]; exact ih
      ) (by
      refine e_iload_n dX11_init_116 rfl rfl ?_
      refine e_bipush (v := nI 6) dX11_init_117 rfl ?_
      first | ((with_reducible refine mk_nn ?_); refine n_icmp_ge (tgt := 137) dX11_init_119 (by decide) (by omega) (by omega) (fun h119 => ?_) (fun h119 => ?_)) | refine e_icmp_ge (tgt := 137) dX11_init_119 (by decide) (fun h119 => ?_) (fun h119 => ?_)
      · try first | contradiction | omega
        all_goals
          refine e_ret none rfl (r_void dX11_init_137 rfl) ?_
          exact ⟨rfl, rfl, hS, hF, rfl, rfl, rfl⟩
      · try first | contradiction | omega
        all_goals
          omega
      )
    refine e_aload_n dX11_init_85 rfl rfl ?_
    refine e_getR dX11_init_86 fl_X11_7 rfl hS.1 ?_
    refine e_iconst (v := nI 0) dX11_init_89 rfl ?_
    refine e_iconst (v := nI 1) dX11_init_90 rfl ?_
    first | ((with_reducible refine mk_stw ?_); refine e_stw dX11_init_91 (by omega) ?_) | refine e_iast _ dX11_init_91 ⟨by decide, by decide⟩ rfl rfl (by simp only [lenK]; omega) ?_
    refine e_aload_n dX11_init_92 rfl rfl ?_
    refine e_getR dX11_init_93 fl_X11_7 rfl hS.1 ?_
    refine e_iconst (v := nI 1) dX11_init_96 rfl ?_
    refine e_iconst (v := nI 1) dX11_init_97 rfl ?_
    first | ((with_reducible refine mk_stw ?_); refine e_stw dX11_init_98 (by omega) ?_) | refine e_iast _ dX11_init_98 ⟨by decide, by decide⟩ rfl rfl (by simp only [lenK]; omega) ?_
    refine e_aload_n dX11_init_99 rfl rfl ?_
    refine e_getR dX11_init_100 fl_X11_7 rfl hS.1 ?_
    refine e_iconst (v := nI 2) dX11_init_103 rfl ?_
    refine e_iconst (v := nI 4) dX11_init_104 rfl ?_
    first | ((with_reducible refine mk_stw ?_); refine e_stw dX11_init_105 (by omega) ?_) | refine e_iast _ dX11_init_105 ⟨by decide, by decide⟩ rfl rfl (by simp only [lenK]; omega) ?_
    refine e_aload_n dX11_init_106 rfl rfl ?_
    refine e_getR dX11_init_107 fl_X11_7 rfl hS.1 ?_
    refine e_bipush (v := nI 74) dX11_init_110 rfl ?_
    refine e_iconst (v := nI 1) dX11_init_112 rfl ?_
    first | ((with_reducible refine mk_stw ?_); refine e_stw dX11_init_113 (by omega) ?_) | refine e_iast _ dX11_init_113 ⟨by decide, by decide⟩ rfl rfl (by simp only [lenK]; omega) ?_
    refine e_iconst (v := nI 0) dX11_init_114 rfl ?_
    refine e_istore_n dX11_init_115 rfl (Nat.le_of_ble_eq_true rfl) rfl ?_
    rw [wI_0]; exact key 0 (by omega)
  have e0 : mW ai (fun _ => 0) = ai := by
    funext a i
    unfold mW
    by_cases h : a = rf 32 81
    · rw [if_pos h, h]
      exact ((zn _ (by decide)).2 i).1.symm
    · rw [if_neg h]
  rw [e0] at k85
  refine e_aload_n dX11_init_0 rfl rfl ?_
  refine e_objInit dX11_init_1 ml_X11_1 im_O cd_O (by decide) (Nat.le_of_ble_eq_true rfl) ?_
  refine e_aload_n dX11_init_4 rfl rfl ?_
  refine e_sipush (v := nI 8597) dX11_init_5 rfl ?_
  refine e_newa 32 (at_ := .int) dX11_init_8 ⟨by decide, by decide⟩ rfl ⟨rfl, rfl, by decide, Nat.le_of_ble_eq_true rfl⟩ ac_int rfl (k2 := 7) (z2 := 93102) ⟨by omega, by (show 8597 + _ ≤ _; omega)⟩ ?_
  refine e_putRF dX11_init_10 fl_X11_7 rfl rfl rfl rfl ?_
  refine e_aload_n dX11_init_13 rfl rfl ?_
  refine e_sipush (v := nI 8597) dX11_init_14 rfl ?_
  refine e_newa 32 (at_ := .int) dX11_init_17 ⟨by decide, by decide⟩ rfl ⟨rfl, rfl, by decide, Nat.le_of_ble_eq_true rfl⟩ ac_int rfl (k2 := 6) (z2 := 84505) ⟨by omega, by (show 8597 + _ ≤ _; omega)⟩ ?_
  refine e_putRF dX11_init_19 fl_X11_13 rfl rfl rfl rfl ?_
  refine e_aload_n dX11_init_22 rfl rfl ?_
  refine e_sipush (v := nI 8597) dX11_init_23 rfl ?_
  refine e_newa 32 (at_ := .int) dX11_init_26 ⟨by decide, by decide⟩ rfl ⟨rfl, rfl, by decide, Nat.le_of_ble_eq_true rfl⟩ ac_int rfl (k2 := 5) (z2 := 75908) ⟨by omega, by (show 8597 + _ ≤ _; omega)⟩ ?_
  refine e_putRF dX11_init_28 fl_X11_16 rfl rfl rfl rfl ?_
  refine e_aload_n dX11_init_31 rfl rfl ?_
  refine e_ldc dX11_init_32 co_X11_19 ?_
  refine e_newa 33 (at_ := .int) dX11_init_34 ⟨by decide, by decide⟩ rfl ⟨rfl, rfl, by decide, Nat.le_of_ble_eq_true rfl⟩ ac_int rfl (k2 := 4) (z2 := 24560) ⟨by omega, by (show 51348 + _ ≤ _; omega)⟩ ?_
  refine e_putRF dX11_init_36 fl_X11_20 rfl rfl rfl rfl ?_
  refine e_aload_n dX11_init_39 rfl rfl ?_
  refine e_sipush (v := nI 12000) dX11_init_40 rfl ?_
  refine e_newa 34 (at_ := .int) dX11_init_43 ⟨by decide, by decide⟩ rfl ⟨rfl, rfl, by decide, Nat.le_of_ble_eq_true rfl⟩ ac_int rfl (k2 := 3) (z2 := 12560) ⟨by omega, by (show 12000 + _ ≤ _; omega)⟩ ?_
  refine e_putRF dX11_init_45 fl_X11_23 rfl rfl rfl rfl ?_
  refine e_aload_n dX11_init_48 rfl rfl ?_
  refine e_sipush (v := nI 12000) dX11_init_49 rfl ?_
  refine e_newa 34 (at_ := .int) dX11_init_52 ⟨by decide, by decide⟩ rfl ⟨rfl, rfl, by decide, Nat.le_of_ble_eq_true rfl⟩ ac_int rfl (k2 := 2) (z2 := 560) ⟨by omega, by (show 12000 + _ ≤ _; omega)⟩ ?_
  refine e_putRF dX11_init_54 fl_X11_26 rfl rfl rfl rfl ?_
  refine e_aload_n dX11_init_57 rfl rfl ?_
  refine e_sipush (v := nI 400) dX11_init_58 rfl ?_
  refine e_newa 35 (at_ := .byte) dX11_init_61 ⟨by decide, by decide⟩ rfl ⟨rfl, rfl, by decide, Nat.le_of_ble_eq_true rfl⟩ ac_byte rfl (k2 := 1) (z2 := 160) ⟨by omega, by (show 400 + _ ≤ _; omega)⟩ ?_
  refine e_putRF dX11_init_63 fl_X11_29 rfl rfl rfl rfl ?_
  refine e_aload_n dX11_init_66 rfl rfl ?_
  refine e_iconst (v := -1) dX11_init_67 rfl ?_
  refine e_putI dX11_init_68 fl_X11_33 rfl rfl rfl rfl ?_
  refine e_aload_n dX11_init_71 rfl rfl ?_
  refine e_iconst (v := -1) dX11_init_72 rfl ?_
  refine e_putI dX11_init_73 fl_X11_37 rfl rfl rfl rfl ?_
  refine e_aload_n dX11_init_76 rfl rfl ?_
  refine e_sipush (v := nI 160) dX11_init_77 rfl ?_
  refine e_newa 36 (at_ := .int) dX11_init_80 ⟨by decide, by decide⟩ rfl ⟨rfl, rfl, by decide, Nat.le_of_ble_eq_true rfl⟩ ac_int rfl (k2 := 0) (z2 := 0) ⟨by omega, by (show 160 + _ ≤ _; omega)⟩ ?_
  refine e_putRF dX11_init_82 fl_X11_40 rfl rfl rfl rfl ?_
  refine k85 _ ⟨rfl, rfl, rfl, rfl, rfl, rfl, rfl, rfl⟩ (fun f r h => ?_)
  repeat rw [up2_n _ _ (fun e => h e.2)]
