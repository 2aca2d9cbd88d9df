theorem k_nt {fi ai : FI} {w lg : Nat → Nat} {E : Nat} (bd : Bd w) (h : K fi ai w lg E) {m k : Nat} (hm : m < w 3) (ht : w (7694 + 72 * m + 6) < 60) : K (up2 fi (32 * 4 + 1) (rf 4 (34 + 2 * m)) (nI (w (7694 + 72 * m + 6) + 1))) (up2 ai (rf 17 (34 + 2 * m + 1)) (w (7694 + 72 * m + 6)) (nI k)) (wrT w k m) lg E := by
  have h3 := bd.2.1
  refine K_kw h (KW_mv bd.1 bd.2.1 bd.2.2.1 bd.2.2.2 (m := m) hm (fun q hq => by unfold wrT; rw [upN_n (by omega), upN_n (by omega)]) (fun g r hr => up2_n _ _ (fun e => hr e.2)) (fun a ha => up2_o _ _ ha) ⟨fun g a b => ?_, fun i hi => ?_⟩ h.1) (fun a x y => up2_o _ _ (fun e => by rw [e, rf_div (by decide)] at x; omega)) (fun q hq => by unfold wrT; rw [upN_n (by omega), upN_n (by omega)])
  · show up2 fi _ _ _ _ _ = nI (wrT w k m (7694 + 72 * m + fD g))
    by_cases e : g = 1
    · subst e; exact (up2_s _ _ _ _).trans (by unfold wrT; rw [show fD 1 = 6 from rfl, upN_s])
    · have hg : ∀ g, g < 13 → 1 ≤ g → g ≠ 1 → fD g ≠ 6 := by decide
      have := hg g (by omega) a e
      have := fD_lt g
      unfold wrT
      rw [up2_n _ _ (fun q => e (by omega)), upN_n (by omega), upN_n (by omega)]
      exact (h.1.2.2.2.2.1 m hm).1 g a b
  · have e6 : mrow (wrT w k m) m 6 = w (7694 + 72 * m + 6) + 1 := by show wrT w k m (7694 + 72 * m + 6) = _; unfold wrT; rw [upN_s]
    rw [e6] at hi
    show up2 ai _ _ _ _ i = nI (wrT w k m (7694 + 72 * m + (12 + i)))
    unfold wrT
    rw [upN_n (by omega)]
    by_cases e : i = w (7694 + 72 * m + 6)
    · rw [← Nat.add_assoc, e, upN_s]; exact up2_s _ _ _ _
    · rw [upN_n (by omega), up2_n _ _ (fun q => e q.2)]
      exact (h.1.2.2.2.2.1 m hm).2 i (by show i < w (7694 + 72 * m + 6); omega)
theorem k_dt {fi ai : FI} {w lg : Nat → Nat} {E : Nat} (bd : Bd w) (h : K fi ai w lg E) {m n : Nat} (hm : m < w 3) (hn : n ≤ w (7694 + 72 * m + 6)) : K (up2 fi (32 * 4 + 1) (rf 4 (34 + 2 * m)) (nI (w (7694 + 72 * m + 6) - n))) (cp2 ai (rf 17 (34 + 2 * m + 1)) (rf 17 (34 + 2 * m + 1)) n 0 (w (7694 + 72 * m + 6) - n)) (upN (tsF w m n (w (7694 + 72 * m + 6) - n)) (7694 + 72 * m + 6) (w (7694 + 72 * m + 6) - n)) lg E := by
  have h3 := bd.2.1
  have h60 := bd.2.2.2 m hm
  refine K_kw h (KW_mv bd.1 bd.2.1 bd.2.2.1 bd.2.2.2 (m := m) hm (fun q hq => by rw [upN_n (by omega), tsF_fr (by omega)]) (fun g r hr => up2_n _ _ (fun e => hr e.2)) (fun a ha => cp_o ha) ⟨fun g a b => ?_, fun i hi => ?_⟩ h.1) (fun a x y => cp_o (fun e => by rw [e, rf_div (by decide)] at x; omega)) (fun q hq => by rw [upN_n (by omega), tsF_fr (by omega)])
  · show up2 fi _ _ _ _ _ = nI (upN _ _ _ (7694 + 72 * m + fD g))
    by_cases e : g = 1
    · subst e; exact (up2_s _ _ _ _).trans (by rw [show fD 1 = 6 from rfl, upN_s])
    · have hg : ∀ g, g < 13 → 1 ≤ g → g ≠ 1 → fD g ≠ 6 := by decide
      have := hg g (by omega) a e
      have := fD_lt g
      rw [up2_n _ _ (fun q => e (by omega)), upN_n (by omega), tsF_fr (by omega)]
      exact (h.1.2.2.2.2.1 m hm).1 g a b
  · have e6 : mrow (upN (tsF w m n (w (7694 + 72 * m + 6) - n)) (7694 + 72 * m + 6) (w (7694 + 72 * m + 6) - n)) m 6 = w (7694 + 72 * m + 6) - n := upN_s _ _ _
    rw [e6] at hi
    show cp2 ai _ _ _ _ _ _ i = nI (upN _ _ _ (7694 + 72 * m + (12 + i)))
    rw [upN_n (by omega), cp_in ⟨by omega, by omega⟩]
    have g := (h.1.2.2.2.2.1 m hm).2 (n + (i - 0)) (by show n + (i - 0) < w (7694 + 72 * m + 6); omega)
    rw [g]
    show nI (w (7694 + 72 * m + (12 + (n + (i - 0))))) = _
    unfold tsF
    rw [if_pos (by omega)]
    congr 2
    omega
def noW (w : Nat → Nat) (m k : Nat) : Nat → Nat := if (w (7694 + 72 * m + 0) = 1 ∨ w (7694 + 72 * m + 0) = 2) ∧ w (7694 + 72 * m + 6) < 60 ∧ inT w m k = false then wrT w k m else w
theorem ct_X4_noteWrite {fi : FI} {fr : FR} {ai : FI} {ar : FR} {N : Nat} {w lg : Nat → Nat} {E : Nat} (cm : CM fr ar) (iv : Inv w) (hK : K fi ai w lg E) {m k : Nat} (hm : m < w 3) (hk : k < 1000) : CP mX4_noteWrite 1 0 0 [.ref (rf 4 (34 + 2 * m)), .int (nI k)] fi fr ai ar N (kQ (none) fi fr ai ar N (fun fi ai => K fi ai (noW w m k) lg E)) := by
  have h1 := iv_n iv
  have h3 := iv_mm iv
  have bd := Bd_iv iv
  have hF : FR1 fi ai fi ai := FR1_rf
  have hq := iv_mv iv hm
  change EV mX4_noteWrite 1 0 0 0 [some (.ref (rf 4 (34 + 2 * m))), some (.int (nI k))] [] fi fr ai ar N (kQ (none) fi fr ai ar N (fun fi ai => K fi ai (noW w m k) lg E))
  by_cases hc : (w (7694 + 72 * m + 0) = 1 ∨ w (7694 + 72 * m + 0) = 2) ∧ w (7694 + 72 * m + 6) < 60 ∧ inT w m k = false
  · have e : noW w m k = wrT w k m := if_pos hc
    rw [e]
    refine e_aload_n dX4_noteWrite_0 rfl rfl ?_
    refine x_V0 (M' := mX4_takesTrail) dX4_noteWrite_1 ml_X4_53 ok_X4_takesTrail (by decide) rfl im_X4_takesTrail se_X4_takesTrail (ct_X4_takesTrail cm iv hK (by omega)) (Nat.le_of_ble_eq_true rfl) (by decide) (Nat.le_of_ble_eq_true rfl) ?_
    first | ((with_reducible refine mk_b ?_); refine b_if_eq (tgt := 44) dX4_noteWrite_4 (by decide) (fun h4 => ?_) (fun h4 => ?_)) | ((with_reducible refine mk_ll ?_); refine m_if_eq (tgt := 44) dX4_noteWrite_4 (by decide) (by omega) (by omega) (fun h4 => ?_) (fun h4 => ?_)) | ((with_reducible refine mk_lc ?_); refine l_if_eq (tgt := 44) dX4_noteWrite_4 (by decide) (fun h4 => ?_) (fun h4 => ?_)) | ((with_reducible refine mk_n ?_); refine n_if_eq (tgt := 44) dX4_noteWrite_4 (by decide) (by omega) (fun h4 => ?_) (fun h4 => ?_)) | refine e_if_eq (tgt := 44) dX4_noteWrite_4 (by decide) (fun h4 => ?_) (fun h4 => ?_)
    · try first | contradiction | omega | (simp only [decide_eq_true_eq, decide_eq_false_iff_not] at h4; omega)
      all_goals
        refine e_ret none rfl (r_void dX4_noteWrite_44 rfl) ?_
        first | (exact kq rfl (FR1_a (FR1_f FR1_rf (by decide) (by omega)) (by decide) (by omega)) (k_nt bd hK hm (by omega))) | (exfalso; simp_all; done) | (exfalso; simp_all; omega)
    · try first | contradiction | omega | (simp only [decide_eq_true_eq, decide_eq_false_iff_not] at h4; omega)
      all_goals
        refine e_aload_n dX4_noteWrite_7 rfl rfl ?_
        refine e_getE dX4_noteWrite_8 fl_X4_34 rfl (k_m1 hK (by first | omega | (simp (disch := omega) only [upN_n, upN_s]; omega))) ?_
        refine e_bipush (v := nI 60) dX4_noteWrite_11 rfl ?_
        first | ((with_reducible refine mk_nn ?_); refine n_icmp_ge (tgt := 44) dX4_noteWrite_13 (by decide) (by omega) (by omega) (fun h13 => ?_) (fun h13 => ?_)) | refine e_icmp_ge (tgt := 44) dX4_noteWrite_13 (by decide) (fun h13 => ?_) (fun h13 => ?_)
        · try first | contradiction | omega
          all_goals
            refine e_ret none rfl (r_void dX4_noteWrite_44 rfl) ?_
            first | (exact kq rfl (FR1_a (FR1_f FR1_rf (by decide) (by omega)) (by decide) (by omega)) (k_nt bd hK hm (by omega))) | (exfalso; simp_all; done) | (exfalso; simp_all; omega)
        · try first | contradiction | omega
          all_goals
            refine e_aload_n dX4_noteWrite_16 rfl rfl ?_
            refine e_iload_n dX4_noteWrite_17 rfl rfl ?_
            refine x_V1 (M' := mX4_hasInTrail) dX4_noteWrite_18 ml_X4_57 ok_X4_hasInTrail (by decide) rfl im_X4_hasInTrail se_X4_hasInTrail (ct_X4_hasInTrail cm iv hK (by omega) (by omega)) (Nat.le_of_ble_eq_true rfl) (by decide) (Nat.le_of_ble_eq_true rfl) ?_
            first | ((with_reducible refine mk_b ?_); refine b_if_ne (tgt := 44) dX4_noteWrite_21 (by decide) (fun h21 => ?_) (fun h21 => ?_)) | ((with_reducible refine mk_ll ?_); refine m_if_ne (tgt := 44) dX4_noteWrite_21 (by decide) (by omega) (by omega) (fun h21 => ?_) (fun h21 => ?_)) | ((with_reducible refine mk_lc ?_); refine l_if_ne (tgt := 44) dX4_noteWrite_21 (by decide) (fun h21 => ?_) (fun h21 => ?_)) | ((with_reducible refine mk_n ?_); refine n_if_ne (tgt := 44) dX4_noteWrite_21 (by decide) (by omega) (fun h21 => ?_) (fun h21 => ?_)) | refine e_if_ne (tgt := 44) dX4_noteWrite_21 (by decide) (fun h21 => ?_) (fun h21 => ?_)
            · try first | contradiction | omega | (simp only [decide_eq_true_eq, decide_eq_false_iff_not] at h21; omega)
              all_goals
                refine e_ret none rfl (r_void dX4_noteWrite_44 rfl) ?_
                first | (exact kq rfl (FR1_a (FR1_f FR1_rf (by decide) (by omega)) (by decide) (by omega)) (k_nt bd hK hm (by omega))) | (exfalso; simp_all; done) | (exfalso; simp_all; omega)
            · try first | contradiction | omega | (simp only [decide_eq_true_eq, decide_eq_false_iff_not] at h21; omega)
              all_goals
                refine e_aload_n dX4_noteWrite_24 rfl rfl ?_
                refine e_getR dX4_noteWrite_25 fl_X4_9 rfl (cm_tra cm (by omega)) ?_
                refine e_aload_n dX4_noteWrite_28 rfl rfl ?_
                refine e_getE dX4_noteWrite_29 fl_X4_34 rfl (k_m1 hK (by first | omega | (simp (disch := omega) only [upN_n, upN_s]; omega))) ?_
                refine e_iload_n dX4_noteWrite_32 rfl rfl ?_
                refine e_iast _ dX4_noteWrite_33 ⟨by decide, by decide⟩ rfl rfl (by simp only [lenK]; omega) ?_
                refine e_aload_n dX4_noteWrite_34 rfl rfl ?_
                refine e_dup dX4_noteWrite_35 rfl ?_
                refine e_getE dX4_noteWrite_36 fl_X4_34 rfl (k_m1 hK (by first | omega | (simp (disch := omega) only [upN_n, upN_s]; omega))) ?_
                refine e_iconst (v := nI 1) dX4_noteWrite_39 rfl ?_
                first | ((with_reducible refine mk_nn ?_); refine n_iadd dX4_noteWrite_40 ?_) | refine e_iadd dX4_noteWrite_40 ?_
                refine e_putI dX4_noteWrite_41 fl_X4_34 rfl rfl rfl rfl ?_
                refine e_ret none rfl (r_void dX4_noteWrite_44 rfl) ?_
                first | (exact kq rfl (FR1_a (FR1_f FR1_rf (by decide) (by omega)) (by decide) (by omega)) (k_nt bd hK hm (by omega))) | (exfalso; simp_all; done) | (exfalso; simp_all; omega)
  · have e : noW w m k = w := if_neg hc
    rw [e]
    refine e_aload_n dX4_noteWrite_0 rfl rfl ?_
    refine x_V0 (M' := mX4_takesTrail) dX4_noteWrite_1 ml_X4_53 ok_X4_takesTrail (by decide) rfl im_X4_takesTrail se_X4_takesTrail (ct_X4_takesTrail cm iv hK (by omega)) (Nat.le_of_ble_eq_true rfl) (by decide) (Nat.le_of_ble_eq_true rfl) ?_
    first | ((with_reducible refine mk_b ?_); refine b_if_eq (tgt := 44) dX4_noteWrite_4 (by decide) (fun h4 => ?_) (fun h4 => ?_)) | ((with_reducible refine mk_ll ?_); refine m_if_eq (tgt := 44) dX4_noteWrite_4 (by decide) (by omega) (by omega) (fun h4 => ?_) (fun h4 => ?_)) | ((with_reducible refine mk_lc ?_); refine l_if_eq (tgt := 44) dX4_noteWrite_4 (by decide) (fun h4 => ?_) (fun h4 => ?_)) | ((with_reducible refine mk_n ?_); refine n_if_eq (tgt := 44) dX4_noteWrite_4 (by decide) (by omega) (fun h4 => ?_) (fun h4 => ?_)) | refine e_if_eq (tgt := 44) dX4_noteWrite_4 (by decide) (fun h4 => ?_) (fun h4 => ?_)
    · try first | contradiction | omega | (simp only [decide_eq_true_eq, decide_eq_false_iff_not] at h4; omega)
      all_goals
        refine e_ret none rfl (r_void dX4_noteWrite_44 rfl) ?_
        exact kq rfl hF hK
    · try first | contradiction | omega | (simp only [decide_eq_true_eq, decide_eq_false_iff_not] at h4; omega)
      all_goals
        refine e_aload_n dX4_noteWrite_7 rfl rfl ?_
        refine e_getE dX4_noteWrite_8 fl_X4_34 rfl (k_m1 hK (by first | omega | (simp (disch := omega) only [upN_n, upN_s]; omega))) ?_
        refine e_bipush (v := nI 60) dX4_noteWrite_11 rfl ?_
        first | ((with_reducible refine mk_nn ?_); refine n_icmp_ge (tgt := 44) dX4_noteWrite_13 (by decide) (by omega) (by omega) (fun h13 => ?_) (fun h13 => ?_)) | refine e_icmp_ge (tgt := 44) dX4_noteWrite_13 (by decide) (fun h13 => ?_) (fun h13 => ?_)
        · try first | contradiction | omega
          all_goals
            refine e_ret none rfl (r_void dX4_noteWrite_44 rfl) ?_
            exact kq rfl hF hK
        · try first | contradiction | omega
          all_goals
            refine e_aload_n dX4_noteWrite_16 rfl rfl ?_
            refine e_iload_n dX4_noteWrite_17 rfl rfl ?_
            refine x_V1 (M' := mX4_hasInTrail) dX4_noteWrite_18 ml_X4_57 ok_X4_hasInTrail (by decide) rfl im_X4_hasInTrail se_X4_hasInTrail (ct_X4_hasInTrail cm iv hK (by omega) (by omega)) (Nat.le_of_ble_eq_true rfl) (by decide) (Nat.le_of_ble_eq_true rfl) ?_
            first | ((with_reducible refine mk_b ?_); refine b_if_ne (tgt := 44) dX4_noteWrite_21 (by decide) (fun h21 => ?_) (fun h21 => ?_)) | ((with_reducible refine mk_ll ?_); refine m_if_ne (tgt := 44) dX4_noteWrite_21 (by decide) (by omega) (by omega) (fun h21 => ?_) (fun h21 => ?_)) | ((with_reducible refine mk_lc ?_); refine l_if_ne (tgt := 44) dX4_noteWrite_21 (by decide) (fun h21 => ?_) (fun h21 => ?_)) | ((with_reducible refine mk_n ?_); refine n_if_ne (tgt := 44) dX4_noteWrite_21 (by decide) (by omega) (fun h21 => ?_) (fun h21 => ?_)) | refine e_if_ne (tgt := 44) dX4_noteWrite_21 (by decide) (fun h21 => ?_) (fun h21 => ?_)
            · try first | contradiction | omega | (simp only [decide_eq_true_eq, decide_eq_false_iff_not] at h21; omega)
              all_goals
                refine e_ret none rfl (r_void dX4_noteWrite_44 rfl) ?_
                exact kq rfl hF hK
            · try first | contradiction | omega | (simp only [decide_eq_true_eq, decide_eq_false_iff_not] at h21; omega)
              all_goals
                exfalso; apply hc; refine ⟨?_, by omega, by assumption⟩; simp_all
theorem ct_X4_dropFromTrail {fi : FI} {fr : FR} {ai : FI} {ar : FR} {N : Nat} {w lg : Nat → Nat} {E : Nat} (cm : CM fr ar) (bd : Bd w) (hK : K fi ai w lg E) {m n : Nat} (hm : m < w 3) (hn : n ≤ w (7694 + 72 * m + 6)) : CP mX4_dropFromTrail 1 0 0 [.ref (rf 4 (34 + 2 * m)), .int (nI n)] fi fr ai ar N (kQ (none) fi fr ai ar N (fun fi ai => K fi ai (upN (tsF w m n (w (7694 + 72 * m + 6) - n)) (7694 + 72 * m + 6) (w (7694 + 72 * m + 6) - n)) lg E)) := by
  have h1 := bd.1
  have h3 := bd.2.1
  have hF : FR1 fi ai fi ai := FR1_rf
  have h60 := bd.2.2.2 m hm
  change EV mX4_dropFromTrail 1 0 0 0 [some (.ref (rf 4 (34 + 2 * m))), some (.int (nI n))] [] fi fr ai ar N (kQ (none) fi fr ai ar N (fun fi ai => K fi ai (upN (tsF w m n (w (7694 + 72 * m + 6) - n)) (7694 + 72 * m + 6) (w (7694 + 72 * m + 6) - n)) lg E))
  refine e_aload_n dX4_dropFromTrail_0 rfl rfl ?_
  refine e_getR dX4_dropFromTrail_1 fl_X4_9 rfl (cm_tra cm (by omega)) ?_
  refine e_iload_n dX4_dropFromTrail_4 rfl rfl ?_
  refine e_aload_n dX4_dropFromTrail_5 rfl rfl ?_
  refine e_getR dX4_dropFromTrail_6 fl_X4_9 rfl (cm_tra cm (by omega)) ?_
  refine e_iconst (v := nI 0) dX4_dropFromTrail_9 rfl ?_
  refine e_aload_n dX4_dropFromTrail_10 rfl rfl ?_
  refine e_getE dX4_dropFromTrail_11 fl_X4_34 rfl (k_m1 hK (by first | omega | (simp (disch := omega) only [upN_n, upN_s]; omega))) ?_
  refine e_iload_n dX4_dropFromTrail_14 rfl rfl ?_
  first | ((with_reducible refine mk_nn ?_); refine n_isub dX4_dropFromTrail_15 (by omega) ?_) | refine e_isub dX4_dropFromTrail_15 ?_
  refine e_copy _ _ _ dX4_dropFromTrail_16 ml_X4_61 na_C sc_C nz_C (by decide) (Nat.le_of_ble_eq_true rfl) ⟨by decide, by decide⟩ ⟨by decide, by decide⟩ rfl rfl rfl rfl rfl (by simp only [lenK]; omega) (by simp only [lenK]; omega) ?_
  refine e_aload_n dX4_dropFromTrail_19 rfl rfl ?_
  refine e_dup dX4_dropFromTrail_20 rfl ?_
  refine e_getE dX4_dropFromTrail_21 fl_X4_34 rfl (k_m1 hK (by first | omega | (simp (disch := omega) only [upN_n, upN_s]; omega))) ?_
  refine e_iload_n dX4_dropFromTrail_24 rfl rfl ?_
  first | ((with_reducible refine mk_nn ?_); refine n_isub dX4_dropFromTrail_25 (by omega) ?_) | refine e_isub dX4_dropFromTrail_25 ?_
  refine e_putI dX4_dropFromTrail_26 fl_X4_34 rfl rfl rfl rfl ?_
  refine e_ret none rfl (r_void dX4_dropFromTrail_29 rfl) ?_
  exact kq rfl (FR1_p (FR1_f FR1_rf (by decide) (by omega)) (fun _ _ _ => rfl) (fun a q ha => congrFun (cp_o (fun e => by rw [e, rf_div (by decide)] at ha; omega)) q)) (k_dt bd hK hm hn)
def tb3 (a : Nat) : Prop := a = rf 16 5 ∨ a = rf 16 6 ∨ a = rf 16 7
theorem tb3_r {a : Nat} (h : tb3 a) : 5 ≤ a / 64 ∧ a / 64 ≤ 7 := by
  rcases h with rfl | rfl | rfl <;> rw [rf_div (by decide)] <;> omega
theorem tb_fr {fi ai ai' : FI} {q0 : Nat → Prop} (h : ∀ a q, ¬ (tb3 a ∧ q0 q) → ai' a q = ai a q) : FR1 fi ai fi ai' := ⟨fun _ _ _ => rfl, fun a ha => funext fun q => h a q (fun e => by have := tb3_r e.1; omega)⟩
theorem ct_X8_put {fi : FI} {fr : FR} {ai : FI} {ar : FR} {N : Nat} (cm : CM fr ar) {i e : Nat} {x y : Int32} (hi : i < 32) (he : fi (32 * 8 + 4) (rf 8 4) = nI e) : CP mX8_put 0 0 0 [.ref (rf 8 4), .int (nI i), .int x, .int y] fi fr ai ar N (kQ (none) fi fr ai ar N (fun fi' ai' => fi' = fi ∧ ai' (rf 16 5) i = x ∧ ai' (rf 16 6) i = y ∧ ai' (rf 16 7) i = nI e ∧ ∀ a q, ¬ (tb3 a ∧ q = i) → ai' a q = ai a q)) := by
  change EV mX8_put 0 0 0 0 [some (.ref (rf 8 4)), some (.int (nI i)), some (.int x), some (.int y)] [] fi fr ai ar N (kQ (none) fi fr ai ar N (fun fi' ai' => fi' = fi ∧ ai' (rf 16 5) i = x ∧ ai' (rf 16 6) i = y ∧ ai' (rf 16 7) i = nI e ∧ ∀ a q, ¬ (tb3 a ∧ q = i) → ai' a q = ai a q))
  refine e_aload_n dX8_put_0 rfl rfl ?_
  refine e_getR dX8_put_1 fl_X8_9 rfl (by first | exact cm_tlo cm | exact cm_ctlo cm (by omega) | assumption) ?_
  refine e_iload_n dX8_put_4 rfl rfl ?_
  refine e_iload_n dX8_put_5 rfl rfl ?_
  refine e_sg _ dX8_put_6 ⟨by decide, by decide⟩ rfl rfl (by simp only [lenK]; omega) (fun ai6 g6 o6 => ?_)
  refine e_aload_n dX8_put_7 rfl rfl ?_
  refine e_getR dX8_put_8 fl_X8_15 rfl (by first | exact cm_tow cm | exact cm_ctow cm (by omega) | assumption) ?_
  refine e_iload_n dX8_put_11 rfl rfl ?_
  refine e_iload_n dX8_put_12 rfl rfl ?_
  refine e_sg _ dX8_put_13 ⟨by decide, by decide⟩ rfl rfl (by simp only [lenK]; omega) (fun ai13 g13 o13 => ?_)
  refine e_aload_n dX8_put_14 rfl rfl ?_
  refine e_getR dX8_put_15 fl_X8_18 rfl (by first | exact cm_tep cm | exact cm_ctep cm (by omega) | assumption) ?_
  refine e_iload_n dX8_put_18 rfl rfl ?_
  refine e_aload_n dX8_put_19 rfl rfl ?_
  refine e_getE dX8_put_20 fl_X8_25 rfl he ?_
  refine e_sg _ dX8_put_23 ⟨by decide, by decide⟩ rfl rfl (by simp only [lenK]; omega) (fun ai23 g23 o23 => ?_)
  refine e_ret none rfl (r_void dX8_put_24 rfl) ?_
  have hx : ∀ a q, ¬ (tb3 a ∧ q = i) → ai23 a q = ai a q := fun a q hq => by
    rw [o23 a q (fun e => hq ⟨Or.inr (Or.inr e.1), e.2⟩), o13 a q (fun e => hq ⟨Or.inr (Or.inl e.1), e.2⟩), o6 a q (fun e => hq ⟨Or.inl e.1, e.2⟩)]
  refine kq rfl (tb_fr hx) ⟨rfl, ?_, ?_, g23, hx⟩
  · rw [o23 _ _ (fun e => absurd e.1 (rf_ne (by decide) (by decide) (by decide))), o13 _ _ (fun e => absurd e.1 (rf_ne (by decide) (by decide) (by decide)))]; exact g6
  · rw [o23 _ _ (fun e => absurd e.1 (rf_ne (by decide) (by decide) (by decide)))]; exact g13
theorem ct_X8_copyRow {fi : FI} {fr : FR} {ai : FI} {ar : FR} {N : Nat} (cm : CM fr ar) {i j : Nat} (hi : i < 32) (hj : j < 32) : CP mX8_copyRow 0 0 0 [.ref (rf 8 4), .int (nI i), .int (nI j)] fi fr ai ar N (kQ (none) fi fr ai ar N (fun fi' ai' => fi' = fi ∧ (∀ a, tb3 a → ai' a j = ai a i) ∧ ∀ a q, ¬ (tb3 a ∧ q = j) → ai' a q = ai a q)) := by
  change EV mX8_copyRow 0 0 0 0 [some (.ref (rf 8 4)), some (.int (nI i)), some (.int (nI j))] [] fi fr ai ar N (kQ (none) fi fr ai ar N (fun fi' ai' => fi' = fi ∧ (∀ a, tb3 a → ai' a j = ai a i) ∧ ∀ a q, ¬ (tb3 a ∧ q = j) → ai' a q = ai a q))
  refine e_aload_n dX8_copyRow_0 rfl rfl ?_
  refine e_getR dX8_copyRow_1 fl_X8_9 rfl (by first | exact cm_tlo cm | exact cm_ctlo cm (by omega) | assumption) ?_
  refine e_iload_n dX8_copyRow_4 rfl rfl ?_
  refine e_aload_n dX8_copyRow_5 rfl rfl ?_
  refine e_getR dX8_copyRow_6 fl_X8_9 rfl (by first | exact cm_tlo cm | exact cm_ctlo cm (by omega) | assumption) ?_
  refine e_iload_n dX8_copyRow_9 rfl rfl ?_
  refine e_iadE _ dX8_copyRow_10 ⟨by decide, by decide⟩ rfl rfl (by simp only [lenK]; omega) rfl ?_
  refine e_sg _ dX8_copyRow_11 ⟨by decide, by decide⟩ rfl rfl (by simp only [lenK]; omega) (fun ai11 g11 o11 => ?_)
  refine e_aload_n dX8_copyRow_12 rfl rfl ?_
  refine e_getR dX8_copyRow_13 fl_X8_15 rfl (by first | exact cm_tow cm | exact cm_ctow cm (by omega) | assumption) ?_
  refine e_iload_n dX8_copyRow_16 rfl rfl ?_
  refine e_aload_n dX8_copyRow_17 rfl rfl ?_
  refine e_getR dX8_copyRow_18 fl_X8_15 rfl (by first | exact cm_tow cm | exact cm_ctow cm (by omega) | assumption) ?_
  refine e_iload_n dX8_copyRow_21 rfl rfl ?_
  refine e_iadE _ dX8_copyRow_22 ⟨by decide, by decide⟩ rfl rfl (by simp only [lenK]; omega) (o11 _ _ (fun e => absurd e.1 (rf_ne (by decide) (by decide) (by decide)))) ?_
  refine e_sg _ dX8_copyRow_23 ⟨by decide, by decide⟩ rfl rfl (by simp only [lenK]; omega) (fun ai23 g23 o23 => ?_)
  refine e_aload_n dX8_copyRow_24 rfl rfl ?_
  refine e_getR dX8_copyRow_25 fl_X8_18 rfl (by first | exact cm_tep cm | exact cm_ctep cm (by omega) | assumption) ?_
  refine e_iload_n dX8_copyRow_28 rfl rfl ?_
  refine e_aload_n dX8_copyRow_29 rfl rfl ?_
  refine e_getR dX8_copyRow_30 fl_X8_18 rfl (by first | exact cm_tep cm | exact cm_ctep cm (by omega) | assumption) ?_
  refine e_iload_n dX8_copyRow_33 rfl rfl ?_
  refine e_iadE _ dX8_copyRow_34 ⟨by decide, by decide⟩ rfl rfl (by simp only [lenK]; omega) ((o23 _ _ (fun e => absurd e.1 (rf_ne (by decide) (by decide) (by decide)))).trans (o11 _ _ (fun e => absurd e.1 (rf_ne (by decide) (by decide) (by decide))))) ?_
  refine e_sg _ dX8_copyRow_35 ⟨by decide, by decide⟩ rfl rfl (by simp only [lenK]; omega) (fun ai35 g35 o35 => ?_)
  refine e_ret none rfl (r_void dX8_copyRow_36 rfl) ?_
  have hx : ∀ a q, ¬ (tb3 a ∧ q = j) → ai35 a q = ai a q := fun a q hq => by
    rw [o35 a q (fun e => hq ⟨Or.inr (Or.inr e.1), e.2⟩), o23 a q (fun e => hq ⟨Or.inr (Or.inl e.1), e.2⟩), o11 a q (fun e => hq ⟨Or.inl e.1, e.2⟩)]
  refine kq rfl (tb_fr hx) ⟨rfl, fun a ha => ?_, hx⟩
  rcases ha with rfl | rfl | rfl
  · rw [o35 _ _ (fun e => absurd e.1 (rf_ne (by decide) (by decide) (by decide))), o23 _ _ (fun e => absurd e.1 (rf_ne (by decide) (by decide) (by decide)))]; exact g11
  · rw [o35 _ _ (fun e => absurd e.1 (rf_ne (by decide) (by decide) (by decide)))]; exact g23
  · exact g35
theorem ct_X8_insertBehind {fi : FI} {fr : FR} {ai : FI} {ar : FR} {N : Nat} (cm : CM fr ar) {i n : Nat} (hs : fi (32 * 8 + 3) (rf 8 4) = nI n) (hi : i < n) (hn : n ≤ 31) : CP mX8_insertBehind 1 0 0 [.ref (rf 8 4), .int (nI i)] fi fr ai ar N (kQ (none) fi fr ai ar N (fun fi' ai' => fi' = up2 fi (32 * 8 + 3) (rf 8 4) (nI (n + 1)) ∧ (∀ a, tb3 a → (∀ q, q ≤ i → ai' a q = ai a q) ∧ ∀ q, i + 1 < q → q ≤ n → ai' a q = ai a (q - 1)) ∧ ∀ a q, ¬ tb3 a → ai' a q = ai a q)) := by
  change EV mX8_insertBehind 1 0 0 0 [some (.ref (rf 8 4)), some (.int (nI i)), none] [] fi fr ai ar N (kQ (none) fi fr ai ar N (fun fi' ai' => fi' = up2 fi (32 * 8 + 3) (rf 8 4) (nI (n + 1)) ∧ (∀ a, tb3 a → (∀ q, q ≤ i → ai' a q = ai a q) ∧ ∀ q, i + 1 < q → q ≤ n → ai' a q = ai a (q - 1)) ∧ ∀ a q, ¬ tb3 a → ai' a q = ai a q))
  have ex : ∀ ai2 x, (∀ A, tb3 A → (∀ q, q < i + 1 → ai2 A q = ai A q) ∧ ∀ q, i + 1 < q → q ≤ n → ai2 A q = ai A (q - 1)) → (∀ A q, ¬ tb3 A → ai2 A q = ai A q) → EV mX8_insertBehind 1 0 0 26 [some (.ref (rf 8 4)), some (.int (nI i)), x] [] fi fr ai2 ar N (kQ (none) fi fr ai ar N (fun fi' ai' => fi' = up2 fi (32 * 8 + 3) (rf 8 4) (nI (n + 1)) ∧ (∀ a, tb3 a → (∀ q, q ≤ i → ai' a q = ai a q) ∧ ∀ q, i + 1 < q → q ≤ n → ai' a q = ai a (q - 1)) ∧ ∀ a q, ¬ tb3 a → ai' a q = ai a q)) := by
    intro ai2 x hA hO
    refine e_aload_n dX8_insertBehind_26 rfl rfl ?_
    refine e_dup dX8_insertBehind_27 rfl ?_
    refine e_getE dX8_insertBehind_28 fl_X8_21 rfl hs ?_
    refine e_iconst (v := nI 1) dX8_insertBehind_31 rfl ?_
    first | ((with_reducible refine mk_nn ?_); refine n_iadd dX8_insertBehind_32 ?_) | refine e_iadd dX8_insertBehind_32 ?_
    refine e_putI dX8_insertBehind_33 fl_X8_21 rfl rfl rfl rfl ?_
    refine e_ret none rfl (r_void dX8_insertBehind_36 rfl) ?_
    refine kq rfl ⟨fun f r hr => up2_n _ _ (fun e => by rw [e.2, rf_div (by decide)] at hr; omega), fun a ha => funext fun q => hO a q (fun e => by have := tb3_r e; omega)⟩ ⟨rfl, fun A hA2 => ⟨fun q hq => (hA A hA2).1 q (by omega), (hA A hA2).2⟩, hO⟩
  have key : ∀ a ai2, i + 1 ≤ a → a ≤ n → (∀ A, tb3 A → (∀ q, q < a → ai2 A q = ai A q) ∧ ∀ q, a < q → q ≤ n → ai2 A q = ai A (q - 1)) → (∀ A q, ¬ tb3 A → ai2 A q = ai A q) → EV mX8_insertBehind 1 0 0 5 [some (.ref (rf 8 4)), some (.int (nI i)), some (.int (nI a))] [] fi fr ai2 ar N (kQ (none) fi fr ai ar N (fun fi' ai' => fi' = up2 fi (32 * 8 + 3) (rf 8 4) (nI (n + 1)) ∧ (∀ a, tb3 a → (∀ q, q ≤ i → ai' a q = ai a q) ∧ ∀ q, i + 1 < q → q ≤ n → ai' a q = ai a (q - 1)) ∧ ∀ a q, ¬ tb3 a → ai' a q = ai a q)) := by
    intro a
    induction a with
    | zero => intro ai2 ha; omega
    | succ a ih =>
      intro ai2 ha ha2 hA hO
      by_cases e : a = i
      · subst e
        refine e_iload_n dX8_insertBehind_5 rfl rfl ?_
        refine e_iload_n dX8_insertBehind_6 rfl rfl ?_
        refine e_iconst (v := nI 1) dX8_insertBehind_7 rfl ?_
        first | ((with_reducible refine mk_nn ?_); refine n_iadd dX8_insertBehind_8 ?_) | refine e_iadd dX8_insertBehind_8 ?_
        first | ((with_reducible refine mk_nn ?_); refine n_icmp_le (tgt := 26) dX8_insertBehind_9 (by decide) (by omega) (by omega) (fun h9 => ?_) (fun h9 => ?_)) | refine e_icmp_le (tgt := 26) dX8_insertBehind_9 (by decide) (fun h9 => ?_) (fun h9 => ?_)
        · try first | contradiction | omega
          all_goals
            exact ex _ _ hA hO
        · try first | contradiction | omega
          all_goals
            omega
      ·
        refine e_iload_n dX8_insertBehind_5 rfl rfl ?_
        refine e_iload_n dX8_insertBehind_6 rfl rfl ?_
        refine e_iconst (v := nI 1) dX8_insertBehind_7 rfl ?_
        first | ((with_reducible refine mk_nn ?_); refine n_iadd dX8_insertBehind_8 ?_) | refine e_iadd dX8_insertBehind_8 ?_
        first | ((with_reducible refine mk_nn ?_); refine n_icmp_le (tgt := 26) dX8_insertBehind_9 (by decide) (by omega) (by omega) (fun h9 => ?_) (fun h9 => ?_)) | refine e_icmp_le (tgt := 26) dX8_insertBehind_9 (by decide) (fun h9 => ?_) (fun h9 => ?_)
        · try first | contradiction | omega
          all_goals
            omega
        · try first | contradiction | omega
          all_goals
            refine e_aload_n dX8_insertBehind_12 rfl rfl ?_
            refine e_iload_n dX8_insertBehind_13 rfl rfl ?_
            refine e_iconst (v := nI 1) dX8_insertBehind_14 rfl ?_
            first | ((with_reducible refine mk_nn ?_); refine n_isub dX8_insertBehind_15 (by omega) ?_) | refine e_isub dX8_insertBehind_15 ?_
            refine e_iload_n dX8_insertBehind_16 rfl rfl ?_
            refine ky_V2 (M' := mX8_copyRow) dX8_insertBehind_17 ml_X8_28 ok_X8_copyRow (by decide) rfl im_X8_copyRow se_X8_copyRow (ct_X8_copyRow cm (by omega) (by omega)) (Nat.le_of_ble_eq_true rfl) (by decide) (Nat.le_of_ble_eq_true rfl) (fun fi3 ai3 hG hR => ?_)
            obtain ⟨rfl, r1, r2⟩ := hR
            have hA : ∀ A, tb3 A → (∀ q, q < a → ai3 A q = ai A q) ∧ ∀ q, a < q → q ≤ n → ai3 A q = ai A (q - 1) := fun A h3 => ⟨fun q hq => (r2 A q (fun e => by have := e.2; omega)).trans ((hA A h3).1 q (by omega)), fun q p1 p2 => by
              by_cases e2 : q = a + 1
              · rw [e2, r1 A h3]; exact (hA A h3).1 _ (by omega)
              · rw [r2 A q (fun e => e2 e.2)]; exact (hA A h3).2 q (by omega) p2⟩
            have hO : ∀ A q, ¬ tb3 A → ai3 A q = ai A q := fun A q h3 => (r2 A q (fun e => h3 e.1)).trans (hO A q h3)
            first | refine n_dec dX8_insertBehind_20 rfl (Nat.le_of_ble_eq_true rfl) rfl ?_ | refine e_iinc dX8_insertBehind_20 rfl rfl (Nat.le_of_ble_eq_true rfl) rfl ?_
            refine e_goto (tgt := 5) dX8_insertBehind_23 (by decide) ?_
            exact ih _ (by omega) (by omega) hA hO
  refine e_aload_n dX8_insertBehind_0 rfl rfl ?_
  refine e_getE dX8_insertBehind_1 fl_X8_21 rfl hs ?_
  refine e_istore_n dX8_insertBehind_4 rfl (Nat.le_of_ble_eq_true rfl) rfl ?_
  exact key n _ (by omega) (Nat.le_refl _) (fun A _ => ⟨fun _ _ => rfl, fun q p1 p2 => absurd p1 (by omega)⟩) (fun _ _ _ => rfl)
theorem ct_X8_removeBehind {fi : FI} {fr : FR} {ai : FI} {ar : FR} {N : Nat} (cm : CM fr ar) {i n : Nat} (hs : fi (32 * 8 + 3) (rf 8 4) = nI n) (hi : i + 1 < n) (hn : n ≤ 32) : CP mX8_removeBehind 1 0 0 [.ref (rf 8 4), .int (nI i)] fi fr ai ar N (kQ (none) fi fr ai ar N (fun fi' ai' => fi' = up2 fi (32 * 8 + 3) (rf 8 4) (nI (n - 1)) ∧ (∀ a, tb3 a → (∀ q, q ≤ i → ai' a q = ai a q) ∧ ∀ q, i < q → q < n - 1 → ai' a q = ai a (q + 1)) ∧ ∀ a q, ¬ tb3 a → ai' a q = ai a q)) := by
  change EV mX8_removeBehind 1 0 0 0 [some (.ref (rf 8 4)), some (.int (nI i)), none] [] fi fr ai ar N (kQ (none) fi fr ai ar N (fun fi' ai' => fi' = up2 fi (32 * 8 + 3) (rf 8 4) (nI (n - 1)) ∧ (∀ a, tb3 a → (∀ q, q ≤ i → ai' a q = ai a q) ∧ ∀ q, i < q → q < n - 1 → ai' a q = ai a (q + 1)) ∧ ∀ a q, ¬ tb3 a → ai' a q = ai a q))
  have key := ev_up (P := fun j => ∀ ai2, (∀ A, tb3 A → (∀ q, q ≤ i → ai2 A q = ai A q) ∧ (∀ q, i < q → q < i + 1 + j → ai2 A q = ai A (q + 1)) ∧ ∀ q, i + 1 + j ≤ q → ai2 A q = ai A q) → (∀ A q, ¬ tb3 A → ai2 A q = ai A q) → EV mX8_removeBehind 1 0 0 4 [some (.ref (rf 8 4)), some (.int (nI i)), some (.int (nI (i + 1 + j)))] [] fi fr ai2 ar N (kQ (none) fi fr ai ar N (fun fi' ai' => fi' = up2 fi (32 * 8 + 3) (rf 8 4) (nI (n - 1)) ∧ (∀ a, tb3 a → (∀ q, q ≤ i → ai' a q = ai a q) ∧ ∀ q, i < q → q < n - 1 → ai' a q = ai a (q + 1)) ∧ ∀ a q, ¬ tb3 a → ai' a q = ai a q))) (n - 1 - (i + 1)) (fun j hj ih ai2 hA hO => by
    refine e_iload_n dX8_removeBehind_4 rfl rfl ?_
    refine e_aload_n dX8_removeBehind_5 rfl rfl ?_
    refine e_getE dX8_removeBehind_6 fl_X8_21 rfl hs ?_
    refine e_iconst (v := nI 1) dX8_removeBehind_9 rfl ?_
    first | ((with_reducible refine mk_nn ?_); refine n_isub dX8_removeBehind_10 (by omega) ?_) | refine e_isub dX8_removeBehind_10 ?_
    first | ((with_reducible refine mk_nn ?_); refine n_icmp_ge (tgt := 28) dX8_removeBehind_11 (by decide) (by omega) (by omega) (fun h11 => ?_) (fun h11 => ?_)) | refine e_icmp_ge (tgt := 28) dX8_removeBehind_11 (by decide) (fun h11 => ?_) (fun h11 => ?_)
    · try first | contradiction | omega
      all_goals
        omega
    · try first | contradiction | omega
      all_goals
        refine e_aload_n dX8_removeBehind_14 rfl rfl ?_
        refine e_iload_n dX8_removeBehind_15 rfl rfl ?_
        refine e_iconst (v := nI 1) dX8_removeBehind_16 rfl ?_
        first | ((with_reducible refine mk_nn ?_); refine n_iadd dX8_removeBehind_17 ?_) | refine e_iadd dX8_removeBehind_17 ?_
        refine e_iload_n dX8_removeBehind_18 rfl rfl ?_
        refine ky_V2 (M' := mX8_copyRow) dX8_removeBehind_19 ml_X8_28 ok_X8_copyRow (by decide) rfl im_X8_copyRow se_X8_copyRow (ct_X8_copyRow cm (by omega) (by omega)) (Nat.le_of_ble_eq_true rfl) (by decide) (Nat.le_of_ble_eq_true rfl) (fun fi3 ai3 hG hR => ?_)
        obtain ⟨rfl, r1, r2⟩ := hR
        first | refine n_inc dX8_removeBehind_22 rfl (Nat.le_of_ble_eq_true rfl) rfl ?_ | refine e_iinc dX8_removeBehind_22 rfl rfl (Nat.le_of_ble_eq_true rfl) rfl ?_
        refine e_goto (tgt := 4) dX8_removeBehind_25 (by decide) ?_
        refine ih _ (fun A h3 => ⟨fun q hq => ?_, fun q p1 p2 => ?_, fun q hq => ?_⟩) (fun A q h3 => (r2 A q (fun e => h3 e.1)).trans (hO A q h3))
        · exact (r2 A q (fun e => by have := e.2; omega)).trans ((hA A h3).1 q hq)
        · by_cases e2 : q = i + 1 + j
          · rw [e2, r1 A h3]; exact (hA A h3).2.2 _ (by omega)
          · rw [r2 A q (fun e => e2 e.2)]; exact (hA A h3).2.1 q p1 (by omega)
        · exact (r2 A q (fun e => by have := e.2; omega)).trans ((hA A h3).2.2 q (by omega))
    ) (fun ai2 hA hO => by
    refine e_iload_n dX8_removeBehind_4 rfl rfl ?_
    refine e_aload_n dX8_removeBehind_5 rfl rfl ?_
    refine e_getE dX8_removeBehind_6 fl_X8_21 rfl hs ?_
    refine e_iconst (v := nI 1) dX8_removeBehind_9 rfl ?_
    first | ((with_reducible refine mk_nn ?_); refine n_isub dX8_removeBehind_10 (by omega) ?_) | refine e_isub dX8_removeBehind_10 ?_
    first | ((with_reducible refine mk_nn ?_); refine n_icmp_ge (tgt := 28) dX8_removeBehind_11 (by decide) (by omega) (by omega) (fun h11 => ?_) (fun h11 => ?_)) | refine e_icmp_ge (tgt := 28) dX8_removeBehind_11 (by decide) (fun h11 => ?_) (fun h11 => ?_)
    · try first | contradiction | omega
      all_goals
        refine e_aload_n dX8_removeBehind_28 rfl rfl ?_
        refine e_dup dX8_removeBehind_29 rfl ?_
        refine e_getE dX8_removeBehind_30 fl_X8_21 rfl hs ?_
        refine e_iconst (v := nI 1) dX8_removeBehind_33 rfl ?_
        first | ((with_reducible refine mk_nn ?_); refine n_isub dX8_removeBehind_34 (by omega) ?_) | refine e_isub dX8_removeBehind_34 ?_
        refine e_putI dX8_removeBehind_35 fl_X8_21 rfl rfl rfl rfl ?_
        refine e_ret none rfl (r_void dX8_removeBehind_38 rfl) ?_
        refine kq rfl ⟨fun f r hr => up2_n _ _ (fun e => by rw [e.2, rf_div (by decide)] at hr; omega), fun a ha => funext fun q => hO a q (fun e => by have := tb3_r e; omega)⟩ ⟨rfl, fun A hA2 => ⟨(hA A hA2).1, fun q p1 p2 => (hA A hA2).2.1 q p1 (by omega)⟩, hO⟩
    · try first | contradiction | omega
      all_goals
        omega
    )
  refine e_iload_n dX8_removeBehind_0 rfl rfl ?_
  refine e_iconst (v := nI 1) dX8_removeBehind_1 rfl ?_
  first | ((with_reducible refine mk_nn ?_); refine n_iadd dX8_removeBehind_2 ?_) | refine e_iadd dX8_removeBehind_2 ?_
  refine e_istore_n dX8_removeBehind_3 rfl (Nat.le_of_ble_eq_true rfl) rfl ?_
  exact key 0 (by omega) _ (fun A _ => ⟨fun _ _ => rfl, fun q p1 p2 => absurd p1 (by omega), fun _ _ => rfl⟩) (fun _ _ _ => rfl)
