theorem CLS_ts {fi fi' : FI} {fr : FR} {ai ai' : FI} {ar : FR} {N : Nat} {w lg : Nat → Nat} {E u : Nat} {V : Nat → Nat → Nat} {im : Option ((Nat → Nat) × (Nat → Nat))} (h : CLS fi fr ai ar N w lg E u V im) (h3 : w 3 ≤ 12) (hf : ∀ f r, ((1 ≤ r / 64 ∧ r / 64 ≤ 75) ∨ 89 ≤ r / 64) → fi' f r = fi f r) (ha : ∀ a, ((1 ≤ a / 64 ∧ a / 64 ≤ 75) ∨ 89 ≤ a / 64) → ai' a = ai a) : CLS fi' fr ai' ar N w lg E u V im := by
  obtain ⟨cm, sm, hK, B, t, cb⟩ := h
  exact ⟨cm, sm, K_fr h3 (fun f r a b => hf f r (by omega)) (fun a x y => ha a (by omega)) hK, B, t, CB_fr cb (hf _ _ (by decide)) (hf _ _ (by decide)) (fun f r x => hf f r (by omega)) (fun a x => ha a (by omega))⟩
/-- behind a script -/
def scQ (r : Option Value) (w lg : Nat → Nat) (u : Nat) (V : Nat → Nat → Nat) (im : Option ((Nat → Nat) × (Nat → Nat))) (fl pl rs : Int32) (fi ai : FI) : EQ := fun r1 fi' fr' ai' ar' N' => r1 = r ∧ CLS fi' fr' ai' ar' N' w lg (w 0) u V im ∧ fi' (32 * 7 + 3) (rf 7 76) = nI 0 ∧ fi' (32 * 7 + 5) (rf 7 76) = fl ∧ fi' (32 * 7 + 6) (rf 7 76) = pl ∧ fi' (32 * 10 + 10) (rf 10 0) = rs ∧ (∀ f r, 80 ≤ r / 64 → r / 64 < 89 → fi' f r = fi f r) ∧ ∀ a, 80 ≤ a / 64 → a / 64 < 89 → ai' a = ai a
theorem scr_126 {f0 a0 f1 a1 fi ai : FI} {fr ar : FR} {N u t m k z : Nat} {V : Nat → Nat → Nat} {im : Option ((Nat → Nat) × (Nat → Nat))} {B w w2 lg2 : Nat → Nat} {x fl pl : Int32} {lx : Option Value} (cm : CM fr ar) (sm : SM fr) (cb : CB f1 fr a1 ar N u V im B t) (hb : B t ≠ 0) (hk : KW (B t) f1 a1 w) (iv : Inv w) (hf : ∀ f r, 71 ≤ r / 64 → fi f r = f1 f r) (ha : ∀ a, 71 ≤ a / 64 → ai a = a1 a) (hK : K fi ai w2 lg2 (w2 0)) (h3 : w2 3 ≤ 12) (hm : m ≤ 40) (hx : fi (32 * 10 + 10) (rf 10 0) = x) (g3 : f1 (32 * 7 + 3) (rf 7 76) = nI 0) (g5 : f1 (32 * 7 + 5) (rf 7 76) = fl) (g6 : f1 (32 * 7 + 6) (rf 7 76) = pl) (k1 : ∀ f r, 80 ≤ r / 64 → r / 64 < 89 → f1 f r = f0 f r) (k2 : ∀ a, 80 ≤ a / 64 → a / 64 < 89 → a1 a = a0 a) : EV mX10_script 7 k z 126 [some (.ref (rf 10 0)), some (.int (nI m)), lx] [] fi fr ai ar N (scQ (some (.int (nI m))) w2 lg2 (acU (decide (0 < m)) u) (acV (decide (0 < m)) u V w) im fl pl x f0 a0) := by
  have cb2 : CB fi fr ai ar N u V im B t := CB_fr cb (hf _ _ (by decide)) (hf _ _ (by decide)) (fun f r x => hf f r (by omega)) (fun a x => ha a (by omega))
  have hB := cb.1.2.1 t (by have := cb.2.1; omega) hb
  have hk2 : KW (B t) fi ai w := KW_fr (iv_mm iv) (fun f r x y => hf f r (by omega)) (fun a x y => ha a (by omega)) hk
  have ht := cb.2.1
  have hu := cb.2.2.1
  by_cases h0 : 0 < m
  · rw [decide_eq_true h0]
    have last : EV mX10_script 7 k z 137 [some (.ref (rf 10 0)), some (.int (nI m)), lx] [] (kpF fi t u) fr ai ar N (scQ (some (.int (nI m))) w2 lg2 (acU true u) (acV true u V w) im fl pl x f0 a0) := by
      refine e_iload_n dX10_script_137 rfl rfl ?_
      refine e_ret (some _) rfl (r_int dX10_script_138 rfl) ?_
      exact ⟨rfl, ⟨cm, sm, K_fr h3 (fun f r x y => kpF_o (fun e => by rw [e, rf_div (by decide)] at y; omega)) (fun _ _ _ => rfl) hK, B, (t + 1) % 7, CB_kp cb2 hb hk2 iv⟩, (kpF_o (by decide)).trans ((hf _ _ (by decide)).trans g3), (kpF_o (by decide)).trans ((hf _ _ (by decide)).trans g5), (kpF_o (by decide)).trans ((hf _ _ (by decide)).trans g6), (kpF_o (by decide)).trans hx, fun f r p q => (kpF_o (fun e => by rw [e, rf_div (by decide)] at p; omega)).trans ((hf f r (by omega)).trans (k1 f r p q)), fun a p q => (ha a (by omega)).trans (k2 a p q)⟩
    refine e_iload_n dX10_script_126 rfl rfl ?_
    first | ((with_reducible refine mk_ll ?_); refine m_if_le (tgt := 137) dX10_script_127 (by decide) (by omega) (by omega) (fun h127 => ?_) (fun h127 => ?_)) | ((with_reducible refine mk_lc ?_); refine l_if_le (tgt := 137) dX10_script_127 (by decide) (fun h127 => ?_) (fun h127 => ?_)) | ((with_reducible refine mk_n ?_); refine n_if_le (tgt := 137) dX10_script_127 (by decide) (by omega) (fun h127 => ?_) (fun h127 => ?_)) | refine e_if_le (tgt := 137) dX10_script_127 (by decide) (fun h127 => ?_) (fun h127 => ?_)
    · try first | contradiction | omega
      all_goals
        first | omega | exact last
    · try first | contradiction | omega
      all_goals
        refine e_aload_n dX10_script_130 rfl rfl ?_
        refine e_getR dX10_script_131 fl_X10_58 rfl (cx_6 cm) ?_
        refine y_V0 (M' := mX0_keep) dX10_script_134 ml_X10_164 ok_X0_keep (by decide) rfl im_X0_keep se_X0_keep (ct_X0_keep ht hu cb2.2.2.2.1 cb2.2.2.2.2.1) (Nat.le_of_ble_eq_true rfl) (by decide) (Nat.le_of_ble_eq_true rfl) ?_
        first | omega | exact last
  · rw [decide_eq_false h0]
    refine e_iload_n dX10_script_126 rfl rfl ?_
    first | ((with_reducible refine mk_ll ?_); refine m_if_le (tgt := 137) dX10_script_127 (by decide) (by omega) (by omega) (fun h127 => ?_) (fun h127 => ?_)) | ((with_reducible refine mk_lc ?_); refine l_if_le (tgt := 137) dX10_script_127 (by decide) (fun h127 => ?_) (fun h127 => ?_)) | ((with_reducible refine mk_n ?_); refine n_if_le (tgt := 137) dX10_script_127 (by decide) (by omega) (fun h127 => ?_) (fun h127 => ?_)) | refine e_if_le (tgt := 137) dX10_script_127 (by decide) (fun h127 => ?_) (fun h127 => ?_)
    · try first | contradiction | omega
      all_goals
        refine e_iload_n dX10_script_137 rfl rfl ?_
        refine e_ret (some _) rfl (r_int dX10_script_138 rfl) ?_
        exact ⟨rfl, ⟨cm, sm, hK, B, t, cb2⟩, (hf _ _ (by decide)).trans g3, (hf _ _ (by decide)).trans g5, (hf _ _ (by decide)).trans g6, hx, fun f r p q => (hf f r (by omega)).trans (k1 f r p q), fun a p q => (ha a (by omega)).trans (k2 a p q)⟩
    · try first | contradiction | omega
      all_goals
        omega
theorem scr_loop {f0 a0 f1 a1 : FI} {fr ar : FR} {N u t c : Nat} {V : Nat → Nat → Nat} {im : Option ((Nat → Nat) × (Nat → Nat))} {B w : Nat → Nat} {fl pl : Int32} {cl : Nat → Nat × Int32 × Int32 × Int32} (cm : CM fr ar) (sm : SM fr) (cb : CB f1 fr a1 ar N u V im B t) (hb : B t ≠ 0) (hk : KW (B t) f1 a1 w) (iv : Inv w) (g3 : f1 (32 * 7 + 3) (rf 7 76) = nI 0) (g4 : f1 (32 * 7 + 4) (rf 7 76) = nI c) (g5 : f1 (32 * 7 + 5) (rf 7 76) = fl) (g6 : f1 (32 * 7 + 6) (rf 7 76) = pl) (gx : f1 (32 * 10 + 10) (rf 10 0) = -1) (hc40 : c ≤ 40) (hcl : ∀ i, i < c → a1 (rf 31 79) i = nI (cl i).1 ∧ (cl i).1 < 15 ∧ a1 (rf 30 78) (i * 3 + 0) = (cl i).2.1 ∧ a1 (rf 30 78) (i * 3 + 1) = (cl i).2.2.1 ∧ a1 (rf 30 78) (i * 3 + 2) = (cl i).2.2.2) (k1 : ∀ f r, 80 ≤ r / 64 → r / 64 < 89 → f1 f r = f0 f r) (k2 : ∀ a, 80 ≤ a / 64 → a / 64 < 89 → a1 a = a0 a) : ∀ (k m : Nat) (fi ai : FI) (w2 lg2 : Nat → Nat), m + k = c → K fi ai w2 lg2 (w2 0) → GW w2 → FR1 f1 a1 fi ai → w2 0 + evS cl k m < 1999 → (∀ j, j < 1000 → w2 (106 + j) + 2 * k + 2 ≤ 100000) → EV mX10_script 7 0 0 47 [some (.ref (rf 10 0)), some (.int (nI m)), some (.int (nI m))] [] fi fr ai ar N (scQ (some (.int (nI (exR cl k m w2).1))) (exR cl k m w2).2 (exRG cl k m w2 lg2) (acU (decide (0 < (exR cl k m w2).1)) u) (acV (decide (0 < (exR cl k m w2).1)) u V w) im fl pl (if (exR cl k m w2).1 < c then nI (exR cl k m w2).1 else -1) f0 a0) := by
  intro k
  induction k with
  | zero =>
    intro m fi ai w2 lg2 hm hK gw hF he hw
    have hx : fi (32 * 10 + 10) (rf 10 0) = -1 := (hF.1 _ _ (by decide)).trans gx
    have e1 : exR cl 0 m w2 = (m, w2) := rfl
    rw [e1, if_neg (show ¬ m < c by omega)]
    refine e_iload_n dX10_script_47 rfl rfl ?_
    refine e_aload_n dX10_script_48 rfl rfl ?_
    refine e_getR dX10_script_49 fl_X10_65 rfl (cx_7 cm) ?_
    refine e_getE dX10_script_52 fl_X10_187 rfl ((hF.1 _ _ (by decide)).trans g4) ?_
    first | ((with_reducible refine mk_nn ?_); refine n_icmp_ge (tgt := 126) dX10_script_55 (by decide) (by omega) (by omega) (fun h55 => ?_) (fun h55 => ?_)) | refine e_icmp_ge (tgt := 126) dX10_script_55 (by decide) (fun h55 => ?_) (fun h55 => ?_)
    · try first | contradiction | omega
      all_goals
        exact scr_126 cm sm cb hb hk iv (fun f r q => hF.1 f r (by omega)) (fun a q => hF.2 a (by omega)) hK (iv_mm gw.1) (by omega) hx g3 g5 g6 k1 k2
    · try first | contradiction | omega
      all_goals
        omega
  | succ k ih =>
    intro m fi ai w2 lg2 hm hK gw hF he hw
    have hx : fi (32 * 10 + 10) (rf 10 0) = -1 := (hF.1 _ _ (by decide)).trans gx
    have hv := hcl m (by omega)
    have hv1 : ai (rf 31 79) m = nI (cl m).1 := by rw [hF.2 _ (by decide)]; exact hv.1
    have hn0 : ai (rf 30 78) (m * 3 + 0) = (cl m).2.1 := by rw [hF.2 _ (by decide)]; exact hv.2.2.1
    have hn1 : ai (rf 30 78) (m * 3 + 1) = (cl m).2.2.1 := by rw [hF.2 _ (by decide)]; exact hv.2.2.2.1
    have hn2 : ai (rf 30 78) (m * 3 + 2) = (cl m).2.2.2 := by rw [hF.2 _ (by decide)]; exact hv.2.2.2.2
    have he' : w2 0 + (evN (cl m).1 + evS cl k (m + 1)) < 1999 := he
    have h01 : w2 0 < 1999 := by omega
    have tr := ex_T (x := (cl m).2.1) (y := (cl m).2.2.1) (z := (cl m).2.2.2) gw h01 (fun j hj => by have := hw j hj; omega) hv.2.1
    cases hB : exB (cl m).1 (cl m).2.1 (cl m).2.2.1 (cl m).2.2.2 w2 with
    | true =>
      have e1 : exR cl (k + 1) m w2 = exR cl k (m + 1) (exW (cl m).1 (cl m).2.1 (cl m).2.2.1 (cl m).2.2.2 w2) := if_pos hB
      have e2 : exRG cl (k + 1) m w2 lg2 = exRG cl k (m + 1) (exW (cl m).1 (cl m).2.1 (cl m).2.2.1 (cl m).2.2.2 w2) (exG (cl m).1 (cl m).2.1 (cl m).2.2.1 w2 lg2) := if_pos hB
      rw [e1, e2]
      refine e_iload_n dX10_script_47 rfl rfl ?_
      refine e_aload_n dX10_script_48 rfl rfl ?_
      refine e_getR dX10_script_49 fl_X10_65 rfl (cx_7 cm) ?_
      refine e_getE dX10_script_52 fl_X10_187 rfl ((hF.1 _ _ (by decide)).trans g4) ?_
      first | ((with_reducible refine mk_nn ?_); refine n_icmp_ge (tgt := 126) dX10_script_55 (by decide) (by omega) (by omega) (fun h55 => ?_) (fun h55 => ?_)) | refine e_icmp_ge (tgt := 126) dX10_script_55 (by decide) (fun h55 => ?_) (fun h55 => ?_)
      · try first | contradiction | omega
        all_goals
          first | omega | exact absurd rfl h63
      · try first | contradiction | omega
        all_goals
          refine e_aload_n dX10_script_58 rfl rfl ?_
          refine e_getE dX10_script_59 fl_X10_75 rfl hx ?_
          refine e_iconst (v := -1) dX10_script_62 rfl ?_
          first | ((with_reducible refine mk_mo ?_); refine p_icmp_ne (tgt := 126) dX10_script_63 (by decide) (fun h63 => ?_) (fun h63 => ?_)) | ((with_reducible refine mk_ms ?_); refine s_icmp_ne (tgt := 126) dX10_script_63 (by decide) (by omega) (fun h63 => ?_) (fun h63 => ?_)) | ((with_reducible refine mk_mn ?_); refine q_icmp_ne (tgt := 126) dX10_script_63 (by decide) (by omega) (fun h63 => ?_) (fun h63 => ?_)) | ((with_reducible refine mk_nn ?_); refine n_icmp_ne (tgt := 126) dX10_script_63 (by decide) (by omega) (by omega) (fun h63 => ?_) (fun h63 => ?_)) | refine e_icmp_ne (tgt := 126) dX10_script_63 (by decide) (fun h63 => ?_) (fun h63 => ?_)
          · try first | contradiction | omega
            all_goals
              first | omega | exact absurd rfl h63
          · try first | contradiction | omega
            all_goals
              refine e_aload_n dX10_script_66 rfl rfl ?_
              refine e_aload_n dX10_script_67 rfl rfl ?_
              refine e_getR dX10_script_68 fl_X10_65 rfl (cx_7 cm) ?_
              refine e_getR dX10_script_71 fl_X10_190 rfl (cs_vrb cm) ?_
              refine e_iload_n dX10_script_74 rfl rfl ?_
              refine e_iadE _ dX10_script_75 ⟨by decide, by decide⟩ rfl rfl (by simp only [lenK]; omega) hv1 ?_
              refine e_aload_n dX10_script_76 rfl rfl ?_
              refine e_getR dX10_script_77 fl_X10_65 rfl (cx_7 cm) ?_
              refine e_iload_n dX10_script_80 rfl rfl ?_
              refine e_iconst (v := nI 0) dX10_script_81 rfl ?_
              refine x_V2 (M' := mX7_numberOf) dX10_script_82 ml_X10_193 ok_X7_numberOf (by decide) rfl im_X7_numberOf se_X7_numberOf (ct_X7_numberOf cm (by omega) _ hn0) (Nat.le_of_ble_eq_true rfl) (by decide) (Nat.le_of_ble_eq_true rfl) ?_
              refine e_aload_n dX10_script_85 rfl rfl ?_
              refine e_getR dX10_script_86 fl_X10_65 rfl (cx_7 cm) ?_
              refine e_iload_n dX10_script_89 rfl rfl ?_
              refine e_iconst (v := nI 1) dX10_script_90 rfl ?_
              refine x_V2 (M' := mX7_numberOf) dX10_script_91 ml_X10_193 ok_X7_numberOf (by decide) rfl im_X7_numberOf se_X7_numberOf (ct_X7_numberOf cm (by omega) _ hn1) (Nat.le_of_ble_eq_true rfl) (by decide) (Nat.le_of_ble_eq_true rfl) ?_
              refine e_aload_n dX10_script_94 rfl rfl ?_
              refine e_getR dX10_script_95 fl_X10_65 rfl (cx_7 cm) ?_
              refine e_iload_n dX10_script_98 rfl rfl ?_
              refine e_iconst (v := nI 2) dX10_script_99 rfl ?_
              refine x_V2 (M' := mX7_numberOf) dX10_script_100 ml_X10_193 ok_X7_numberOf (by decide) rfl im_X7_numberOf se_X7_numberOf (ct_X7_numberOf cm (by omega) _ hn2) (Nat.le_of_ble_eq_true rfl) (by decide) (Nat.le_of_ble_eq_true rfl) ?_
              refine e_callV (M' := mX10_runClause) (k' := 0) (z' := 0) (k2 := 0) (z2 := 0) (As := [_, _, _, _]) dX10_script_103 ml_X10_196 ok_X10_runClause (by decide) rfl im_X10_runClause se_X10_runClause (ct_rc cm gw hK h01 (fun j hj => by have := hw j hj; omega) hv.2.1 _ _ _) rfl rfl (Nat.le_of_ble_eq_true rfl) (by decide) ⟨by omega, by omega⟩ (Nat.le_of_ble_eq_true rfl) (fun r1 f2 g2 a2 q2 n2 hI => ?_)
              obtain ⟨i1, i2, i3, i4, hG, hK2⟩ := hI
              rw [i1, i2, i3, i4]
              clear i1 i2 i3 i4 r1 g2 q2 n2
              dsimp only [Option.toList, List.cons_append, List.nil_append]
              rw [hB]
              first | ((with_reducible refine mk_b ?_); refine b_if_eq (tgt := 115) dX10_script_106 (by decide) (fun h106 => ?_) (fun h106 => ?_)) | ((with_reducible refine mk_ll ?_); refine m_if_eq (tgt := 115) dX10_script_106 (by decide) (by omega) (by omega) (fun h106 => ?_) (fun h106 => ?_)) | ((with_reducible refine mk_lc ?_); refine l_if_eq (tgt := 115) dX10_script_106 (by decide) (fun h106 => ?_) (fun h106 => ?_)) | ((with_reducible refine mk_n ?_); refine n_if_eq (tgt := 115) dX10_script_106 (by decide) (by omega) (fun h106 => ?_) (fun h106 => ?_)) | refine e_if_eq (tgt := 115) dX10_script_106 (by decide) (fun h106 => ?_) (fun h106 => ?_)
              · try first | contradiction | omega | (simp only [decide_eq_true_eq, decide_eq_false_iff_not] at h106; omega)
                all_goals
                  contradiction
              · try first | contradiction | omega | (simp only [decide_eq_true_eq, decide_eq_false_iff_not] at h106; omega)
                all_goals
                  first | refine n_inc dX10_script_109 rfl (Nat.le_of_ble_eq_true rfl) rfl ?_ | refine e_iinc dX10_script_109 rfl rfl (Nat.le_of_ble_eq_true rfl) rfl ?_
                  refine e_goto (tgt := 120) dX10_script_112 (by decide) ?_
                  first | refine n_inc dX10_script_120 rfl (Nat.le_of_ble_eq_true rfl) rfl ?_ | refine e_iinc dX10_script_120 rfl rfl (Nat.le_of_ble_eq_true rfl) rfl ?_
                  refine e_goto (tgt := 47) dX10_script_123 (by decide) ?_
                  exact ih (m + 1) f2 a2 _ _ (by omega) hK2 tr.1 (FR1_tr hF hG) (by have := tr.2.2.1; omega) (fun j hj => by have := tr.2.2.2 j hj; have := hw j hj; omega)
    | false =>
      have e1 : exR cl (k + 1) m w2 = (m, exW (cl m).1 (cl m).2.1 (cl m).2.2.1 (cl m).2.2.2 w2) := if_neg (by rw [hB]; exact Bool.noConfusion)
      have e2 : exRG cl (k + 1) m w2 lg2 = exG (cl m).1 (cl m).2.1 (cl m).2.2.1 w2 lg2 := if_neg (by rw [hB]; exact Bool.noConfusion)
      rw [e1, e2, if_pos (show m < c by omega)]
      have hq : ∀ (f2 a2 : FI), FR1 fi ai f2 a2 → K f2 a2 (exW (cl m).1 (cl m).2.1 (cl m).2.2.1 (cl m).2.2.2 w2) (exG (cl m).1 (cl m).2.1 (cl m).2.2.1 w2 lg2) (exW (cl m).1 (cl m).2.1 (cl m).2.2.1 (cl m).2.2.2 w2 0) → EV mX10_script 7 0 0 47 [some (.ref (rf 10 0)), some (.int (nI m)), some (.int (nI (m + 1)))] [] (up2 f2 (32 * 10 + 10) (rf 10 0) (nI m)) fr a2 ar N (scQ (some (.int (nI m))) (exW (cl m).1 (cl m).2.1 (cl m).2.2.1 (cl m).2.2.2 w2) (exG (cl m).1 (cl m).2.1 (cl m).2.2.1 w2 lg2) (acU (decide (0 < m)) u) (acV (decide (0 < m)) u V w) im fl pl (nI m) f0 a0) := by
        intro f2 a2 hG hK2
        have hF2 := FR1_tr hF hG
        have hcc : up2 f2 (32 * 10 + 10) (rf 10 0) (nI m) (32 * 7 + 4) (rf 7 76) = nI c := by rw [up2_n _ _ (by decide)]; exact (hF2.1 _ _ (by decide)).trans g4
        have hK3 : K (up2 f2 (32 * 10 + 10) (rf 10 0) (nI m)) a2 (exW (cl m).1 (cl m).2.1 (cl m).2.2.1 (cl m).2.2.2 w2) (exG (cl m).1 (cl m).2.1 (cl m).2.2.1 w2 lg2) (exW (cl m).1 (cl m).2.1 (cl m).2.2.1 (cl m).2.2.2 w2 0) := K_fr (iv_mm tr.1.1) (fun f r p q => up2_n _ _ (fun e => by rw [e.2, rf_div (by decide)] at p; omega)) (fun _ _ _ => rfl) hK2
        have fin : ∀ lx, EV mX10_script 7 0 0 126 [some (.ref (rf 10 0)), some (.int (nI m)), lx] [] (up2 f2 (32 * 10 + 10) (rf 10 0) (nI m)) fr a2 ar N (scQ (some (.int (nI m))) (exW (cl m).1 (cl m).2.1 (cl m).2.2.1 (cl m).2.2.2 w2) (exG (cl m).1 (cl m).2.1 (cl m).2.2.1 w2 lg2) (acU (decide (0 < m)) u) (acV (decide (0 < m)) u V w) im fl pl (nI m) f0 a0) := fun lx => scr_126 cm sm cb hb hk iv (fun f r q => (up2_n _ _ (fun e => by rw [e.2, rf_div (by decide)] at q; omega)).trans (hF2.1 f r (by omega))) (fun a q => hF2.2 a (by omega)) hK3 (iv_mm tr.1.1) (by omega) (up2_s _ _ _ _) g3 g5 g6 k1 k2
        refine e_iload_n dX10_script_47 rfl rfl ?_
        refine e_aload_n dX10_script_48 rfl rfl ?_
        refine e_getR dX10_script_49 fl_X10_65 rfl (cx_7 cm) ?_
        refine e_getE dX10_script_52 fl_X10_187 rfl hcc ?_
        first | ((with_reducible refine mk_nn ?_); refine n_icmp_ge (tgt := 126) dX10_script_55 (by decide) (by omega) (by omega) (fun h55 => ?_) (fun h55 => ?_)) | refine e_icmp_ge (tgt := 126) dX10_script_55 (by decide) (fun h55 => ?_) (fun h55 => ?_)
        · try first | contradiction | omega
          all_goals
            exact fin _
        · try first | contradiction | omega
          all_goals
            refine e_aload_n dX10_script_58 rfl rfl ?_
            refine e_getE dX10_script_59 fl_X10_75 rfl (up2_s _ _ _ _) ?_
            refine e_iconst (v := -1) dX10_script_62 rfl ?_
            first | ((with_reducible refine mk_mo ?_); refine p_icmp_ne (tgt := 126) dX10_script_63 (by decide) (fun h63 => ?_) (fun h63 => ?_)) | ((with_reducible refine mk_ms ?_); refine s_icmp_ne (tgt := 126) dX10_script_63 (by decide) (by omega) (fun h63 => ?_) (fun h63 => ?_)) | ((with_reducible refine mk_mn ?_); refine q_icmp_ne (tgt := 126) dX10_script_63 (by decide) (by omega) (fun h63 => ?_) (fun h63 => ?_)) | ((with_reducible refine mk_nn ?_); refine n_icmp_ne (tgt := 126) dX10_script_63 (by decide) (by omega) (by omega) (fun h63 => ?_) (fun h63 => ?_)) | refine e_icmp_ne (tgt := 126) dX10_script_63 (by decide) (fun h63 => ?_) (fun h63 => ?_)
            · try first | contradiction | omega
              all_goals
                exact fin _
            · try first | contradiction | omega
              all_goals
                first | contradiction | exact absurd (by assumption) (nI_m1 (by omega))
      refine e_iload_n dX10_script_47 rfl rfl ?_
      refine e_aload_n dX10_script_48 rfl rfl ?_
      refine e_getR dX10_script_49 fl_X10_65 rfl (cx_7 cm) ?_
      refine e_getE dX10_script_52 fl_X10_187 rfl ((hF.1 _ _ (by decide)).trans g4) ?_
      first | ((with_reducible refine mk_nn ?_); refine n_icmp_ge (tgt := 126) dX10_script_55 (by decide) (by omega) (by omega) (fun h55 => ?_) (fun h55 => ?_)) | refine e_icmp_ge (tgt := 126) dX10_script_55 (by decide) (fun h55 => ?_) (fun h55 => ?_)
      · try first | contradiction | omega
        all_goals
          first | omega | exact absurd rfl h63
      · try first | contradiction | omega
        all_goals
          refine e_aload_n dX10_script_58 rfl rfl ?_
          refine e_getE dX10_script_59 fl_X10_75 rfl hx ?_
          refine e_iconst (v := -1) dX10_script_62 rfl ?_
          first | ((with_reducible refine mk_mo ?_); refine p_icmp_ne (tgt := 126) dX10_script_63 (by decide) (fun h63 => ?_) (fun h63 => ?_)) | ((with_reducible refine mk_ms ?_); refine s_icmp_ne (tgt := 126) dX10_script_63 (by decide) (by omega) (fun h63 => ?_) (fun h63 => ?_)) | ((with_reducible refine mk_mn ?_); refine q_icmp_ne (tgt := 126) dX10_script_63 (by decide) (by omega) (fun h63 => ?_) (fun h63 => ?_)) | ((with_reducible refine mk_nn ?_); refine n_icmp_ne (tgt := 126) dX10_script_63 (by decide) (by omega) (by omega) (fun h63 => ?_) (fun h63 => ?_)) | refine e_icmp_ne (tgt := 126) dX10_script_63 (by decide) (fun h63 => ?_) (fun h63 => ?_)
          · try first | contradiction | omega
            all_goals
              first | omega | exact absurd rfl h63
          · try first | contradiction | omega
            all_goals
              refine e_aload_n dX10_script_66 rfl rfl ?_
              refine e_aload_n dX10_script_67 rfl rfl ?_
              refine e_getR dX10_script_68 fl_X10_65 rfl (cx_7 cm) ?_
              refine e_getR dX10_script_71 fl_X10_190 rfl (cs_vrb cm) ?_
              refine e_iload_n dX10_script_74 rfl rfl ?_
              refine e_iadE _ dX10_script_75 ⟨by decide, by decide⟩ rfl rfl (by simp only [lenK]; omega) hv1 ?_
              refine e_aload_n dX10_script_76 rfl rfl ?_
              refine e_getR dX10_script_77 fl_X10_65 rfl (cx_7 cm) ?_
              refine e_iload_n dX10_script_80 rfl rfl ?_
              refine e_iconst (v := nI 0) dX10_script_81 rfl ?_
              refine x_V2 (M' := mX7_numberOf) dX10_script_82 ml_X10_193 ok_X7_numberOf (by decide) rfl im_X7_numberOf se_X7_numberOf (ct_X7_numberOf cm (by omega) _ hn0) (Nat.le_of_ble_eq_true rfl) (by decide) (Nat.le_of_ble_eq_true rfl) ?_
              refine e_aload_n dX10_script_85 rfl rfl ?_
              refine e_getR dX10_script_86 fl_X10_65 rfl (cx_7 cm) ?_
              refine e_iload_n dX10_script_89 rfl rfl ?_
              refine e_iconst (v := nI 1) dX10_script_90 rfl ?_
              refine x_V2 (M' := mX7_numberOf) dX10_script_91 ml_X10_193 ok_X7_numberOf (by decide) rfl im_X7_numberOf se_X7_numberOf (ct_X7_numberOf cm (by omega) _ hn1) (Nat.le_of_ble_eq_true rfl) (by decide) (Nat.le_of_ble_eq_true rfl) ?_
              refine e_aload_n dX10_script_94 rfl rfl ?_
              refine e_getR dX10_script_95 fl_X10_65 rfl (cx_7 cm) ?_
              refine e_iload_n dX10_script_98 rfl rfl ?_
              refine e_iconst (v := nI 2) dX10_script_99 rfl ?_
              refine x_V2 (M' := mX7_numberOf) dX10_script_100 ml_X10_193 ok_X7_numberOf (by decide) rfl im_X7_numberOf se_X7_numberOf (ct_X7_numberOf cm (by omega) _ hn2) (Nat.le_of_ble_eq_true rfl) (by decide) (Nat.le_of_ble_eq_true rfl) ?_
              refine e_callV (M' := mX10_runClause) (k' := 0) (z' := 0) (k2 := 0) (z2 := 0) (As := [_, _, _, _]) dX10_script_103 ml_X10_196 ok_X10_runClause (by decide) rfl im_X10_runClause se_X10_runClause (ct_rc cm gw hK h01 (fun j hj => by have := hw j hj; omega) hv.2.1 _ _ _) rfl rfl (Nat.le_of_ble_eq_true rfl) (by decide) ⟨by omega, by omega⟩ (Nat.le_of_ble_eq_true rfl) (fun r1 f2 g2 a2 q2 n2 hI => ?_)
              obtain ⟨i1, i2, i3, i4, hG, hK2⟩ := hI
              rw [i1, i2, i3, i4]
              clear i1 i2 i3 i4 r1 g2 q2 n2
              dsimp only [Option.toList, List.cons_append, List.nil_append]
              rw [hB]
              first | ((with_reducible refine mk_b ?_); refine b_if_eq (tgt := 115) dX10_script_106 (by decide) (fun h106 => ?_) (fun h106 => ?_)) | ((with_reducible refine mk_ll ?_); refine m_if_eq (tgt := 115) dX10_script_106 (by decide) (by omega) (by omega) (fun h106 => ?_) (fun h106 => ?_)) | ((with_reducible refine mk_lc ?_); refine l_if_eq (tgt := 115) dX10_script_106 (by decide) (fun h106 => ?_) (fun h106 => ?_)) | ((with_reducible refine mk_n ?_); refine n_if_eq (tgt := 115) dX10_script_106 (by decide) (by omega) (fun h106 => ?_) (fun h106 => ?_)) | refine e_if_eq (tgt := 115) dX10_script_106 (by decide) (fun h106 => ?_) (fun h106 => ?_)
              · try first | contradiction | omega | (simp only [decide_eq_true_eq, decide_eq_false_iff_not] at h106; omega)
                all_goals
                  refine e_aload_n dX10_script_115 rfl rfl ?_
                  refine e_iload_n dX10_script_116 rfl rfl ?_
                  refine e_putI dX10_script_117 fl_X10_75 rfl rfl rfl rfl ?_
                  first | refine n_inc dX10_script_120 rfl (Nat.le_of_ble_eq_true rfl) rfl ?_ | refine e_iinc dX10_script_120 rfl rfl (Nat.le_of_ble_eq_true rfl) rfl ?_
                  refine e_goto (tgt := 47) dX10_script_123 (by decide) ?_
                  exact hq f2 a2 hG hK2
              · try first | contradiction | omega | (simp only [decide_eq_true_eq, decide_eq_false_iff_not] at h106; omega)
                all_goals
                  contradiction
/-- from behind the parse on -/
theorem scr_20 {fi : FI} {fr : FR} {ai : FI} {ar : FR} {N : Nat} {w lg : Nat → Nat} {u : Nat} {V : Nat → Nat → Nat} {im : Option ((Nat → Nat) × (Nat → Nat))} {f0 a0 : FI} {c : Nat} {fl pl : Int32} {cl : Nat → Nat × Int32 × Int32 × Int32} (cs : CLS fi fr ai ar N w lg (w 0) u V im) (gw : GW w) (g3 : fi (32 * 7 + 3) (rf 7 76) = nI 0) (g4 : fi (32 * 7 + 4) (rf 7 76) = nI c) (g5 : fi (32 * 7 + 5) (rf 7 76) = fl) (g6 : fi (32 * 7 + 6) (rf 7 76) = pl) (gx : fi (32 * 10 + 10) (rf 10 0) = -1) (hc40 : c ≤ 40) (k1 : ∀ f r, 80 ≤ r / 64 → r / 64 < 89 → fi f r = f0 f r) (k2 : ∀ a, 80 ≤ a / 64 → a / 64 < 89 → ai a = a0 a)
    (hcl : fl = nI 0 → ∀ i, i < c → ai (rf 31 79) i = nI (cl i).1 ∧ (cl i).1 < 15 ∧ ai (rf 30 78) (i * 3 + 0) = (cl i).2.1 ∧ ai (rf 30 78) (i * 3 + 1) = (cl i).2.2.1 ∧ ai (rf 30 78) (i * 3 + 2) = (cl i).2.2.2) (he : fl = nI 0 → w 0 + evS cl c 0 < 1999) (hw : ∀ j, j < 1000 → w (106 + j) + 82 ≤ 100000) :
    EV mX10_script 7 57 8609 20 [some (.ref (rf 10 0)), none, none] [] fi fr ai ar N (if fl = nI 0 then scQ (some (.int (nI (exR cl c 0 w).1))) (exR cl c 0 w).2 (exRG cl c 0 w lg) (acU (decide (0 < (exR cl c 0 w).1)) u) (acV (decide (0 < (exR cl c 0 w).1)) u V w) im fl pl (if (exR cl c 0 w).1 < c then nI (exR cl c 0 w).1 else -1) f0 a0 else scQ (some (.int (-1))) w lg u V im fl pl (-1) f0 a0) := by
  have cs0 := cs
  obtain ⟨cm, sm, hK, B0, t, cb⟩ := cs
  by_cases hfl : fl = nI 0
  · rw [if_pos hfl]
    have hcl := hcl hfl
    have he := he hfl
    have nxt : EV mX10_script 7 57 8609 32 [some (.ref (rf 10 0)), none, none] [] fi fr ai ar N (scQ (some (.int (nI (exR cl c 0 w).1))) (exR cl c 0 w).2 (exRG cl c 0 w lg) (acU (decide (0 < (exR cl c 0 w).1)) u) (acV (decide (0 < (exR cl c 0 w).1)) u V w) im fl pl (if (exR cl c 0 w).1 < c then nI (exR cl c 0 w).1 else -1) f0 a0) := by
      refine e_aload_n dX10_script_32 rfl rfl ?_
      refine e_getR dX10_script_33 fl_X10_58 rfl (cx_6 cm) ?_
      refine e_aload_n dX10_script_36 rfl rfl ?_
      refine e_getR dX10_script_37 fl_X10_18 rfl (cx_0 cm) ?_
      refine e_callV (M' := mX0_save) (k' := 57) (z' := 8609) (k2 := 0) (z2 := 0) (As := [_]) dX10_script_40 ml_X10_126 ok_X0_save (by decide) rfl im_X0_save se_X0_save (ct_X0_save cm sm cb.1 gw.1 hK.1 cb.2.1 cb.2.2.2.1) rfl rfl (Nat.le_of_ble_eq_true rfl) (by decide) ⟨by omega, by omega⟩ (Nat.le_of_ble_eq_true rfl) (fun r1 f1 g1 a1 q1 n1 hI => ?_)
      obtain ⟨i1, B, cm1, sm1, al, hB, hb, hk, fa⟩ := hI
      rw [i1]
      clear i1
      dsimp only [Option.toList, List.nil_append]
      refine e_iconst (v := nI 0) dX10_script_43 rfl ?_
      refine e_istore_n dX10_script_44 rfl (Nat.le_of_ble_eq_true rfl) rfl ?_
      refine e_iconst (v := nI 0) dX10_script_45 rfl ?_
      refine e_istore_n dX10_script_46 rfl (Nat.le_of_ble_eq_true rfl) rfl ?_
      exact scr_loop cm1 sm1 (CB_sv cb al hB fa) hb hk gw.1 ((fa.1 _ _ (by decide)).trans g3) ((fa.1 _ _ (by decide)).trans g4) ((fa.1 _ _ (by decide)).trans g5) ((fa.1 _ _ (by decide)).trans g6) ((fa.1 _ _ (by decide)).trans gx) hc40 (fun i hi => by rw [fa.2.1 _ (by decide), fa.2.1 _ (by decide)]; exact hcl i hi) (fun f r p q => (fa.1 f r q).trans (k1 f r p q)) (fun a p q => (fa.2.1 a q).trans (k2 a p q)) c 0 f1 a1 w lg (by omega) (K_fr (iv_mm gw.1) (fun f r a b => fa.1 f r (by omega)) (fun a x y => fa.2.1 a (by omega)) hK) gw FR1_rf he (fun j hj => by have := hw j hj; omega)
    refine e_aload_n dX10_script_20 rfl rfl ?_
    refine e_getR dX10_script_21 fl_X10_65 rfl (cx_7 cm) ?_
    refine e_getE dX10_script_24 fl_X10_184 rfl g5 ?_
    first | ((with_reducible refine mk_b ?_); refine b_if_eq (tgt := 32) dX10_script_27 (by decide) (fun h27 => ?_) (fun h27 => ?_)) | ((with_reducible refine mk_ll ?_); refine m_if_eq (tgt := 32) dX10_script_27 (by decide) (by omega) (by omega) (fun h27 => ?_) (fun h27 => ?_)) | ((with_reducible refine mk_lc ?_); refine l_if_eq (tgt := 32) dX10_script_27 (by decide) (fun h27 => ?_) (fun h27 => ?_)) | ((with_reducible refine mk_n ?_); refine n_if_eq (tgt := 32) dX10_script_27 (by decide) (by omega) (fun h27 => ?_) (fun h27 => ?_)) | refine e_if_eq (tgt := 32) dX10_script_27 (by decide) (fun h27 => ?_) (fun h27 => ?_)
    · try first | contradiction | omega | (simp only [decide_eq_true_eq, decide_eq_false_iff_not] at h27; omega)
      all_goals
        exact nxt
    · try first | contradiction | omega | (simp only [decide_eq_true_eq, decide_eq_false_iff_not] at h27; omega)
      all_goals
        exact absurd hfl (by assumption)
  · rw [if_neg hfl]
    refine e_aload_n dX10_script_20 rfl rfl ?_
    refine e_getR dX10_script_21 fl_X10_65 rfl (cx_7 cm) ?_
    refine e_getE dX10_script_24 fl_X10_184 rfl g5 ?_
    first | ((with_reducible refine mk_b ?_); refine b_if_eq (tgt := 32) dX10_script_27 (by decide) (fun h27 => ?_) (fun h27 => ?_)) | ((with_reducible refine mk_ll ?_); refine m_if_eq (tgt := 32) dX10_script_27 (by decide) (by omega) (by omega) (fun h27 => ?_) (fun h27 => ?_)) | ((with_reducible refine mk_lc ?_); refine l_if_eq (tgt := 32) dX10_script_27 (by decide) (fun h27 => ?_) (fun h27 => ?_)) | ((with_reducible refine mk_n ?_); refine n_if_eq (tgt := 32) dX10_script_27 (by decide) (by omega) (fun h27 => ?_) (fun h27 => ?_)) | refine e_if_eq (tgt := 32) dX10_script_27 (by decide) (fun h27 => ?_) (fun h27 => ?_)
    · try first | contradiction | omega | (simp only [decide_eq_true_eq, decide_eq_false_iff_not] at h27; omega)
      all_goals
        exact absurd (by assumption) hfl
    · try first | contradiction | omega | (simp only [decide_eq_true_eq, decide_eq_false_iff_not] at h27; omega)
      all_goals
        refine e_iconst (v := -1) dX10_script_30 rfl ?_
        refine e_ret (some _) rfl (r_int dX10_script_31 rfl) ?_
        exact ⟨rfl, cs0, g3, g5, g6, gx, k1, k2⟩
theorem ct_X10_script {fi : FI} {fr : FR} {ai : FI} {ar : FR} {N : Nat} {w lg : Nat → Nat} {u : Nat} {V : Nat → Nat → Nat} {im : Option ((Nat → Nat) × (Nat → Nat))} {tp : Nat → Nat} {t : Nat} {cl : Nat → Nat × Int32 × Int32 × Int32} (cs : CLS fi fr ai ar N w lg (w 0) u V im) (gw : GW w) (ht : fi (32 * 7 + 3) (rf 7 76) = nI t) (ht4 : t ≤ 400) (hb : ∀ i, tp i < 256) (hT : ∀ i, i < t → ai (rf 29 77) i = nI (tp i))
    (hcl : (parS tp t).2.2.1 = nI 0 → ∀ i, i < (parS tp t).2.1 → parA tp t ai (rf 31 79) i = nI (cl i).1 ∧ (cl i).1 < 15 ∧ parA tp t ai (rf 30 78) (i * 3 + 0) = (cl i).2.1 ∧ parA tp t ai (rf 30 78) (i * 3 + 1) = (cl i).2.2.1 ∧ parA tp t ai (rf 30 78) (i * 3 + 2) = (cl i).2.2.2) (he : (parS tp t).2.2.1 = nI 0 → w 0 + evS cl (parS tp t).2.1 0 < 1999) (hw : ∀ j, j < 1000 → w (106 + j) + 82 ≤ 100000) :
    CP mX10_script 7 57 8609 [.ref (rf 10 0)] fi fr ai ar N (if (parS tp t).2.2.1 = nI 0 then scQ (some (.int (nI (exR cl (parS tp t).2.1 0 w).1))) (exR cl (parS tp t).2.1 0 w).2 (exRG cl (parS tp t).2.1 0 w lg) (acU (decide (0 < (exR cl (parS tp t).2.1 0 w).1)) u) (acV (decide (0 < (exR cl (parS tp t).2.1 0 w).1)) u V w) im (parS tp t).2.2.1 (parS tp t).2.2.2 (if (exR cl (parS tp t).2.1 0 w).1 < (parS tp t).2.1 then nI (exR cl (parS tp t).2.1 0 w).1 else -1) fi ai else scQ (some (.int (-1))) w lg u V im (parS tp t).2.2.1 (parS tp t).2.2.2 (-1) fi ai) := by
  have cm := cs.1
  have hle : (parS tp t).2.1 ≤ 40 := (psL_le 41 (s := par0 tp t) (skb_le tp (Nat.zero_le t)).2 (Nat.zero_le _)).2
  generalize hQ : (if (parS tp t).2.2.1 = nI 0 then scQ (some (.int (nI (exR cl (parS tp t).2.1 0 w).1))) (exR cl (parS tp t).2.1 0 w).2 (exRG cl (parS tp t).2.1 0 w lg) (acU (decide (0 < (exR cl (parS tp t).2.1 0 w).1)) u) (acV (decide (0 < (exR cl (parS tp t).2.1 0 w).1)) u V w) im (parS tp t).2.2.1 (parS tp t).2.2.2 (if (exR cl (parS tp t).2.1 0 w).1 < (parS tp t).2.1 then nI (exR cl (parS tp t).2.1 0 w).1 else -1) fi ai else scQ (some (.int (-1))) w lg u V im (parS tp t).2.2.1 (parS tp t).2.2.2 (-1) fi ai) = Q
  change EV mX10_script 7 57 8609 0 [some (.ref (rf 10 0)), none, none] [] fi fr ai ar N Q
  have nxt : EV mX10_script 7 57 8609 20 [some (.ref (rf 10 0)), none, none] [] (up2 (qsF (up2 fi (32 * 10 + 10) (rf 10 0) (-1)) (parS tp t)) (32 * 7 + 3) (rf 7 76) (nI 0)) fr (parA tp t ai) ar N Q := by
    subst hQ
    have q1 : ∀ f r, r ≠ rf 7 76 → r ≠ rf 10 0 → up2 (qsF (up2 fi (32 * 10 + 10) (rf 10 0) (-1)) (parS tp t)) (32 * 7 + 3) (rf 7 76) (nI 0) f r = fi f r := fun f r h1 h2 => by
      rw [up2_n _ _ (fun e => h1 e.2)]
      unfold qsF
      rw [if_neg h1, up2_n _ _ (fun e => h2 e.2)]
    have q2 : ∀ a, a ≠ rf 30 78 → a ≠ rf 31 79 → parA tp t ai a = ai a := fun a h1 h2 => psA_tx h1 h2 41
    refine scr_20 (c := (parS tp t).2.1) (CLS_ts cs (iv_mm gw.1) (fun f r hr => q1 f r (fun e => by rw [e, rf_div (by decide)] at hr; omega) (fun e => by rw [e, rf_div (by decide)] at hr; omega)) (fun a hr => q2 a (fun e => by rw [e, rf_div (by decide)] at hr; omega) (fun e => by rw [e, rf_div (by decide)] at hr; omega))) gw (up2_s _ _ _ _) ((up2_n _ _ (by decide)).trans rfl) ((up2_n _ _ (by decide)).trans rfl) ((up2_n _ _ (by decide)).trans rfl) ((up2_n _ _ (by decide)).trans ?_) hle (fun f r p q => q1 f r (fun e => by rw [e, rf_div (by decide)] at p; omega) (fun e => by rw [e, rf_div (by decide)] at p; omega)) (fun a p q => q2 a (fun e => by rw [e, rf_div (by decide)] at p; omega) (fun e => by rw [e, rf_div (by decide)] at p; omega)) hcl he hw
    show (if rf 10 0 = rf 7 76 then _ else up2 fi (32 * 10 + 10) (rf 10 0) (-1) (32 * 10 + 10) (rf 10 0)) = -1
    rw [if_neg (by decide)]
    exact up2_s _ _ _ _
  refine e_aload_n dX10_script_0 rfl rfl ?_
  refine e_iconst (v := -1) dX10_script_1 rfl ?_
  refine e_putI dX10_script_2 fl_X10_75 rfl rfl rfl rfl ?_
  refine e_aload_n dX10_script_5 rfl rfl ?_
  refine e_getR dX10_script_6 fl_X10_65 rfl (cx_7 cm) ?_
  refine y_V0 (M' := mX7_parse) dX10_script_9 ml_X10_181 ok_X7_parse (by decide) rfl im_X7_parse se_X7_parse (ct_X7_parse cm ((up2_n _ _ (by decide)).trans ht) ht4 hb hT) (Nat.le_of_ble_eq_true rfl) (by decide) (Nat.le_of_ble_eq_true rfl) ?_
  refine e_aload_n dX10_script_12 rfl rfl ?_
  refine e_getR dX10_script_13 fl_X10_65 rfl (cx_7 cm) ?_
  refine e_iconst (v := nI 0) dX10_script_16 rfl ?_
  refine e_putI dX10_script_17 fl_X10_174 rfl rfl rfl rfl ?_
  exact nxt
