theorem bl0 {X : Bool} (h : X = false) : some (Value.int (nI 0)) = some (.int (bI X)) := by rw [h]; rfl
theorem bl1 {X : Bool} (h : X = true) : some (Value.int (nI 1)) = some (.int (bI X)) := by rw [h]; rfl
theorem oI_s (i : Nat) : oI (some i) = nI i := rfl
def mdO (w : Nat → Nat) (i : Nat) : Option Nat := if wtF w i = 0 then none else (fO (fun j => decide (wtF w i ≤ 2 * rs (fun k => w (106 + k)) (w (10 + i)) (j + 1))) (enF w i - w (10 + i) - 1)).map (fun j => w (10 + i) + 1 + j)
def csB (w : Nat → Nat) (i : Nat) (y : Int32) : Bool := decide (w 1 < 32) && (mvL w (w (10 + i))).isNone && decide (((w (10 + i) + 1 : Nat) : Int) ≤ y.toInt ∧ y.toInt ≤ ((enF w i - 1 : Nat) : Int))
def inT (w : Nat → Nat) (m k : Nat) : Bool := (fO (fun j => decide (w (7694 + 72 * m + 12 + j) = k)) (w (7694 + 72 * m + 6))).isSome
def ctB (w : Nat → Nat) (o : Option Nat) : Bool := match o with
  | none => false
  | some m => decide (w (7694 + 72 * m + 0) ≤ 2)
def fzM (w : Nat → Nat) (m k : Nat) : Bool := decide (w (7694 + 72 * m + 0) = 3) || (decide (w (7694 + 72 * m + 0) ≤ 2) && decide (w (7694 + 72 * m + 6) = 60) && !inT w m k)
def fzK (w : Nat → Nat) (k : Nat) : Bool := match mvL w (w (10 + spW w k)) with
  | none => false
  | some m => fzM w m k
def cF (w : Nat → Nat) (c k : Nat) : Nat → Nat
  | 0 => 0
  | i + 1 => if w (7106 + 98 * c + 2 + (i + 1)) ≤ k then i + 1 else cF w c k i
theorem cF_s (w : Nat → Nat) (c k i : Nat) : cF w c k (i + 1) = if w (7106 + 98 * c + 2 + (i + 1)) ≤ k then i + 1 else cF w c k i := rfl
theorem cF_le (w : Nat → Nat) (c k : Nat) : ∀ i, cF w c k i ≤ i
  | 0 => Nat.le_refl 0
  | i + 1 => by
    rw [cF_s]
    split
    · exact Nat.le_refl _
    · exact Nat.le_trans (cF_le w c k i) (Nat.le_succ i)
def cW (w : Nat → Nat) (c k : Nat) : Nat := cF w c k (w (7106 + 98 * c + 1) - 1)
def anF (w : Nat → Nat) (c k : Nat) : Nat :=
  if w (7106 + 98 * c + 0) = 0 then 1
  else if w (4 + w (7106 + 98 * c + 34 + cW w c k)) = 0 then 2
  else if w (7106 + 98 * c + 34 + cW w c k) = w (42 + spW w k) ∧ w (7106 + 98 * c + 66 + cW w c k) = w (74 + spW w k) then 0 else 3
theorem cW_lt {w : Nat → Nat} (h : Inv w) {c : Nat} (hc : c < 6) (hn : ¬ w (7106 + 98 * c + 0) = 0) (k : Nat) : cW w c k < w (7106 + 98 * c + 1) := by
  have h1 := cF_le w c k (w (7106 + 98 * c + 1) - 1)
  have h2 := (iv_cl h hc).2.1
  have h3 : ¬ w (7106 + 98 * c + 1) = 0 := fun q => hn (h2.mpr q)
  unfold cW
  omega
def csT (w : Nat → Nat) (x : Int32) : Bool := inR x (w 3) && goB w x.toNatClampNeg && decide (w (7694 + 72 * x.toNatClampNeg + 7) = 0)
def auB (w : Nat → Nat) (m : Nat) : Bool := decide (w (4 + w (7694 + 72 * m + 3)) = 1) && decide (w (4 + w (7694 + 72 * m + 4)) = 1)
def mhB (w : Nat → Nat) (s k : Nat) : Bool := match mvL w (w (10 + spW w k)) with
  | none => false
  | some m => decide (w (7694 + 72 * m + 3) = s) || decide (w (7694 + 72 * m + 4) = s)
theorem ct_X11_middleIn {fi : FI} {fr : FR} {ai : FI} {ar : FR} {N : Nat} {w : Nat → Nat} (sm : SM fr) (iv : Inv w) {i : Nat} (hi : i < w 1) : CP mX11_middleIn 2 0 0 [.ref (rf 11 80), .int (nI i)] fi fr (mW ai w) ar N (xQ (some (.int (oI (mdO w i)))) fi fr (mW ai w) ar N) := by
  obtain ⟨sW, sA, sK, sU, sC, sKC, sT, sCl⟩ := id sm
  have h1 := iv_n iv
  have h3 := iv_mm iv
  have he := enF_le iv hi
  have hW := wtF_le iv hi
  change EV mX11_middleIn 2 0 0 0 [some (.ref (rf 11 80)), some (.int (nI i)), none, none, none, none, none] [] fi fr (mW ai w) ar N (xQ (some (.int (oI (mdO w i)))) fi fr (mW ai w) ar N)
  by_cases h0 : wtF w i = 0
  · have e : mdO w i = none := by unfold mdO; rw [if_pos h0]
    rw [e]
    refine e_aload_n dX11_middleIn_0 rfl rfl ?_
    refine e_iload_n dX11_middleIn_1 rfl rfl ?_
    refine x_V1 (M' := mX11_weightOf) dX11_middleIn_2 ml_X11_73 ok_X11_weightOf (by decide) rfl im_X11_weightOf se_X11_weightOf (ct_X11_weightOf ‹_› ‹_› (by omega)) (Nat.le_of_ble_eq_true rfl) (by decide) (Nat.le_of_ble_eq_true rfl) ?_
    refine e_lstore_n dX11_middleIn_5 rfl (Nat.le_of_ble_eq_true rfl) rfl ?_
    refine e_lconst (v := lN 0) dX11_middleIn_6 rfl ?_
    refine e_lstore dX11_middleIn_7 (Nat.le_of_ble_eq_true rfl) rfl ?_
    refine e_lload_n dX11_middleIn_9 rfl rfl ?_
    refine e_lconst (v := lN 0) dX11_middleIn_10 rfl ?_
    refine e_lcmp dX11_middleIn_11 ?_
    first | ((with_reducible refine mk_b ?_); refine b_if_ne (tgt := 17) dX11_middleIn_12 (by decide) (fun h12 => ?_) (fun h12 => ?_)) | ((with_reducible refine mk_ll ?_); refine m_if_ne (tgt := 17) dX11_middleIn_12 (by decide) (by omega) (by omega) (fun h12 => ?_) (fun h12 => ?_)) | ((with_reducible refine mk_lc ?_); refine l_if_ne (tgt := 17) dX11_middleIn_12 (by decide) (fun h12 => ?_) (fun h12 => ?_)) | ((with_reducible refine mk_n ?_); refine n_if_ne (tgt := 17) dX11_middleIn_12 (by decide) (by omega) (fun h12 => ?_) (fun h12 => ?_)) | refine e_if_ne (tgt := 17) dX11_middleIn_12 (by decide) (fun h12 => ?_) (fun h12 => ?_)
    · try first | contradiction | omega
      all_goals
        refine e_aload_n dX11_middleIn_17 rfl rfl ?_
        refine e_getR dX11_middleIn_18 fl_X11_7 rfl (by assumption) ?_
        refine e_bipush (v := nI 10) dX11_middleIn_21 rfl ?_
        refine e_iload_n dX11_middleIn_23 rfl rfl ?_
        first | ((with_reducible refine mk_nn ?_); refine n_iadd dX11_middleIn_24 ?_) | refine e_iadd dX11_middleIn_24 ?_
        first | ((with_reducible refine mk_ldw ?_); refine e_ldw dX11_middleIn_25 (by omega) ?_) | refine e_iald _ dX11_middleIn_25 ⟨by decide, by decide⟩ rfl rfl (by simp only [lenK]; omega) ?_
        refine e_iconst (v := nI 1) dX11_middleIn_26 rfl ?_
        first | ((with_reducible refine mk_nn ?_); refine n_iadd dX11_middleIn_27 ?_) | refine e_iadd dX11_middleIn_27 ?_
        refine e_istore dX11_middleIn_28 (Nat.le_of_ble_eq_true rfl) rfl ?_
        omega
    · try first | contradiction | omega
      all_goals
        refine e_iconst (v := -1) dX11_middleIn_15 rfl ?_
        refine e_ret (some _) rfl (r_int dX11_middleIn_16 rfl) ?_
        exact xq (by first | rfl | simp_all [bI_t, bI_f]) rfl rfl rfl rfl rfl
  · skip
    have key := ev_up (P := (fun j => (∀ q, q < j → (fun j => decide (wtF w i ≤ 2 * rs (fun k => w (106 + k)) (w (10 + i)) (j + 1))) q = false) → EV mX11_middleIn 2 0 0 30 [some (.ref (rf 11 80)), some (.int (nI i)), some (.long (lN (wtF w i))), none, some (.long (lN (rs (fun k => w (106 + k)) (w (10 + i)) j))), none, some (.int (nI (w (10 + i) + 1 + j)))] [] fi fr (mW ai w) ar N (xQ (some (.int (oI (mdO w i)))) fi fr (mW ai w) ar N))) (enF w i - w (10 + i) - 1) (fun j hj ih hn => by
      have hw := iv_wt iv (k := w (10 + i) + j) (by omega)
      have hr := rs_le (f := fun k => w (106 + k)) (a := w (10 + i)) (B := 100000) (j + 1) (fun q hq => iv_wt iv (by omega))
      have e1 : w (10 + i) + 1 + j - 1 = w (10 + i) + j := by omega
      have e2 : 106 + (w (10 + i) + 1 + j) - 1 = 106 + (w (10 + i) + j) := by omega
      rw [rs_s] at hr
      refine e_iload dX11_middleIn_30 rfl ?_
      refine e_aload_n dX11_middleIn_32 rfl rfl ?_
      refine e_iload_n dX11_middleIn_33 rfl rfl ?_
      refine x_V1 (M' := mX11_endOf) dX11_middleIn_34 ml_X11_70 ok_X11_endOf (by decide) rfl im_X11_endOf se_X11_endOf (ct_X11_endOf ‹_› ‹_› (by omega)) (Nat.le_of_ble_eq_true rfl) (by decide) (Nat.le_of_ble_eq_true rfl) ?_
      first | ((with_reducible refine mk_nn ?_); refine n_icmp_ge (tgt := 78) dX11_middleIn_37 (by decide) (by omega) (by omega) (fun h37 => ?_) (fun h37 => ?_)) | refine e_icmp_ge (tgt := 78) dX11_middleIn_37 (by decide) (fun h37 => ?_) (fun h37 => ?_)
      · try first | contradiction | omega
        all_goals
          refine e_iconst (v := -1) dX11_middleIn_78 rfl ?_
          refine e_ret (some _) rfl (r_int dX11_middleIn_79 rfl) ?_
          refine xq ?_ rfl rfl rfl rfl rfl
          unfold mdO
          rw [if_neg h0, fO_eq (i := j) hn (decide_eq_true (by rw [rs_s]; omega)) hj]
          rfl
      · try first | contradiction | omega
        all_goals
          refine e_lload dX11_middleIn_40 rfl ?_
          refine e_aload_n dX11_middleIn_42 rfl rfl ?_
          refine e_getR dX11_middleIn_43 fl_X11_7 rfl (by assumption) ?_
          refine e_bipush (v := nI 106) dX11_middleIn_46 rfl ?_
          refine e_iload dX11_middleIn_48 rfl ?_
          first | ((with_reducible refine mk_nn ?_); refine n_iadd dX11_middleIn_50 ?_) | refine e_iadd dX11_middleIn_50 ?_
          refine e_iconst (v := nI 1) dX11_middleIn_51 rfl ?_
          first | ((with_reducible refine mk_nn ?_); refine n_isub dX11_middleIn_52 (by omega) ?_) | refine e_isub dX11_middleIn_52 ?_
          rw [e2]
          first | ((with_reducible refine mk_ldw ?_); refine e_ldw dX11_middleIn_53 (by omega) ?_) | refine e_iald _ dX11_middleIn_53 ⟨by decide, by decide⟩ rfl rfl (by simp only [lenK]; omega) ?_
          first | ((with_reducible refine mk_n ?_); refine n_i2l dX11_middleIn_54 (by omega) ?_) | refine e_i2l dX11_middleIn_54 ?_
          first | ((with_reducible refine mk_LL ?_); refine n_ladd dX11_middleIn_55 ?_) | refine e_ladd dX11_middleIn_55 ?_
          refine e_lstore dX11_middleIn_56 (Nat.le_of_ble_eq_true rfl) rfl ?_
          refine e_ldc2 dX11_middleIn_58 co_X11_77 ?_
          refine e_lload dX11_middleIn_61 rfl ?_
          first | ((with_reducible refine mk_LL ?_); refine n_lmul dX11_middleIn_63 ?_) | refine e_lmul dX11_middleIn_63 ?_
          refine e_lload_n dX11_middleIn_64 rfl rfl ?_
          refine e_lcmp dX11_middleIn_65 ?_
          first | ((with_reducible refine mk_ll ?_); refine m_if_lt (tgt := 72) dX11_middleIn_66 (by decide) (by omega) (by omega) (fun h66 => ?_) (fun h66 => ?_)) | ((with_reducible refine mk_lc ?_); refine l_if_lt (tgt := 72) dX11_middleIn_66 (by decide) (fun h66 => ?_) (fun h66 => ?_)) | ((with_reducible refine mk_n ?_); refine n_if_lt (tgt := 72) dX11_middleIn_66 (by decide) (by omega) (fun h66 => ?_) (fun h66 => ?_)) | refine e_if_lt (tgt := 72) dX11_middleIn_66 (by decide) (fun h66 => ?_) (fun h66 => ?_)
          · try first | contradiction | omega
            all_goals
              first | refine n_inc dX11_middleIn_72 rfl (Nat.le_of_ble_eq_true rfl) rfl ?_ | refine e_iinc dX11_middleIn_72 rfl rfl (Nat.le_of_ble_eq_true rfl) rfl ?_
              refine e_goto (tgt := 30) dX11_middleIn_75 (by decide) ?_
              refine ih (fun q hq => ?_)
              by_cases hqj : q = j
              · subst hqj; exact decide_eq_false (by rw [rs_s]; omega)
              · exact hn q (by omega)
          · try first | contradiction | omega
            all_goals
              refine e_iload dX11_middleIn_69 rfl ?_
              refine e_ret (some _) rfl (r_int dX11_middleIn_71 rfl) ?_
              refine xq ?_ rfl rfl rfl rfl rfl
              unfold mdO
              rw [if_neg h0, fO_eq (i := j) hn (decide_eq_true (by rw [rs_s]; omega)) hj]
              rfl
      ) (fun hn => by
      refine e_iload dX11_middleIn_30 rfl ?_
      refine e_aload_n dX11_middleIn_32 rfl rfl ?_
      refine e_iload_n dX11_middleIn_33 rfl rfl ?_
      refine x_V1 (M' := mX11_endOf) dX11_middleIn_34 ml_X11_70 ok_X11_endOf (by decide) rfl im_X11_endOf se_X11_endOf (ct_X11_endOf ‹_› ‹_› (by omega)) (Nat.le_of_ble_eq_true rfl) (by decide) (Nat.le_of_ble_eq_true rfl) ?_
      first | ((with_reducible refine mk_nn ?_); refine n_icmp_ge (tgt := 78) dX11_middleIn_37 (by decide) (by omega) (by omega) (fun h37 => ?_) (fun h37 => ?_)) | refine e_icmp_ge (tgt := 78) dX11_middleIn_37 (by decide) (fun h37 => ?_) (fun h37 => ?_)
      · try first | contradiction | omega
        all_goals
          refine e_iconst (v := -1) dX11_middleIn_78 rfl ?_
          refine e_ret (some _) rfl (r_int dX11_middleIn_79 rfl) ?_
          refine xq ?_ rfl rfl rfl rfl rfl
          unfold mdO
          rw [if_neg h0, fO_no hn]
          rfl
      · try first | contradiction | omega
        all_goals
          refine e_lload dX11_middleIn_40 rfl ?_
          refine e_aload_n dX11_middleIn_42 rfl rfl ?_
          refine e_getR dX11_middleIn_43 fl_X11_7 rfl (by assumption) ?_
          refine e_bipush (v := nI 106) dX11_middleIn_46 rfl ?_
          refine e_iload dX11_middleIn_48 rfl ?_
          first | ((with_reducible refine mk_nn ?_); refine n_iadd dX11_middleIn_50 ?_) | refine e_iadd dX11_middleIn_50 ?_
          refine e_iconst (v := nI 1) dX11_middleIn_51 rfl ?_
          first | ((with_reducible refine mk_nn ?_); refine n_isub dX11_middleIn_52 (by omega) ?_) | refine e_isub dX11_middleIn_52 ?_
          rw [e2]
          first | ((with_reducible refine mk_ldw ?_); refine e_ldw dX11_middleIn_53 (by omega) ?_) | refine e_iald _ dX11_middleIn_53 ⟨by decide, by decide⟩ rfl rfl (by simp only [lenK]; omega) ?_
          first | ((with_reducible refine mk_n ?_); refine n_i2l dX11_middleIn_54 (by omega) ?_) | refine e_i2l dX11_middleIn_54 ?_
          first | ((with_reducible refine mk_LL ?_); refine n_ladd dX11_middleIn_55 ?_) | refine e_ladd dX11_middleIn_55 ?_
          refine e_lstore dX11_middleIn_56 (Nat.le_of_ble_eq_true rfl) rfl ?_
          refine e_ldc2 dX11_middleIn_58 co_X11_77 ?_
          refine e_lload dX11_middleIn_61 rfl ?_
          first | ((with_reducible refine mk_LL ?_); refine n_lmul dX11_middleIn_63 ?_) | refine e_lmul dX11_middleIn_63 ?_
          refine e_lload_n dX11_middleIn_64 rfl rfl ?_
          refine e_lcmp dX11_middleIn_65 ?_
          first | ((with_reducible refine mk_ll ?_); refine m_if_lt (tgt := 72) dX11_middleIn_66 (by decide) (by omega) (by omega) (fun h66 => ?_) (fun h66 => ?_)) | ((with_reducible refine mk_lc ?_); refine l_if_lt (tgt := 72) dX11_middleIn_66 (by decide) (fun h66 => ?_) (fun h66 => ?_)) | ((with_reducible refine mk_n ?_); refine n_if_lt (tgt := 72) dX11_middleIn_66 (by decide) (by omega) (fun h66 => ?_) (fun h66 => ?_)) | refine e_if_lt (tgt := 72) dX11_middleIn_66 (by decide) (fun h66 => ?_) (fun h66 => ?_)
          · try first | contradiction | omega
            all_goals
              first | refine n_inc dX11_middleIn_72 rfl (Nat.le_of_ble_eq_true rfl) rfl ?_ | refine e_iinc dX11_middleIn_72 rfl rfl (Nat.le_of_ble_eq_true rfl) rfl ?_
              refine e_goto (tgt := 30) dX11_middleIn_75 (by decide) ?_
              refine ih (fun q hq => ?_)
              by_cases hqj : q = j
              · subst hqj; exact decide_eq_false (by rw [rs_s]; omega)
              · exact hn q (by omega)
          · try first | contradiction | omega
            all_goals
              refine e_iload dX11_middleIn_69 rfl ?_
              refine e_ret (some _) rfl (r_int dX11_middleIn_71 rfl) ?_
              refine xq ?_ rfl rfl rfl rfl rfl
              unfold mdO
              rw [if_neg h0, fO_no hn]
              rfl
      )
    refine e_aload_n dX11_middleIn_0 rfl rfl ?_
    refine e_iload_n dX11_middleIn_1 rfl rfl ?_
    refine x_V1 (M' := mX11_weightOf) dX11_middleIn_2 ml_X11_73 ok_X11_weightOf (by decide) rfl im_X11_weightOf se_X11_weightOf (ct_X11_weightOf ‹_› ‹_› (by omega)) (Nat.le_of_ble_eq_true rfl) (by decide) (Nat.le_of_ble_eq_true rfl) ?_
    refine e_lstore_n dX11_middleIn_5 rfl (Nat.le_of_ble_eq_true rfl) rfl ?_
    refine e_lconst (v := lN 0) dX11_middleIn_6 rfl ?_
    refine e_lstore dX11_middleIn_7 (Nat.le_of_ble_eq_true rfl) rfl ?_
    refine e_lload_n dX11_middleIn_9 rfl rfl ?_
    refine e_lconst (v := lN 0) dX11_middleIn_10 rfl ?_
    refine e_lcmp dX11_middleIn_11 ?_
    first | ((with_reducible refine mk_b ?_); refine b_if_ne (tgt := 17) dX11_middleIn_12 (by decide) (fun h12 => ?_) (fun h12 => ?_)) | ((with_reducible refine mk_ll ?_); refine m_if_ne (tgt := 17) dX11_middleIn_12 (by decide) (by omega) (by omega) (fun h12 => ?_) (fun h12 => ?_)) | ((with_reducible refine mk_lc ?_); refine l_if_ne (tgt := 17) dX11_middleIn_12 (by decide) (fun h12 => ?_) (fun h12 => ?_)) | ((with_reducible refine mk_n ?_); refine n_if_ne (tgt := 17) dX11_middleIn_12 (by decide) (by omega) (fun h12 => ?_) (fun h12 => ?_)) | refine e_if_ne (tgt := 17) dX11_middleIn_12 (by decide) (fun h12 => ?_) (fun h12 => ?_)
    · try first | contradiction | omega
      all_goals
        refine e_aload_n dX11_middleIn_17 rfl rfl ?_
        refine e_getR dX11_middleIn_18 fl_X11_7 rfl (by assumption) ?_
        refine e_bipush (v := nI 10) dX11_middleIn_21 rfl ?_
        refine e_iload_n dX11_middleIn_23 rfl rfl ?_
        first | ((with_reducible refine mk_nn ?_); refine n_iadd dX11_middleIn_24 ?_) | refine e_iadd dX11_middleIn_24 ?_
        first | ((with_reducible refine mk_ldw ?_); refine e_ldw dX11_middleIn_25 (by omega) ?_) | refine e_iald _ dX11_middleIn_25 ⟨by decide, by decide⟩ rfl rfl (by simp only [lenK]; omega) ?_
        refine e_iconst (v := nI 1) dX11_middleIn_26 rfl ?_
        first | ((with_reducible refine mk_nn ?_); refine n_iadd dX11_middleIn_27 ?_) | refine e_iadd dX11_middleIn_27 ?_
        refine e_istore dX11_middleIn_28 (Nat.le_of_ble_eq_true rfl) rfl ?_
        exact key 0 (by omega) (fun q hq => absurd hq (Nat.not_lt_zero q))
    · try first | contradiction | omega
      all_goals
        refine e_iconst (v := -1) dX11_middleIn_15 rfl ?_
        refine e_ret (some _) rfl (r_int dX11_middleIn_16 rfl) ?_
        refine xq ?_ rfl rfl rfl rfl rfl
        unfold mdO
        rw [if_neg h0, fO_no hn]
        rfl
theorem ct_X11_canSplit {fi : FI} {fr : FR} {ai : FI} {ar : FR} {N : Nat} {w : Nat → Nat} (sm : SM fr) (iv : Inv w) (q : Option Nat) (hq : ∀ i, q = some i → i < w 1) (y : Int32) : CP mX11_canSplit 3 0 0 [.ref (rf 11 80), .int (oI q), .int y] fi fr (mW ai w) ar N (xQ (some (.int (bI (match q with | none => false | some i => csB w i y)))) fi fr (mW ai w) ar N) := by
  obtain ⟨sW, sA, sK, sU, sC, sKC, sT, sCl⟩ := id sm
  have h1 := iv_n iv
  have h3 := iv_mm iv
  change EV mX11_canSplit 3 0 0 0 [some (.ref (rf 11 80)), some (.int (oI q)), some (.int y)] [] fi fr (mW ai w) ar N (xQ (some (.int (bI (match q with | none => false | some i => csB w i y)))) fi fr (mW ai w) ar N)
  cases q with
  | none =>
    refine e_iload_n dX11_canSplit_0 rfl rfl ?_
    refine e_iconst (v := -1) dX11_canSplit_1 rfl ?_
    first | ((with_reducible refine mk_mo ?_); refine p_icmp_eq (tgt := 57) dX11_canSplit_2 (by decide) (fun h2 => ?_) (fun h2 => ?_)) | ((with_reducible refine mk_ms ?_); refine s_icmp_eq (tgt := 57) dX11_canSplit_2 (by decide) (by omega) (fun h2 => ?_) (fun h2 => ?_)) | ((with_reducible refine mk_mn ?_); refine q_icmp_eq (tgt := 57) dX11_canSplit_2 (by decide) (by omega) (fun h2 => ?_) (fun h2 => ?_)) | ((with_reducible refine mk_nn ?_); refine n_icmp_eq (tgt := 57) dX11_canSplit_2 (by decide) (by omega) (by omega) (fun h2 => ?_) (fun h2 => ?_)) | refine e_icmp_eq (tgt := 57) dX11_canSplit_2 (by decide) (fun h2 => ?_) (fun h2 => ?_)
    · try first | contradiction | omega
      all_goals
        refine e_iconst (v := nI 0) dX11_canSplit_57 rfl ?_
        first | ((with_reducible refine mk_b ?_); refine e_ret (some _) rfl (r_bool dX11_canSplit_58 rfl) ?_) | ((with_reducible refine mk_n1 ?_); refine e_ret (some _) rfl (r_b1 dX11_canSplit_58 rfl) ?_) | ((with_reducible refine mk_n0 ?_); refine e_ret (some _) rfl (r_b0 dX11_canSplit_58 rfl) ?_)
        first | (refine xq (bl0 ?_) rfl rfl rfl rfl rfl; grind [csB]) | (refine xq (bl1 ?_) rfl rfl rfl rfl rfl; grind [csB])
    · try first | contradiction | omega
      all_goals
        refine e_aload_n dX11_canSplit_5 rfl rfl ?_
        refine e_getR dX11_canSplit_6 fl_X11_7 rfl (by assumption) ?_
        refine e_iconst (v := nI 1) dX11_canSplit_9 rfl ?_
        first | ((with_reducible refine mk_ldw ?_); refine e_ldw dX11_canSplit_10 (by omega) ?_) | refine e_iald _ dX11_canSplit_10 ⟨by decide, by decide⟩ rfl rfl (by simp only [lenK]; omega) ?_
        refine e_bipush (v := nI 32) dX11_canSplit_11 rfl ?_
        first | ((with_reducible refine mk_nn ?_); refine n_icmp_ge (tgt := 57) dX11_canSplit_13 (by decide) (by omega) (by omega) (fun h13 => ?_) (fun h13 => ?_)) | refine e_icmp_ge (tgt := 57) dX11_canSplit_13 (by decide) (fun h13 => ?_) (fun h13 => ?_)
        · try first | contradiction | omega
          all_goals
            refine e_iconst (v := nI 0) dX11_canSplit_57 rfl ?_
            first | ((with_reducible refine mk_b ?_); refine e_ret (some _) rfl (r_bool dX11_canSplit_58 rfl) ?_) | ((with_reducible refine mk_n1 ?_); refine e_ret (some _) rfl (r_b1 dX11_canSplit_58 rfl) ?_) | ((with_reducible refine mk_n0 ?_); refine e_ret (some _) rfl (r_b0 dX11_canSplit_58 rfl) ?_)
            first | (refine xq (bl0 ?_) rfl rfl rfl rfl rfl; grind [csB]) | (refine xq (bl1 ?_) rfl rfl rfl rfl rfl; grind [csB])
        · try first | contradiction | omega
          all_goals
            refine e_aload_n dX11_canSplit_16 rfl rfl ?_
            refine e_iload_n dX11_canSplit_17 rfl rfl ?_
            refine x_V1 (M' := mX11_moveOfSpan) dX11_canSplit_18 ml_X11_79 ok_X11_moveOfSpan (by decide) rfl im_X11_moveOfSpan se_X11_moveOfSpan (ct_X11_moveOfSpan ‹_› ‹_› (by omega)) (Nat.le_of_ble_eq_true rfl) (by decide) (Nat.le_of_ble_eq_true rfl) ?_
            refine e_iconst (v := -1) dX11_canSplit_21 rfl ?_
            first | ((with_reducible refine mk_mo ?_); refine p_icmp_ne (tgt := 57) dX11_canSplit_22 (by decide) (fun h22 => ?_) (fun h22 => ?_)) | ((with_reducible refine mk_ms ?_); refine s_icmp_ne (tgt := 57) dX11_canSplit_22 (by decide) (by omega) (fun h22 => ?_) (fun h22 => ?_)) | ((with_reducible refine mk_mn ?_); refine q_icmp_ne (tgt := 57) dX11_canSplit_22 (by decide) (by omega) (fun h22 => ?_) (fun h22 => ?_)) | ((with_reducible refine mk_nn ?_); refine n_icmp_ne (tgt := 57) dX11_canSplit_22 (by decide) (by omega) (by omega) (fun h22 => ?_) (fun h22 => ?_)) | refine e_icmp_ne (tgt := 57) dX11_canSplit_22 (by decide) (fun h22 => ?_) (fun h22 => ?_)
            · try first | contradiction | omega
              all_goals
                refine e_iconst (v := nI 0) dX11_canSplit_57 rfl ?_
                first | ((with_reducible refine mk_b ?_); refine e_ret (some _) rfl (r_bool dX11_canSplit_58 rfl) ?_) | ((with_reducible refine mk_n1 ?_); refine e_ret (some _) rfl (r_b1 dX11_canSplit_58 rfl) ?_) | ((with_reducible refine mk_n0 ?_); refine e_ret (some _) rfl (r_b0 dX11_canSplit_58 rfl) ?_)
                first | (refine xq (bl0 ?_) rfl rfl rfl rfl rfl; grind [csB]) | (refine xq (bl1 ?_) rfl rfl rfl rfl rfl; grind [csB])
            · try first | contradiction | omega
              all_goals
                refine e_iload_n dX11_canSplit_25 rfl rfl ?_
                first | ((with_reducible refine mk_n ?_); refine n_i2l dX11_canSplit_26 (by omega) ?_) | refine e_i2l dX11_canSplit_26 ?_
                refine e_aload_n dX11_canSplit_27 rfl rfl ?_
                refine e_getR dX11_canSplit_28 fl_X11_7 rfl (by assumption) ?_
                refine e_bipush (v := nI 10) dX11_canSplit_31 rfl ?_
                refine e_iload_n dX11_canSplit_33 rfl rfl ?_
                first | ((with_reducible refine mk_nn ?_); refine n_iadd dX11_canSplit_34 ?_) | refine e_iadd dX11_canSplit_34 ?_
                first | ((with_reducible refine mk_ldw ?_); refine e_ldw dX11_canSplit_35 (by omega) ?_) | refine e_iald _ dX11_canSplit_35 ⟨by decide, by decide⟩ rfl rfl (by simp only [lenK]; omega) ?_
                refine e_iconst (v := nI 1) dX11_canSplit_36 rfl ?_
                first | ((with_reducible refine mk_nn ?_); refine n_iadd dX11_canSplit_37 ?_) | refine e_iadd dX11_canSplit_37 ?_
                first | ((with_reducible refine mk_n ?_); refine n_i2l dX11_canSplit_38 (by omega) ?_) | refine e_i2l dX11_canSplit_38 ?_
                refine e_aload_n dX11_canSplit_39 rfl rfl ?_
                refine e_iload_n dX11_canSplit_40 rfl rfl ?_
                refine x_V1 (M' := mX11_endOf) dX11_canSplit_41 ml_X11_70 ok_X11_endOf (by decide) rfl im_X11_endOf se_X11_endOf (ct_X11_endOf ‹_› ‹_› (by omega)) (Nat.le_of_ble_eq_true rfl) (by decide) (Nat.le_of_ble_eq_true rfl) ?_
                refine e_iconst (v := nI 1) dX11_canSplit_44 rfl ?_
                first | ((with_reducible refine mk_nn ?_); refine n_isub dX11_canSplit_45 (by omega) ?_) | refine e_isub dX11_canSplit_45 ?_
                first | ((with_reducible refine mk_n ?_); refine n_i2l dX11_canSplit_46 (by omega) ?_) | refine e_i2l dX11_canSplit_46 ?_
                refine x_S3 (M' := mX11_isIn) dX11_canSplit_47 ml_X11_45 ok_X11_isIn rfl sc_X11_isIn (ct_isInX (by omega) (by omega)) (Nat.le_of_ble_eq_true rfl) (by decide) (Nat.le_of_ble_eq_true rfl) ?_
                first | ((with_reducible refine mk_b ?_); refine b_if_eq (tgt := 57) dX11_canSplit_50 (by decide) (fun h50 => ?_) (fun h50 => ?_)) | ((with_reducible refine mk_ll ?_); refine m_if_eq (tgt := 57) dX11_canSplit_50 (by decide) (by omega) (by omega) (fun h50 => ?_) (fun h50 => ?_)) | ((with_reducible refine mk_lc ?_); refine l_if_eq (tgt := 57) dX11_canSplit_50 (by decide) (fun h50 => ?_) (fun h50 => ?_)) | ((with_reducible refine mk_n ?_); refine n_if_eq (tgt := 57) dX11_canSplit_50 (by decide) (by omega) (fun h50 => ?_) (fun h50 => ?_)) | refine e_if_eq (tgt := 57) dX11_canSplit_50 (by decide) (fun h50 => ?_) (fun h50 => ?_)
                · try first | contradiction | omega
                  all_goals
                    refine e_iconst (v := nI 0) dX11_canSplit_57 rfl ?_
                    first | ((with_reducible refine mk_b ?_); refine e_ret (some _) rfl (r_bool dX11_canSplit_58 rfl) ?_) | ((with_reducible refine mk_n1 ?_); refine e_ret (some _) rfl (r_b1 dX11_canSplit_58 rfl) ?_) | ((with_reducible refine mk_n0 ?_); refine e_ret (some _) rfl (r_b0 dX11_canSplit_58 rfl) ?_)
                    first | (refine xq (bl0 ?_) rfl rfl rfl rfl rfl; grind [csB]) | (refine xq (bl1 ?_) rfl rfl rfl rfl rfl; grind [csB])
                · try first | contradiction | omega
                  all_goals
                    refine e_iconst (v := nI 1) dX11_canSplit_53 rfl ?_
                    refine e_goto (tgt := 58) dX11_canSplit_54 (by decide) ?_
                    first | ((with_reducible refine mk_b ?_); refine e_ret (some _) rfl (r_bool dX11_canSplit_58 rfl) ?_) | ((with_reducible refine mk_n1 ?_); refine e_ret (some _) rfl (r_b1 dX11_canSplit_58 rfl) ?_) | ((with_reducible refine mk_n0 ?_); refine e_ret (some _) rfl (r_b0 dX11_canSplit_58 rfl) ?_)
                    first | (refine xq (bl0 ?_) rfl rfl rfl rfl rfl; grind [csB]) | (refine xq (bl1 ?_) rfl rfl rfl rfl rfl; grind [csB])
  | some i =>
    have hi := hq i rfl
    rw [oI_s]
    have he := enF_le iv hi
    have hl := iv_low iv hi
    cases hmv : mvL w (w (10 + i)) with
    | none =>
      refine e_iload_n dX11_canSplit_0 rfl rfl ?_
      refine e_iconst (v := -1) dX11_canSplit_1 rfl ?_
      first | ((with_reducible refine mk_mo ?_); refine p_icmp_eq (tgt := 57) dX11_canSplit_2 (by decide) (fun h2 => ?_) (fun h2 => ?_)) | ((with_reducible refine mk_ms ?_); refine s_icmp_eq (tgt := 57) dX11_canSplit_2 (by decide) (by omega) (fun h2 => ?_) (fun h2 => ?_)) | ((with_reducible refine mk_mn ?_); refine q_icmp_eq (tgt := 57) dX11_canSplit_2 (by decide) (by omega) (fun h2 => ?_) (fun h2 => ?_)) | ((with_reducible refine mk_nn ?_); refine n_icmp_eq (tgt := 57) dX11_canSplit_2 (by decide) (by omega) (by omega) (fun h2 => ?_) (fun h2 => ?_)) | refine e_icmp_eq (tgt := 57) dX11_canSplit_2 (by decide) (fun h2 => ?_) (fun h2 => ?_)
      · try first | contradiction | omega
        all_goals
          refine e_iconst (v := nI 0) dX11_canSplit_57 rfl ?_
          first | ((with_reducible refine mk_b ?_); refine e_ret (some _) rfl (r_bool dX11_canSplit_58 rfl) ?_) | ((with_reducible refine mk_n1 ?_); refine e_ret (some _) rfl (r_b1 dX11_canSplit_58 rfl) ?_) | ((with_reducible refine mk_n0 ?_); refine e_ret (some _) rfl (r_b0 dX11_canSplit_58 rfl) ?_)
          first | (refine xq (bl0 ?_) rfl rfl rfl rfl rfl; grind [csB]) | (refine xq (bl1 ?_) rfl rfl rfl rfl rfl; grind [csB])
      · try first | contradiction | omega
        all_goals
          refine e_aload_n dX11_canSplit_5 rfl rfl ?_
          refine e_getR dX11_canSplit_6 fl_X11_7 rfl (by assumption) ?_
          refine e_iconst (v := nI 1) dX11_canSplit_9 rfl ?_
          first | ((with_reducible refine mk_ldw ?_); refine e_ldw dX11_canSplit_10 (by omega) ?_) | refine e_iald _ dX11_canSplit_10 ⟨by decide, by decide⟩ rfl rfl (by simp only [lenK]; omega) ?_
          refine e_bipush (v := nI 32) dX11_canSplit_11 rfl ?_
          first | ((with_reducible refine mk_nn ?_); refine n_icmp_ge (tgt := 57) dX11_canSplit_13 (by decide) (by omega) (by omega) (fun h13 => ?_) (fun h13 => ?_)) | refine e_icmp_ge (tgt := 57) dX11_canSplit_13 (by decide) (fun h13 => ?_) (fun h13 => ?_)
          · try first | contradiction | omega
            all_goals
              refine e_iconst (v := nI 0) dX11_canSplit_57 rfl ?_
              first | ((with_reducible refine mk_b ?_); refine e_ret (some _) rfl (r_bool dX11_canSplit_58 rfl) ?_) | ((with_reducible refine mk_n1 ?_); refine e_ret (some _) rfl (r_b1 dX11_canSplit_58 rfl) ?_) | ((with_reducible refine mk_n0 ?_); refine e_ret (some _) rfl (r_b0 dX11_canSplit_58 rfl) ?_)
              first | (refine xq (bl0 ?_) rfl rfl rfl rfl rfl; grind [csB]) | (refine xq (bl1 ?_) rfl rfl rfl rfl rfl; grind [csB])
          · try first | contradiction | omega
            all_goals
              refine e_aload_n dX11_canSplit_16 rfl rfl ?_
              refine e_iload_n dX11_canSplit_17 rfl rfl ?_
              refine x_V1 (M' := mX11_moveOfSpan) dX11_canSplit_18 ml_X11_79 ok_X11_moveOfSpan (by decide) rfl im_X11_moveOfSpan se_X11_moveOfSpan (ct_X11_moveOfSpan ‹_› ‹_› (by omega)) (Nat.le_of_ble_eq_true rfl) (by decide) (Nat.le_of_ble_eq_true rfl) ?_
              rw [hmv]
              refine e_iconst (v := -1) dX11_canSplit_21 rfl ?_
              first | ((with_reducible refine mk_mo ?_); refine p_icmp_ne (tgt := 57) dX11_canSplit_22 (by decide) (fun h22 => ?_) (fun h22 => ?_)) | ((with_reducible refine mk_ms ?_); refine s_icmp_ne (tgt := 57) dX11_canSplit_22 (by decide) (by omega) (fun h22 => ?_) (fun h22 => ?_)) | ((with_reducible refine mk_mn ?_); refine q_icmp_ne (tgt := 57) dX11_canSplit_22 (by decide) (by omega) (fun h22 => ?_) (fun h22 => ?_)) | ((with_reducible refine mk_nn ?_); refine n_icmp_ne (tgt := 57) dX11_canSplit_22 (by decide) (by omega) (by omega) (fun h22 => ?_) (fun h22 => ?_)) | refine e_icmp_ne (tgt := 57) dX11_canSplit_22 (by decide) (fun h22 => ?_) (fun h22 => ?_)
              · try first | contradiction | omega
                all_goals
                  refine e_iconst (v := nI 0) dX11_canSplit_57 rfl ?_
                  first | ((with_reducible refine mk_b ?_); refine e_ret (some _) rfl (r_bool dX11_canSplit_58 rfl) ?_) | ((with_reducible refine mk_n1 ?_); refine e_ret (some _) rfl (r_b1 dX11_canSplit_58 rfl) ?_) | ((with_reducible refine mk_n0 ?_); refine e_ret (some _) rfl (r_b0 dX11_canSplit_58 rfl) ?_)
                  first | (refine xq (bl0 ?_) rfl rfl rfl rfl rfl; grind [csB]) | (refine xq (bl1 ?_) rfl rfl rfl rfl rfl; grind [csB])
              · try first | contradiction | omega
                all_goals
                  refine e_iload_n dX11_canSplit_25 rfl rfl ?_
                  first | ((with_reducible refine mk_n ?_); refine n_i2l dX11_canSplit_26 (by omega) ?_) | refine e_i2l dX11_canSplit_26 ?_
                  refine e_aload_n dX11_canSplit_27 rfl rfl ?_
                  refine e_getR dX11_canSplit_28 fl_X11_7 rfl (by assumption) ?_
                  refine e_bipush (v := nI 10) dX11_canSplit_31 rfl ?_
                  refine e_iload_n dX11_canSplit_33 rfl rfl ?_
                  first | ((with_reducible refine mk_nn ?_); refine n_iadd dX11_canSplit_34 ?_) | refine e_iadd dX11_canSplit_34 ?_
                  first | ((with_reducible refine mk_ldw ?_); refine e_ldw dX11_canSplit_35 (by omega) ?_) | refine e_iald _ dX11_canSplit_35 ⟨by decide, by decide⟩ rfl rfl (by simp only [lenK]; omega) ?_
                  refine e_iconst (v := nI 1) dX11_canSplit_36 rfl ?_
                  first | ((with_reducible refine mk_nn ?_); refine n_iadd dX11_canSplit_37 ?_) | refine e_iadd dX11_canSplit_37 ?_
                  first | ((with_reducible refine mk_n ?_); refine n_i2l dX11_canSplit_38 (by omega) ?_) | refine e_i2l dX11_canSplit_38 ?_
                  refine e_aload_n dX11_canSplit_39 rfl rfl ?_
                  refine e_iload_n dX11_canSplit_40 rfl rfl ?_
                  refine x_V1 (M' := mX11_endOf) dX11_canSplit_41 ml_X11_70 ok_X11_endOf (by decide) rfl im_X11_endOf se_X11_endOf (ct_X11_endOf ‹_› ‹_› (by omega)) (Nat.le_of_ble_eq_true rfl) (by decide) (Nat.le_of_ble_eq_true rfl) ?_
                  refine e_iconst (v := nI 1) dX11_canSplit_44 rfl ?_
                  first | ((with_reducible refine mk_nn ?_); refine n_isub dX11_canSplit_45 (by omega) ?_) | refine e_isub dX11_canSplit_45 ?_
                  first | ((with_reducible refine mk_n ?_); refine n_i2l dX11_canSplit_46 (by omega) ?_) | refine e_i2l dX11_canSplit_46 ?_
                  refine x_S3 (M' := mX11_isIn) dX11_canSplit_47 ml_X11_45 ok_X11_isIn rfl sc_X11_isIn (ct_isInX (by omega) (by omega)) (Nat.le_of_ble_eq_true rfl) (by decide) (Nat.le_of_ble_eq_true rfl) ?_
                  first | ((with_reducible refine mk_b ?_); refine b_if_eq (tgt := 57) dX11_canSplit_50 (by decide) (fun h50 => ?_) (fun h50 => ?_)) | ((with_reducible refine mk_ll ?_); refine m_if_eq (tgt := 57) dX11_canSplit_50 (by decide) (by omega) (by omega) (fun h50 => ?_) (fun h50 => ?_)) | ((with_reducible refine mk_lc ?_); refine l_if_eq (tgt := 57) dX11_canSplit_50 (by decide) (fun h50 => ?_) (fun h50 => ?_)) | ((with_reducible refine mk_n ?_); refine n_if_eq (tgt := 57) dX11_canSplit_50 (by decide) (by omega) (fun h50 => ?_) (fun h50 => ?_)) | refine e_if_eq (tgt := 57) dX11_canSplit_50 (by decide) (fun h50 => ?_) (fun h50 => ?_)
                  · try first | contradiction | omega
                    all_goals
                      refine e_iconst (v := nI 0) dX11_canSplit_57 rfl ?_
                      first | ((with_reducible refine mk_b ?_); refine e_ret (some _) rfl (r_bool dX11_canSplit_58 rfl) ?_) | ((with_reducible refine mk_n1 ?_); refine e_ret (some _) rfl (r_b1 dX11_canSplit_58 rfl) ?_) | ((with_reducible refine mk_n0 ?_); refine e_ret (some _) rfl (r_b0 dX11_canSplit_58 rfl) ?_)
                      first | (refine xq (bl0 ?_) rfl rfl rfl rfl rfl; grind [csB]) | (refine xq (bl1 ?_) rfl rfl rfl rfl rfl; grind [csB])
                  · try first | contradiction | omega
                    all_goals
                      refine e_iconst (v := nI 1) dX11_canSplit_53 rfl ?_
                      refine e_goto (tgt := 58) dX11_canSplit_54 (by decide) ?_
                      first | ((with_reducible refine mk_b ?_); refine e_ret (some _) rfl (r_bool dX11_canSplit_58 rfl) ?_) | ((with_reducible refine mk_n1 ?_); refine e_ret (some _) rfl (r_b1 dX11_canSplit_58 rfl) ?_) | ((with_reducible refine mk_n0 ?_); refine e_ret (some _) rfl (r_b0 dX11_canSplit_58 rfl) ?_)
                      first | (refine xq (bl0 ?_) rfl rfl rfl rfl rfl; grind [csB]) | (refine xq (bl1 ?_) rfl rfl rfl rfl rfl; grind [csB])
    | some m =>
      have hm := mvL_lt hmv
      refine e_iload_n dX11_canSplit_0 rfl rfl ?_
      refine e_iconst (v := -1) dX11_canSplit_1 rfl ?_
      first | ((with_reducible refine mk_mo ?_); refine p_icmp_eq (tgt := 57) dX11_canSplit_2 (by decide) (fun h2 => ?_) (fun h2 => ?_)) | ((with_reducible refine mk_ms ?_); refine s_icmp_eq (tgt := 57) dX11_canSplit_2 (by decide) (by omega) (fun h2 => ?_) (fun h2 => ?_)) | ((with_reducible refine mk_mn ?_); refine q_icmp_eq (tgt := 57) dX11_canSplit_2 (by decide) (by omega) (fun h2 => ?_) (fun h2 => ?_)) | ((with_reducible refine mk_nn ?_); refine n_icmp_eq (tgt := 57) dX11_canSplit_2 (by decide) (by omega) (by omega) (fun h2 => ?_) (fun h2 => ?_)) | refine e_icmp_eq (tgt := 57) dX11_canSplit_2 (by decide) (fun h2 => ?_) (fun h2 => ?_)
      · try first | contradiction | omega
        all_goals
          refine e_iconst (v := nI 0) dX11_canSplit_57 rfl ?_
          first | ((with_reducible refine mk_b ?_); refine e_ret (some _) rfl (r_bool dX11_canSplit_58 rfl) ?_) | ((with_reducible refine mk_n1 ?_); refine e_ret (some _) rfl (r_b1 dX11_canSplit_58 rfl) ?_) | ((with_reducible refine mk_n0 ?_); refine e_ret (some _) rfl (r_b0 dX11_canSplit_58 rfl) ?_)
          first | (refine xq (bl0 ?_) rfl rfl rfl rfl rfl; grind [csB]) | (refine xq (bl1 ?_) rfl rfl rfl rfl rfl; grind [csB])
      · try first | contradiction | omega
        all_goals
          refine e_aload_n dX11_canSplit_5 rfl rfl ?_
          refine e_getR dX11_canSplit_6 fl_X11_7 rfl (by assumption) ?_
          refine e_iconst (v := nI 1) dX11_canSplit_9 rfl ?_
          first | ((with_reducible refine mk_ldw ?_); refine e_ldw dX11_canSplit_10 (by omega) ?_) | refine e_iald _ dX11_canSplit_10 ⟨by decide, by decide⟩ rfl rfl (by simp only [lenK]; omega) ?_
          refine e_bipush (v := nI 32) dX11_canSplit_11 rfl ?_
          first | ((with_reducible refine mk_nn ?_); refine n_icmp_ge (tgt := 57) dX11_canSplit_13 (by decide) (by omega) (by omega) (fun h13 => ?_) (fun h13 => ?_)) | refine e_icmp_ge (tgt := 57) dX11_canSplit_13 (by decide) (fun h13 => ?_) (fun h13 => ?_)
          · try first | contradiction | omega
            all_goals
              refine e_iconst (v := nI 0) dX11_canSplit_57 rfl ?_
              first | ((with_reducible refine mk_b ?_); refine e_ret (some _) rfl (r_bool dX11_canSplit_58 rfl) ?_) | ((with_reducible refine mk_n1 ?_); refine e_ret (some _) rfl (r_b1 dX11_canSplit_58 rfl) ?_) | ((with_reducible refine mk_n0 ?_); refine e_ret (some _) rfl (r_b0 dX11_canSplit_58 rfl) ?_)
              first | (refine xq (bl0 ?_) rfl rfl rfl rfl rfl; grind [csB]) | (refine xq (bl1 ?_) rfl rfl rfl rfl rfl; grind [csB])
          · try first | contradiction | omega
            all_goals
              refine e_aload_n dX11_canSplit_16 rfl rfl ?_
              refine e_iload_n dX11_canSplit_17 rfl rfl ?_
              refine x_V1 (M' := mX11_moveOfSpan) dX11_canSplit_18 ml_X11_79 ok_X11_moveOfSpan (by decide) rfl im_X11_moveOfSpan se_X11_moveOfSpan (ct_X11_moveOfSpan ‹_› ‹_› (by omega)) (Nat.le_of_ble_eq_true rfl) (by decide) (Nat.le_of_ble_eq_true rfl) ?_
              rw [hmv]
              refine e_iconst (v := -1) dX11_canSplit_21 rfl ?_
              first | ((with_reducible refine mk_mo ?_); refine p_icmp_ne (tgt := 57) dX11_canSplit_22 (by decide) (fun h22 => ?_) (fun h22 => ?_)) | ((with_reducible refine mk_ms ?_); refine s_icmp_ne (tgt := 57) dX11_canSplit_22 (by decide) (by omega) (fun h22 => ?_) (fun h22 => ?_)) | ((with_reducible refine mk_mn ?_); refine q_icmp_ne (tgt := 57) dX11_canSplit_22 (by decide) (by omega) (fun h22 => ?_) (fun h22 => ?_)) | ((with_reducible refine mk_nn ?_); refine n_icmp_ne (tgt := 57) dX11_canSplit_22 (by decide) (by omega) (by omega) (fun h22 => ?_) (fun h22 => ?_)) | refine e_icmp_ne (tgt := 57) dX11_canSplit_22 (by decide) (fun h22 => ?_) (fun h22 => ?_)
              · try first | contradiction | omega
                all_goals
                  refine e_iconst (v := nI 0) dX11_canSplit_57 rfl ?_
                  first | ((with_reducible refine mk_b ?_); refine e_ret (some _) rfl (r_bool dX11_canSplit_58 rfl) ?_) | ((with_reducible refine mk_n1 ?_); refine e_ret (some _) rfl (r_b1 dX11_canSplit_58 rfl) ?_) | ((with_reducible refine mk_n0 ?_); refine e_ret (some _) rfl (r_b0 dX11_canSplit_58 rfl) ?_)
                  first | (refine xq (bl0 ?_) rfl rfl rfl rfl rfl; grind [csB]) | (refine xq (bl1 ?_) rfl rfl rfl rfl rfl; grind [csB])
              · try first | contradiction | omega
                all_goals
                  refine e_iload_n dX11_canSplit_25 rfl rfl ?_
                  first | ((with_reducible refine mk_n ?_); refine n_i2l dX11_canSplit_26 (by omega) ?_) | refine e_i2l dX11_canSplit_26 ?_
                  refine e_aload_n dX11_canSplit_27 rfl rfl ?_
                  refine e_getR dX11_canSplit_28 fl_X11_7 rfl (by assumption) ?_
                  refine e_bipush (v := nI 10) dX11_canSplit_31 rfl ?_
                  refine e_iload_n dX11_canSplit_33 rfl rfl ?_
                  first | ((with_reducible refine mk_nn ?_); refine n_iadd dX11_canSplit_34 ?_) | refine e_iadd dX11_canSplit_34 ?_
                  first | ((with_reducible refine mk_ldw ?_); refine e_ldw dX11_canSplit_35 (by omega) ?_) | refine e_iald _ dX11_canSplit_35 ⟨by decide, by decide⟩ rfl rfl (by simp only [lenK]; omega) ?_
                  refine e_iconst (v := nI 1) dX11_canSplit_36 rfl ?_
                  first | ((with_reducible refine mk_nn ?_); refine n_iadd dX11_canSplit_37 ?_) | refine e_iadd dX11_canSplit_37 ?_
                  first | ((with_reducible refine mk_n ?_); refine n_i2l dX11_canSplit_38 (by omega) ?_) | refine e_i2l dX11_canSplit_38 ?_
                  refine e_aload_n dX11_canSplit_39 rfl rfl ?_
                  refine e_iload_n dX11_canSplit_40 rfl rfl ?_
                  refine x_V1 (M' := mX11_endOf) dX11_canSplit_41 ml_X11_70 ok_X11_endOf (by decide) rfl im_X11_endOf se_X11_endOf (ct_X11_endOf ‹_› ‹_› (by omega)) (Nat.le_of_ble_eq_true rfl) (by decide) (Nat.le_of_ble_eq_true rfl) ?_
                  refine e_iconst (v := nI 1) dX11_canSplit_44 rfl ?_
                  first | ((with_reducible refine mk_nn ?_); refine n_isub dX11_canSplit_45 (by omega) ?_) | refine e_isub dX11_canSplit_45 ?_
                  first | ((with_reducible refine mk_n ?_); refine n_i2l dX11_canSplit_46 (by omega) ?_) | refine e_i2l dX11_canSplit_46 ?_
                  refine x_S3 (M' := mX11_isIn) dX11_canSplit_47 ml_X11_45 ok_X11_isIn rfl sc_X11_isIn (ct_isInX (by omega) (by omega)) (Nat.le_of_ble_eq_true rfl) (by decide) (Nat.le_of_ble_eq_true rfl) ?_
                  first | ((with_reducible refine mk_b ?_); refine b_if_eq (tgt := 57) dX11_canSplit_50 (by decide) (fun h50 => ?_) (fun h50 => ?_)) | ((with_reducible refine mk_ll ?_); refine m_if_eq (tgt := 57) dX11_canSplit_50 (by decide) (by omega) (by omega) (fun h50 => ?_) (fun h50 => ?_)) | ((with_reducible refine mk_lc ?_); refine l_if_eq (tgt := 57) dX11_canSplit_50 (by decide) (fun h50 => ?_) (fun h50 => ?_)) | ((with_reducible refine mk_n ?_); refine n_if_eq (tgt := 57) dX11_canSplit_50 (by decide) (by omega) (fun h50 => ?_) (fun h50 => ?_)) | refine e_if_eq (tgt := 57) dX11_canSplit_50 (by decide) (fun h50 => ?_) (fun h50 => ?_)
                  · try first | contradiction | omega
                    all_goals
                      refine e_iconst (v := nI 0) dX11_canSplit_57 rfl ?_
                      first | ((with_reducible refine mk_b ?_); refine e_ret (some _) rfl (r_bool dX11_canSplit_58 rfl) ?_) | ((with_reducible refine mk_n1 ?_); refine e_ret (some _) rfl (r_b1 dX11_canSplit_58 rfl) ?_) | ((with_reducible refine mk_n0 ?_); refine e_ret (some _) rfl (r_b0 dX11_canSplit_58 rfl) ?_)
                      first | (refine xq (bl0 ?_) rfl rfl rfl rfl rfl; grind [csB]) | (refine xq (bl1 ?_) rfl rfl rfl rfl rfl; grind [csB])
                  · try first | contradiction | omega
                    all_goals
                      refine e_iconst (v := nI 1) dX11_canSplit_53 rfl ?_
                      refine e_goto (tgt := 58) dX11_canSplit_54 (by decide) ?_
                      first | ((with_reducible refine mk_b ?_); refine e_ret (some _) rfl (r_bool dX11_canSplit_58 rfl) ?_) | ((with_reducible refine mk_n1 ?_); refine e_ret (some _) rfl (r_b1 dX11_canSplit_58 rfl) ?_) | ((with_reducible refine mk_n0 ?_); refine e_ret (some _) rfl (r_b0 dX11_canSplit_58 rfl) ?_)
                      first | (refine xq (bl0 ?_) rfl rfl rfl rfl rfl; grind [csB]) | (refine xq (bl1 ?_) rfl rfl rfl rfl rfl; grind [csB])
theorem ct_X11_isInTrail {fi : FI} {fr : FR} {ai : FI} {ar : FR} {N : Nat} {w : Nat → Nat} (sm : SM fr) (iv : Inv w) {m k : Nat} (hm : m < w 3) (hk : k < 2147483648) : CP mX11_isInTrail 1 0 0 [.ref (rf 11 80), .int (nI m), .int (nI k)] fi fr (mW ai w) ar N (xQ (some (.int (bI (inT w m k)))) fi fr (mW ai w) ar N) := by
  obtain ⟨sW, sA, sK, sU, sC, sKC, sT, sCl⟩ := id sm
  have h1 := iv_n iv
  have h3 := iv_mm iv
  have hq := iv_mv iv hm
  change EV mX11_isInTrail 1 0 0 0 [some (.ref (rf 11 80)), some (.int (nI m)), some (.int (nI k)), none] [] fi fr (mW ai w) ar N (xQ (some (.int (bI (inT w m k)))) fi fr (mW ai w) ar N)
  have key := ev_up (P := (fun j => (∀ q, q < j → (fun j => decide (w (7694 + 72 * m + 12 + j) = k)) q = false) → EV mX11_isInTrail 1 0 0 2 [some (.ref (rf 11 80)), some (.int (nI m)), some (.int (nI k)), some (.int (nI j))] [] fi fr (mW ai w) ar N (xQ (some (.int (bI (inT w m k)))) fi fr (mW ai w) ar N))) (w (7694 + 72 * m + 6)) (fun j hj ih hn => by
    have ht := hq.2.2.2.2.2.2.2.2.2.2.2 j hj
    refine e_iload_n dX11_isInTrail_2 rfl rfl ?_
    refine e_aload_n dX11_isInTrail_3 rfl rfl ?_
    refine e_getR dX11_isInTrail_4 fl_X11_7 rfl (by assumption) ?_
    refine e_iload_n dX11_isInTrail_7 rfl rfl ?_
    refine x_S1 (M' := mX11_moveAt) dX11_isInTrail_8 ml_X11_62 ok_X11_moveAt rfl sc_X11_moveAt (ct_X11_moveAt) (Nat.le_of_ble_eq_true rfl) (by decide) (Nat.le_of_ble_eq_true rfl) ?_
    refine e_bipush (v := nI 6) dX11_isInTrail_11 rfl ?_
    first | ((with_reducible refine mk_nn ?_); refine n_iadd dX11_isInTrail_13 ?_) | refine e_iadd dX11_isInTrail_13 ?_
    first | ((with_reducible refine mk_ldw ?_); refine e_ldw dX11_isInTrail_14 (by omega) ?_) | refine e_iald _ dX11_isInTrail_14 ⟨by decide, by decide⟩ rfl rfl (by simp only [lenK]; omega) ?_
    first | ((with_reducible refine mk_nn ?_); refine n_icmp_ge (tgt := 44) dX11_isInTrail_15 (by decide) (by omega) (by omega) (fun h15 => ?_) (fun h15 => ?_)) | refine e_icmp_ge (tgt := 44) dX11_isInTrail_15 (by decide) (fun h15 => ?_) (fun h15 => ?_)
    · try first | contradiction | omega
      all_goals
        refine e_iconst (v := nI 0) dX11_isInTrail_44 rfl ?_
        first | ((with_reducible refine mk_b ?_); refine e_ret (some _) rfl (r_bool dX11_isInTrail_45 rfl) ?_) | ((with_reducible refine mk_n1 ?_); refine e_ret (some _) rfl (r_b1 dX11_isInTrail_45 rfl) ?_) | ((with_reducible refine mk_n0 ?_); refine e_ret (some _) rfl (r_b0 dX11_isInTrail_45 rfl) ?_)
        refine xq ?_ rfl rfl rfl rfl rfl
        unfold inT
        rw [fO_eq (i := j) hn (by simp_all) hj]
        rfl
    · try first | contradiction | omega
      all_goals
        refine e_aload_n dX11_isInTrail_18 rfl rfl ?_
        refine e_getR dX11_isInTrail_19 fl_X11_7 rfl (by assumption) ?_
        refine e_iload_n dX11_isInTrail_22 rfl rfl ?_
        refine x_S1 (M' := mX11_moveAt) dX11_isInTrail_23 ml_X11_62 ok_X11_moveAt rfl sc_X11_moveAt (ct_X11_moveAt) (Nat.le_of_ble_eq_true rfl) (by decide) (Nat.le_of_ble_eq_true rfl) ?_
        refine e_bipush (v := nI 12) dX11_isInTrail_26 rfl ?_
        first | ((with_reducible refine mk_nn ?_); refine n_iadd dX11_isInTrail_28 ?_) | refine e_iadd dX11_isInTrail_28 ?_
        refine e_iload_n dX11_isInTrail_29 rfl rfl ?_
        first | ((with_reducible refine mk_nn ?_); refine n_iadd dX11_isInTrail_30 ?_) | refine e_iadd dX11_isInTrail_30 ?_
        first | ((with_reducible refine mk_ldw ?_); refine e_ldw dX11_isInTrail_31 (by omega) ?_) | refine e_iald _ dX11_isInTrail_31 ⟨by decide, by decide⟩ rfl rfl (by simp only [lenK]; omega) ?_
        refine e_iload_n dX11_isInTrail_32 rfl rfl ?_
        first | ((with_reducible refine mk_mo ?_); refine p_icmp_ne (tgt := 38) dX11_isInTrail_33 (by decide) (fun h33 => ?_) (fun h33 => ?_)) | ((with_reducible refine mk_ms ?_); refine s_icmp_ne (tgt := 38) dX11_isInTrail_33 (by decide) (by omega) (fun h33 => ?_) (fun h33 => ?_)) | ((with_reducible refine mk_mn ?_); refine q_icmp_ne (tgt := 38) dX11_isInTrail_33 (by decide) (by omega) (fun h33 => ?_) (fun h33 => ?_)) | ((with_reducible refine mk_nn ?_); refine n_icmp_ne (tgt := 38) dX11_isInTrail_33 (by decide) (by omega) (by omega) (fun h33 => ?_) (fun h33 => ?_)) | refine e_icmp_ne (tgt := 38) dX11_isInTrail_33 (by decide) (fun h33 => ?_) (fun h33 => ?_)
        · try first | contradiction | omega
          all_goals
            first | refine n_inc dX11_isInTrail_38 rfl (Nat.le_of_ble_eq_true rfl) rfl ?_ | refine e_iinc dX11_isInTrail_38 rfl rfl (Nat.le_of_ble_eq_true rfl) rfl ?_
            refine e_goto (tgt := 2) dX11_isInTrail_41 (by decide) ?_
            refine ih (fun q hq2 => ?_)
            by_cases hqj : q = j
            · subst hqj; simp_all
            · exact hn q (by omega)
        · try first | contradiction | omega
          all_goals
            refine e_iconst (v := nI 1) dX11_isInTrail_36 rfl ?_
            first | ((with_reducible refine mk_b ?_); refine e_ret (some _) rfl (r_bool dX11_isInTrail_37 rfl) ?_) | ((with_reducible refine mk_n1 ?_); refine e_ret (some _) rfl (r_b1 dX11_isInTrail_37 rfl) ?_) | ((with_reducible refine mk_n0 ?_); refine e_ret (some _) rfl (r_b0 dX11_isInTrail_37 rfl) ?_)
            refine xq ?_ rfl rfl rfl rfl rfl
            unfold inT
            rw [fO_eq (i := j) hn (by simp_all) hj]
            rfl
    ) (fun hn => by
    refine e_iload_n dX11_isInTrail_2 rfl rfl ?_
    refine e_aload_n dX11_isInTrail_3 rfl rfl ?_
    refine e_getR dX11_isInTrail_4 fl_X11_7 rfl (by assumption) ?_
    refine e_iload_n dX11_isInTrail_7 rfl rfl ?_
    refine x_S1 (M' := mX11_moveAt) dX11_isInTrail_8 ml_X11_62 ok_X11_moveAt rfl sc_X11_moveAt (ct_X11_moveAt) (Nat.le_of_ble_eq_true rfl) (by decide) (Nat.le_of_ble_eq_true rfl) ?_
    refine e_bipush (v := nI 6) dX11_isInTrail_11 rfl ?_
    first | ((with_reducible refine mk_nn ?_); refine n_iadd dX11_isInTrail_13 ?_) | refine e_iadd dX11_isInTrail_13 ?_
    first | ((with_reducible refine mk_ldw ?_); refine e_ldw dX11_isInTrail_14 (by omega) ?_) | refine e_iald _ dX11_isInTrail_14 ⟨by decide, by decide⟩ rfl rfl (by simp only [lenK]; omega) ?_
    first | ((with_reducible refine mk_nn ?_); refine n_icmp_ge (tgt := 44) dX11_isInTrail_15 (by decide) (by omega) (by omega) (fun h15 => ?_) (fun h15 => ?_)) | refine e_icmp_ge (tgt := 44) dX11_isInTrail_15 (by decide) (fun h15 => ?_) (fun h15 => ?_)
    · try first | contradiction | omega
      all_goals
        refine e_iconst (v := nI 0) dX11_isInTrail_44 rfl ?_
        first | ((with_reducible refine mk_b ?_); refine e_ret (some _) rfl (r_bool dX11_isInTrail_45 rfl) ?_) | ((with_reducible refine mk_n1 ?_); refine e_ret (some _) rfl (r_b1 dX11_isInTrail_45 rfl) ?_) | ((with_reducible refine mk_n0 ?_); refine e_ret (some _) rfl (r_b0 dX11_isInTrail_45 rfl) ?_)
        refine xq ?_ rfl rfl rfl rfl rfl
        unfold inT
        rw [fO_no hn]
        rfl
    · try first | contradiction | omega
      all_goals
        refine e_aload_n dX11_isInTrail_18 rfl rfl ?_
        refine e_getR dX11_isInTrail_19 fl_X11_7 rfl (by assumption) ?_
        refine e_iload_n dX11_isInTrail_22 rfl rfl ?_
        refine x_S1 (M' := mX11_moveAt) dX11_isInTrail_23 ml_X11_62 ok_X11_moveAt rfl sc_X11_moveAt (ct_X11_moveAt) (Nat.le_of_ble_eq_true rfl) (by decide) (Nat.le_of_ble_eq_true rfl) ?_
        refine e_bipush (v := nI 12) dX11_isInTrail_26 rfl ?_
        first | ((with_reducible refine mk_nn ?_); refine n_iadd dX11_isInTrail_28 ?_) | refine e_iadd dX11_isInTrail_28 ?_
        refine e_iload_n dX11_isInTrail_29 rfl rfl ?_
        first | ((with_reducible refine mk_nn ?_); refine n_iadd dX11_isInTrail_30 ?_) | refine e_iadd dX11_isInTrail_30 ?_
        first | ((with_reducible refine mk_ldw ?_); refine e_ldw dX11_isInTrail_31 (by omega) ?_) | refine e_iald _ dX11_isInTrail_31 ⟨by decide, by decide⟩ rfl rfl (by simp only [lenK]; omega) ?_
        refine e_iload_n dX11_isInTrail_32 rfl rfl ?_
        first | ((with_reducible refine mk_mo ?_); refine p_icmp_ne (tgt := 38) dX11_isInTrail_33 (by decide) (fun h33 => ?_) (fun h33 => ?_)) | ((with_reducible refine mk_ms ?_); refine s_icmp_ne (tgt := 38) dX11_isInTrail_33 (by decide) (by omega) (fun h33 => ?_) (fun h33 => ?_)) | ((with_reducible refine mk_mn ?_); refine q_icmp_ne (tgt := 38) dX11_isInTrail_33 (by decide) (by omega) (fun h33 => ?_) (fun h33 => ?_)) | ((with_reducible refine mk_nn ?_); refine n_icmp_ne (tgt := 38) dX11_isInTrail_33 (by decide) (by omega) (by omega) (fun h33 => ?_) (fun h33 => ?_)) | refine e_icmp_ne (tgt := 38) dX11_isInTrail_33 (by decide) (fun h33 => ?_) (fun h33 => ?_)
        · try first | contradiction | omega
          all_goals
            first | refine n_inc dX11_isInTrail_38 rfl (Nat.le_of_ble_eq_true rfl) rfl ?_ | refine e_iinc dX11_isInTrail_38 rfl rfl (Nat.le_of_ble_eq_true rfl) rfl ?_
            refine e_goto (tgt := 2) dX11_isInTrail_41 (by decide) ?_
            refine ih (fun q hq2 => ?_)
            by_cases hqj : q = j
            · subst hqj; simp_all
            · exact hn q (by omega)
        · try first | contradiction | omega
          all_goals
            refine e_iconst (v := nI 1) dX11_isInTrail_36 rfl ?_
            first | ((with_reducible refine mk_b ?_); refine e_ret (some _) rfl (r_bool dX11_isInTrail_37 rfl) ?_) | ((with_reducible refine mk_n1 ?_); refine e_ret (some _) rfl (r_b1 dX11_isInTrail_37 rfl) ?_) | ((with_reducible refine mk_n0 ?_); refine e_ret (some _) rfl (r_b0 dX11_isInTrail_37 rfl) ?_)
            refine xq ?_ rfl rfl rfl rfl rfl
            unfold inT
            rw [fO_no hn]
            rfl
    )
  refine e_iconst (v := nI 0) dX11_isInTrail_0 rfl ?_
  refine e_istore_n dX11_isInTrail_1 rfl (Nat.le_of_ble_eq_true rfl) rfl ?_
  exact key 0 (by omega) (fun q hq => absurd hq (Nat.not_lt_zero q))
theorem ct_X11_isCatching {fi : FI} {fr : FR} {ai : FI} {ar : FR} {N : Nat} {w : Nat → Nat} (sm : SM fr) (iv : Inv w) (q : Option Nat) (hq : ∀ m, q = some m → m < w 3) : CP mX11_isCatching 1 0 0 [.ref (rf 11 80), .int (oI q)] fi fr (mW ai w) ar N (xQ (some (.int (bI (ctB w q)))) fi fr (mW ai w) ar N) := by
  obtain ⟨sW, sA, sK, sU, sC, sKC, sT, sCl⟩ := id sm
  have h1 := iv_n iv
  have h3 := iv_mm iv
  change EV mX11_isCatching 1 0 0 0 [some (.ref (rf 11 80)), some (.int (oI q))] [] fi fr (mW ai w) ar N (xQ (some (.int (bI (ctB w q)))) fi fr (mW ai w) ar N)
  cases q with
  | none =>
    refine e_iload_n dX11_isCatching_0 rfl rfl ?_
    refine e_iconst (v := -1) dX11_isCatching_1 rfl ?_
    first | ((with_reducible refine mk_mo ?_); refine p_icmp_eq (tgt := 24) dX11_isCatching_2 (by decide) (fun h2 => ?_) (fun h2 => ?_)) | ((with_reducible refine mk_ms ?_); refine s_icmp_eq (tgt := 24) dX11_isCatching_2 (by decide) (by omega) (fun h2 => ?_) (fun h2 => ?_)) | ((with_reducible refine mk_mn ?_); refine q_icmp_eq (tgt := 24) dX11_isCatching_2 (by decide) (by omega) (fun h2 => ?_) (fun h2 => ?_)) | ((with_reducible refine mk_nn ?_); refine n_icmp_eq (tgt := 24) dX11_isCatching_2 (by decide) (by omega) (by omega) (fun h2 => ?_) (fun h2 => ?_)) | refine e_icmp_eq (tgt := 24) dX11_isCatching_2 (by decide) (fun h2 => ?_) (fun h2 => ?_)
    · try first | contradiction | omega
      all_goals
        refine e_iconst (v := nI 0) dX11_isCatching_24 rfl ?_
        first | ((with_reducible refine mk_b ?_); refine e_ret (some _) rfl (r_bool dX11_isCatching_25 rfl) ?_) | ((with_reducible refine mk_n1 ?_); refine e_ret (some _) rfl (r_b1 dX11_isCatching_25 rfl) ?_) | ((with_reducible refine mk_n0 ?_); refine e_ret (some _) rfl (r_b0 dX11_isCatching_25 rfl) ?_)
        first | (refine xq (bl0 ?_) rfl rfl rfl rfl rfl; grind [ctB]) | (refine xq (bl1 ?_) rfl rfl rfl rfl rfl; grind [ctB])
    · try first | contradiction | omega
      all_goals
        refine e_aload_n dX11_isCatching_5 rfl rfl ?_
        refine e_getR dX11_isCatching_6 fl_X11_7 rfl (by assumption) ?_
        refine e_iload_n dX11_isCatching_9 rfl rfl ?_
        refine x_S1 (M' := mX11_moveAt) dX11_isCatching_10 ml_X11_62 ok_X11_moveAt rfl sc_X11_moveAt (ct_X11_moveAt) (Nat.le_of_ble_eq_true rfl) (by decide) (Nat.le_of_ble_eq_true rfl) ?_
        refine e_iconst (v := nI 0) dX11_isCatching_13 rfl ?_
        first | ((with_reducible refine mk_nn ?_); refine n_iadd dX11_isCatching_14 ?_) | refine e_iadd dX11_isCatching_14 ?_
        first | ((with_reducible refine mk_ldw ?_); refine e_ldw dX11_isCatching_15 (by omega) ?_) | refine e_iald _ dX11_isCatching_15 ⟨by decide, by decide⟩ rfl rfl (by simp only [lenK]; omega) ?_
        refine e_iconst (v := nI 2) dX11_isCatching_16 rfl ?_
        first | ((with_reducible refine mk_nn ?_); refine n_icmp_gt (tgt := 24) dX11_isCatching_17 (by decide) (by omega) (by omega) (fun h17 => ?_) (fun h17 => ?_)) | refine e_icmp_gt (tgt := 24) dX11_isCatching_17 (by decide) (fun h17 => ?_) (fun h17 => ?_)
        · try first | contradiction | omega
          all_goals
            refine e_iconst (v := nI 0) dX11_isCatching_24 rfl ?_
            first | ((with_reducible refine mk_b ?_); refine e_ret (some _) rfl (r_bool dX11_isCatching_25 rfl) ?_) | ((with_reducible refine mk_n1 ?_); refine e_ret (some _) rfl (r_b1 dX11_isCatching_25 rfl) ?_) | ((with_reducible refine mk_n0 ?_); refine e_ret (some _) rfl (r_b0 dX11_isCatching_25 rfl) ?_)
            first | (refine xq (bl0 ?_) rfl rfl rfl rfl rfl; grind [ctB]) | (refine xq (bl1 ?_) rfl rfl rfl rfl rfl; grind [ctB])
        · try first | contradiction | omega
          all_goals
            refine e_iconst (v := nI 1) dX11_isCatching_20 rfl ?_
            refine e_goto (tgt := 25) dX11_isCatching_21 (by decide) ?_
            first | ((with_reducible refine mk_b ?_); refine e_ret (some _) rfl (r_bool dX11_isCatching_25 rfl) ?_) | ((with_reducible refine mk_n1 ?_); refine e_ret (some _) rfl (r_b1 dX11_isCatching_25 rfl) ?_) | ((with_reducible refine mk_n0 ?_); refine e_ret (some _) rfl (r_b0 dX11_isCatching_25 rfl) ?_)
            first | (refine xq (bl0 ?_) rfl rfl rfl rfl rfl; grind [ctB]) | (refine xq (bl1 ?_) rfl rfl rfl rfl rfl; grind [ctB])
  | some m =>
    have hm := iv_mv iv (hq m rfl)
    have hm2 := hq m rfl
    refine e_iload_n dX11_isCatching_0 rfl rfl ?_
    refine e_iconst (v := -1) dX11_isCatching_1 rfl ?_
    first | ((with_reducible refine mk_mo ?_); refine p_icmp_eq (tgt := 24) dX11_isCatching_2 (by decide) (fun h2 => ?_) (fun h2 => ?_)) | ((with_reducible refine mk_ms ?_); refine s_icmp_eq (tgt := 24) dX11_isCatching_2 (by decide) (by omega) (fun h2 => ?_) (fun h2 => ?_)) | ((with_reducible refine mk_mn ?_); refine q_icmp_eq (tgt := 24) dX11_isCatching_2 (by decide) (by omega) (fun h2 => ?_) (fun h2 => ?_)) | ((with_reducible refine mk_nn ?_); refine n_icmp_eq (tgt := 24) dX11_isCatching_2 (by decide) (by omega) (by omega) (fun h2 => ?_) (fun h2 => ?_)) | refine e_icmp_eq (tgt := 24) dX11_isCatching_2 (by decide) (fun h2 => ?_) (fun h2 => ?_)
    · try first | contradiction | omega
      all_goals
        refine e_iconst (v := nI 0) dX11_isCatching_24 rfl ?_
        first | ((with_reducible refine mk_b ?_); refine e_ret (some _) rfl (r_bool dX11_isCatching_25 rfl) ?_) | ((with_reducible refine mk_n1 ?_); refine e_ret (some _) rfl (r_b1 dX11_isCatching_25 rfl) ?_) | ((with_reducible refine mk_n0 ?_); refine e_ret (some _) rfl (r_b0 dX11_isCatching_25 rfl) ?_)
        first | (refine xq (bl0 ?_) rfl rfl rfl rfl rfl; grind [ctB]) | (refine xq (bl1 ?_) rfl rfl rfl rfl rfl; grind [ctB])
    · try first | contradiction | omega
      all_goals
        refine e_aload_n dX11_isCatching_5 rfl rfl ?_
        refine e_getR dX11_isCatching_6 fl_X11_7 rfl (by assumption) ?_
        refine e_iload_n dX11_isCatching_9 rfl rfl ?_
        refine x_S1 (M' := mX11_moveAt) dX11_isCatching_10 ml_X11_62 ok_X11_moveAt rfl sc_X11_moveAt (ct_X11_moveAt) (Nat.le_of_ble_eq_true rfl) (by decide) (Nat.le_of_ble_eq_true rfl) ?_
        refine e_iconst (v := nI 0) dX11_isCatching_13 rfl ?_
        first | ((with_reducible refine mk_nn ?_); refine n_iadd dX11_isCatching_14 ?_) | refine e_iadd dX11_isCatching_14 ?_
        first | ((with_reducible refine mk_ldw ?_); refine e_ldw dX11_isCatching_15 (by omega) ?_) | refine e_iald _ dX11_isCatching_15 ⟨by decide, by decide⟩ rfl rfl (by simp only [lenK]; omega) ?_
        refine e_iconst (v := nI 2) dX11_isCatching_16 rfl ?_
        first | ((with_reducible refine mk_nn ?_); refine n_icmp_gt (tgt := 24) dX11_isCatching_17 (by decide) (by omega) (by omega) (fun h17 => ?_) (fun h17 => ?_)) | refine e_icmp_gt (tgt := 24) dX11_isCatching_17 (by decide) (fun h17 => ?_) (fun h17 => ?_)
        · try first | contradiction | omega
          all_goals
            refine e_iconst (v := nI 0) dX11_isCatching_24 rfl ?_
            first | ((with_reducible refine mk_b ?_); refine e_ret (some _) rfl (r_bool dX11_isCatching_25 rfl) ?_) | ((with_reducible refine mk_n1 ?_); refine e_ret (some _) rfl (r_b1 dX11_isCatching_25 rfl) ?_) | ((with_reducible refine mk_n0 ?_); refine e_ret (some _) rfl (r_b0 dX11_isCatching_25 rfl) ?_)
            first | (refine xq (bl0 ?_) rfl rfl rfl rfl rfl; grind [ctB]) | (refine xq (bl1 ?_) rfl rfl rfl rfl rfl; grind [ctB])
        · try first | contradiction | omega
          all_goals
            refine e_iconst (v := nI 1) dX11_isCatching_20 rfl ?_
            refine e_goto (tgt := 25) dX11_isCatching_21 (by decide) ?_
            first | ((with_reducible refine mk_b ?_); refine e_ret (some _) rfl (r_bool dX11_isCatching_25 rfl) ?_) | ((with_reducible refine mk_n1 ?_); refine e_ret (some _) rfl (r_b1 dX11_isCatching_25 rfl) ?_) | ((with_reducible refine mk_n0 ?_); refine e_ret (some _) rfl (r_b0 dX11_isCatching_25 rfl) ?_)
            first | (refine xq (bl0 ?_) rfl rfl rfl rfl rfl; grind [ctB]) | (refine xq (bl1 ?_) rfl rfl rfl rfl rfl; grind [ctB])
theorem ct_X11_isFrozen {fi : FI} {fr : FR} {ai : FI} {ar : FR} {N : Nat} {w : Nat → Nat} (sm : SM fr) (iv : Inv w) {k : Nat} (hk : k < 2147483648) : CP mX11_isFrozen 3 0 0 [.ref (rf 11 80), .int (nI k)] fi fr (mW ai w) ar N (xQ (some (.int (bI (fzK w k)))) fi fr (mW ai w) ar N) := by
  obtain ⟨sW, sA, sK, sU, sC, sKC, sT, sCl⟩ := id sm
  have h1 := iv_n iv
  have h3 := iv_mm iv
  have hs := spW_lt iv k
  change EV mX11_isFrozen 3 0 0 0 [some (.ref (rf 11 80)), some (.int (nI k)), none] [] fi fr (mW ai w) ar N (xQ (some (.int (bI (fzK w k)))) fi fr (mW ai w) ar N)
  cases hmv : mvL w (w (10 + spW w k)) with
  | none =>
    have e : fzK w k = false := by unfold fzK; rw [hmv]
    rw [e]
    refine e_aload_n dX11_isFrozen_0 rfl rfl ?_
    refine e_aload_n dX11_isFrozen_1 rfl rfl ?_
    refine e_iload_n dX11_isFrozen_2 rfl rfl ?_
    refine x_V1 (M' := mX11_spanWith) dX11_isFrozen_3 ml_X11_58 ok_X11_spanWith (by decide) rfl im_X11_spanWith se_X11_spanWith (ct_X11_spanWith ‹_› ‹_› (by omega)) (Nat.le_of_ble_eq_true rfl) (by decide) (Nat.le_of_ble_eq_true rfl) ?_
    refine x_V1 (M' := mX11_moveOfSpan) dX11_isFrozen_6 ml_X11_79 ok_X11_moveOfSpan (by decide) rfl im_X11_moveOfSpan se_X11_moveOfSpan (ct_X11_moveOfSpan ‹_› ‹_› (by omega)) (Nat.le_of_ble_eq_true rfl) (by decide) (Nat.le_of_ble_eq_true rfl) ?_
    rw [hmv]
    refine e_istore_n dX11_isFrozen_9 rfl (Nat.le_of_ble_eq_true rfl) rfl ?_
    refine e_iload_n dX11_isFrozen_10 rfl rfl ?_
    refine e_iconst (v := -1) dX11_isFrozen_11 rfl ?_
    first | ((with_reducible refine mk_mo ?_); refine p_icmp_ne (tgt := 17) dX11_isFrozen_12 (by decide) (fun h12 => ?_) (fun h12 => ?_)) | ((with_reducible refine mk_ms ?_); refine s_icmp_ne (tgt := 17) dX11_isFrozen_12 (by decide) (by omega) (fun h12 => ?_) (fun h12 => ?_)) | ((with_reducible refine mk_mn ?_); refine q_icmp_ne (tgt := 17) dX11_isFrozen_12 (by decide) (by omega) (fun h12 => ?_) (fun h12 => ?_)) | ((with_reducible refine mk_nn ?_); refine n_icmp_ne (tgt := 17) dX11_isFrozen_12 (by decide) (by omega) (by omega) (fun h12 => ?_) (fun h12 => ?_)) | refine e_icmp_ne (tgt := 17) dX11_isFrozen_12 (by decide) (fun h12 => ?_) (fun h12 => ?_)
    · try first | contradiction | omega
      all_goals
        refine e_aload_n dX11_isFrozen_17 rfl rfl ?_
        refine e_getR dX11_isFrozen_18 fl_X11_7 rfl (by assumption) ?_
        refine e_iload_n dX11_isFrozen_21 rfl rfl ?_
        refine x_S1 (M' := mX11_moveAt) dX11_isFrozen_22 ml_X11_62 ok_X11_moveAt rfl sc_X11_moveAt (ct_X11_moveAt) (Nat.le_of_ble_eq_true rfl) (by decide) (Nat.le_of_ble_eq_true rfl) ?_
        refine e_iconst (v := nI 0) dX11_isFrozen_25 rfl ?_
        first | ((with_reducible refine mk_nn ?_); refine n_iadd dX11_isFrozen_26 ?_) | refine e_iadd dX11_isFrozen_26 ?_
        first | ((with_reducible refine mk_ldw ?_); refine e_ldw dX11_isFrozen_27 (by omega) ?_) | refine e_iald _ dX11_isFrozen_27 ⟨by decide, by decide⟩ rfl rfl (by simp only [lenK]; omega) ?_
        refine e_iconst (v := nI 3) dX11_isFrozen_28 rfl ?_
        first | ((with_reducible refine mk_mo ?_); refine p_icmp_eq (tgt := 66) dX11_isFrozen_29 (by decide) (fun h29 => ?_) (fun h29 => ?_)) | ((with_reducible refine mk_ms ?_); refine s_icmp_eq (tgt := 66) dX11_isFrozen_29 (by decide) (by omega) (fun h29 => ?_) (fun h29 => ?_)) | ((with_reducible refine mk_mn ?_); refine q_icmp_eq (tgt := 66) dX11_isFrozen_29 (by decide) (by omega) (fun h29 => ?_) (fun h29 => ?_)) | ((with_reducible refine mk_nn ?_); refine n_icmp_eq (tgt := 66) dX11_isFrozen_29 (by decide) (by omega) (by omega) (fun h29 => ?_) (fun h29 => ?_)) | refine e_icmp_eq (tgt := 66) dX11_isFrozen_29 (by decide) (fun h29 => ?_) (fun h29 => ?_)
        · try first | contradiction | omega
          all_goals
            refine e_iconst (v := nI 1) dX11_isFrozen_66 rfl ?_
            refine e_goto (tgt := 71) dX11_isFrozen_67 (by decide) ?_
            first | ((with_reducible refine mk_b ?_); refine e_ret (some _) rfl (r_bool dX11_isFrozen_71 rfl) ?_) | ((with_reducible refine mk_n1 ?_); refine e_ret (some _) rfl (r_b1 dX11_isFrozen_71 rfl) ?_) | ((with_reducible refine mk_n0 ?_); refine e_ret (some _) rfl (r_b0 dX11_isFrozen_71 rfl) ?_)
            exact xq (by first | rfl | simp_all [bI_t, bI_f]) rfl rfl rfl rfl rfl
        · try first | contradiction | omega
          all_goals
            refine e_aload_n dX11_isFrozen_32 rfl rfl ?_
            refine e_iload_n dX11_isFrozen_33 rfl rfl ?_
            refine x_V1 (M' := mX11_isCatching) dX11_isFrozen_34 ml_X11_130 ok_X11_isCatching (by decide) rfl im_X11_isCatching se_X11_isCatching (ct_X11_isCatching ‹_› ‹_› _ (by assumption)) (Nat.le_of_ble_eq_true rfl) (by decide) (Nat.le_of_ble_eq_true rfl) ?_
            first | ((with_reducible refine mk_b ?_); refine b_if_eq (tgt := 70) dX11_isFrozen_37 (by decide) (fun h37 => ?_) (fun h37 => ?_)) | ((with_reducible refine mk_ll ?_); refine m_if_eq (tgt := 70) dX11_isFrozen_37 (by decide) (by omega) (by omega) (fun h37 => ?_) (fun h37 => ?_)) | ((with_reducible refine mk_lc ?_); refine l_if_eq (tgt := 70) dX11_isFrozen_37 (by decide) (fun h37 => ?_) (fun h37 => ?_)) | ((with_reducible refine mk_n ?_); refine n_if_eq (tgt := 70) dX11_isFrozen_37 (by decide) (by omega) (fun h37 => ?_) (fun h37 => ?_)) | refine e_if_eq (tgt := 70) dX11_isFrozen_37 (by decide) (fun h37 => ?_) (fun h37 => ?_)
            · try first | contradiction | omega
              all_goals
                refine e_iconst (v := nI 0) dX11_isFrozen_70 rfl ?_
                first | ((with_reducible refine mk_b ?_); refine e_ret (some _) rfl (r_bool dX11_isFrozen_71 rfl) ?_) | ((with_reducible refine mk_n1 ?_); refine e_ret (some _) rfl (r_b1 dX11_isFrozen_71 rfl) ?_) | ((with_reducible refine mk_n0 ?_); refine e_ret (some _) rfl (r_b0 dX11_isFrozen_71 rfl) ?_)
                exact xq (by first | rfl | simp_all [bI_t, bI_f]) rfl rfl rfl rfl rfl
            · try first | contradiction | omega
              all_goals
                refine e_aload_n dX11_isFrozen_40 rfl rfl ?_
                refine e_getR dX11_isFrozen_41 fl_X11_7 rfl (by assumption) ?_
                refine e_iload_n dX11_isFrozen_44 rfl rfl ?_
                refine x_S1 (M' := mX11_moveAt) dX11_isFrozen_45 ml_X11_62 ok_X11_moveAt rfl sc_X11_moveAt (ct_X11_moveAt) (Nat.le_of_ble_eq_true rfl) (by decide) (Nat.le_of_ble_eq_true rfl) ?_
                refine e_bipush (v := nI 6) dX11_isFrozen_48 rfl ?_
                first | ((with_reducible refine mk_nn ?_); refine n_iadd dX11_isFrozen_50 ?_) | refine e_iadd dX11_isFrozen_50 ?_
                first | ((with_reducible refine mk_ldw ?_); refine e_ldw dX11_isFrozen_51 (by omega) ?_) | refine e_iald _ dX11_isFrozen_51 ⟨by decide, by decide⟩ rfl rfl (by simp only [lenK]; omega) ?_
                refine e_bipush (v := nI 60) dX11_isFrozen_52 rfl ?_
                first | ((with_reducible refine mk_mo ?_); refine p_icmp_ne (tgt := 70) dX11_isFrozen_54 (by decide) (fun h54 => ?_) (fun h54 => ?_)) | ((with_reducible refine mk_ms ?_); refine s_icmp_ne (tgt := 70) dX11_isFrozen_54 (by decide) (by omega) (fun h54 => ?_) (fun h54 => ?_)) | ((with_reducible refine mk_mn ?_); refine q_icmp_ne (tgt := 70) dX11_isFrozen_54 (by decide) (by omega) (fun h54 => ?_) (fun h54 => ?_)) | ((with_reducible refine mk_nn ?_); refine n_icmp_ne (tgt := 70) dX11_isFrozen_54 (by decide) (by omega) (by omega) (fun h54 => ?_) (fun h54 => ?_)) | refine e_icmp_ne (tgt := 70) dX11_isFrozen_54 (by decide) (fun h54 => ?_) (fun h54 => ?_)
                · try first | contradiction | omega
                  all_goals
                    refine e_iconst (v := nI 0) dX11_isFrozen_70 rfl ?_
                    first | ((with_reducible refine mk_b ?_); refine e_ret (some _) rfl (r_bool dX11_isFrozen_71 rfl) ?_) | ((with_reducible refine mk_n1 ?_); refine e_ret (some _) rfl (r_b1 dX11_isFrozen_71 rfl) ?_) | ((with_reducible refine mk_n0 ?_); refine e_ret (some _) rfl (r_b0 dX11_isFrozen_71 rfl) ?_)
                    exact xq (by first | rfl | simp_all [bI_t, bI_f]) rfl rfl rfl rfl rfl
                · try first | contradiction | omega
                  all_goals
                    refine e_aload_n dX11_isFrozen_57 rfl rfl ?_
                    refine e_iload_n dX11_isFrozen_58 rfl rfl ?_
                    refine e_iload_n dX11_isFrozen_59 rfl rfl ?_
                    refine x_V2 (M' := mX11_isInTrail) dX11_isFrozen_60 ml_X11_133 ok_X11_isInTrail (by decide) rfl im_X11_isInTrail se_X11_isInTrail (ct_X11_isInTrail ‹_› ‹_› (by omega) (by omega)) (Nat.le_of_ble_eq_true rfl) (by decide) (Nat.le_of_ble_eq_true rfl) ?_
                    first | ((with_reducible refine mk_b ?_); refine b_if_ne (tgt := 70) dX11_isFrozen_63 (by decide) (fun h63 => ?_) (fun h63 => ?_)) | ((with_reducible refine mk_ll ?_); refine m_if_ne (tgt := 70) dX11_isFrozen_63 (by decide) (by omega) (by omega) (fun h63 => ?_) (fun h63 => ?_)) | ((with_reducible refine mk_lc ?_); refine l_if_ne (tgt := 70) dX11_isFrozen_63 (by decide) (fun h63 => ?_) (fun h63 => ?_)) | ((with_reducible refine mk_n ?_); refine n_if_ne (tgt := 70) dX11_isFrozen_63 (by decide) (by omega) (fun h63 => ?_) (fun h63 => ?_)) | refine e_if_ne (tgt := 70) dX11_isFrozen_63 (by decide) (fun h63 => ?_) (fun h63 => ?_)
                    · try first | contradiction | omega
                      all_goals
                        refine e_iconst (v := nI 0) dX11_isFrozen_70 rfl ?_
                        first | ((with_reducible refine mk_b ?_); refine e_ret (some _) rfl (r_bool dX11_isFrozen_71 rfl) ?_) | ((with_reducible refine mk_n1 ?_); refine e_ret (some _) rfl (r_b1 dX11_isFrozen_71 rfl) ?_) | ((with_reducible refine mk_n0 ?_); refine e_ret (some _) rfl (r_b0 dX11_isFrozen_71 rfl) ?_)
                        exact xq (by first | rfl | simp_all [bI_t, bI_f]) rfl rfl rfl rfl rfl
                    · try first | contradiction | omega
                      all_goals
                        refine e_iconst (v := nI 1) dX11_isFrozen_66 rfl ?_
                        refine e_goto (tgt := 71) dX11_isFrozen_67 (by decide) ?_
                        first | ((with_reducible refine mk_b ?_); refine e_ret (some _) rfl (r_bool dX11_isFrozen_71 rfl) ?_) | ((with_reducible refine mk_n1 ?_); refine e_ret (some _) rfl (r_b1 dX11_isFrozen_71 rfl) ?_) | ((with_reducible refine mk_n0 ?_); refine e_ret (some _) rfl (r_b0 dX11_isFrozen_71 rfl) ?_)
                        exact xq (by first | rfl | simp_all [bI_t, bI_f]) rfl rfl rfl rfl rfl
    · try first | contradiction | omega
      all_goals
        refine e_iconst (v := nI 0) dX11_isFrozen_15 rfl ?_
        first | ((with_reducible refine mk_b ?_); refine e_ret (some _) rfl (r_bool dX11_isFrozen_16 rfl) ?_) | ((with_reducible refine mk_n1 ?_); refine e_ret (some _) rfl (r_b1 dX11_isFrozen_16 rfl) ?_) | ((with_reducible refine mk_n0 ?_); refine e_ret (some _) rfl (r_b0 dX11_isFrozen_16 rfl) ?_)
        exact xq (by first | rfl | simp_all [bI_t, bI_f]) rfl rfl rfl rfl rfl
  | some m =>
    have hm := mvL_lt hmv
    have hq := iv_mv iv hm
    have e : fzK w k = fzM w m k := by unfold fzK; rw [hmv]
    rw [e]
    refine e_aload_n dX11_isFrozen_0 rfl rfl ?_
    refine e_aload_n dX11_isFrozen_1 rfl rfl ?_
    refine e_iload_n dX11_isFrozen_2 rfl rfl ?_
    refine x_V1 (M' := mX11_spanWith) dX11_isFrozen_3 ml_X11_58 ok_X11_spanWith (by decide) rfl im_X11_spanWith se_X11_spanWith (ct_X11_spanWith ‹_› ‹_› (by omega)) (Nat.le_of_ble_eq_true rfl) (by decide) (Nat.le_of_ble_eq_true rfl) ?_
    refine x_V1 (M' := mX11_moveOfSpan) dX11_isFrozen_6 ml_X11_79 ok_X11_moveOfSpan (by decide) rfl im_X11_moveOfSpan se_X11_moveOfSpan (ct_X11_moveOfSpan ‹_› ‹_› (by omega)) (Nat.le_of_ble_eq_true rfl) (by decide) (Nat.le_of_ble_eq_true rfl) ?_
    rw [hmv]
    refine e_istore_n dX11_isFrozen_9 rfl (Nat.le_of_ble_eq_true rfl) rfl ?_
    refine e_iload_n dX11_isFrozen_10 rfl rfl ?_
    refine e_iconst (v := -1) dX11_isFrozen_11 rfl ?_
    first | ((with_reducible refine mk_mo ?_); refine p_icmp_ne (tgt := 17) dX11_isFrozen_12 (by decide) (fun h12 => ?_) (fun h12 => ?_)) | ((with_reducible refine mk_ms ?_); refine s_icmp_ne (tgt := 17) dX11_isFrozen_12 (by decide) (by omega) (fun h12 => ?_) (fun h12 => ?_)) | ((with_reducible refine mk_mn ?_); refine q_icmp_ne (tgt := 17) dX11_isFrozen_12 (by decide) (by omega) (fun h12 => ?_) (fun h12 => ?_)) | ((with_reducible refine mk_nn ?_); refine n_icmp_ne (tgt := 17) dX11_isFrozen_12 (by decide) (by omega) (by omega) (fun h12 => ?_) (fun h12 => ?_)) | refine e_icmp_ne (tgt := 17) dX11_isFrozen_12 (by decide) (fun h12 => ?_) (fun h12 => ?_)
    · try first | contradiction | omega
      all_goals
        refine e_aload_n dX11_isFrozen_17 rfl rfl ?_
        refine e_getR dX11_isFrozen_18 fl_X11_7 rfl (by assumption) ?_
        refine e_iload_n dX11_isFrozen_21 rfl rfl ?_
        refine x_S1 (M' := mX11_moveAt) dX11_isFrozen_22 ml_X11_62 ok_X11_moveAt rfl sc_X11_moveAt (ct_X11_moveAt) (Nat.le_of_ble_eq_true rfl) (by decide) (Nat.le_of_ble_eq_true rfl) ?_
        refine e_iconst (v := nI 0) dX11_isFrozen_25 rfl ?_
        first | ((with_reducible refine mk_nn ?_); refine n_iadd dX11_isFrozen_26 ?_) | refine e_iadd dX11_isFrozen_26 ?_
        first | ((with_reducible refine mk_ldw ?_); refine e_ldw dX11_isFrozen_27 (by omega) ?_) | refine e_iald _ dX11_isFrozen_27 ⟨by decide, by decide⟩ rfl rfl (by simp only [lenK]; omega) ?_
        refine e_iconst (v := nI 3) dX11_isFrozen_28 rfl ?_
        first | ((with_reducible refine mk_mo ?_); refine p_icmp_eq (tgt := 66) dX11_isFrozen_29 (by decide) (fun h29 => ?_) (fun h29 => ?_)) | ((with_reducible refine mk_ms ?_); refine s_icmp_eq (tgt := 66) dX11_isFrozen_29 (by decide) (by omega) (fun h29 => ?_) (fun h29 => ?_)) | ((with_reducible refine mk_mn ?_); refine q_icmp_eq (tgt := 66) dX11_isFrozen_29 (by decide) (by omega) (fun h29 => ?_) (fun h29 => ?_)) | ((with_reducible refine mk_nn ?_); refine n_icmp_eq (tgt := 66) dX11_isFrozen_29 (by decide) (by omega) (by omega) (fun h29 => ?_) (fun h29 => ?_)) | refine e_icmp_eq (tgt := 66) dX11_isFrozen_29 (by decide) (fun h29 => ?_) (fun h29 => ?_)
        · try first | contradiction | omega
          all_goals
            refine e_iconst (v := nI 1) dX11_isFrozen_66 rfl ?_
            refine e_goto (tgt := 71) dX11_isFrozen_67 (by decide) ?_
            first | ((with_reducible refine mk_b ?_); refine e_ret (some _) rfl (r_bool dX11_isFrozen_71 rfl) ?_) | ((with_reducible refine mk_n1 ?_); refine e_ret (some _) rfl (r_b1 dX11_isFrozen_71 rfl) ?_) | ((with_reducible refine mk_n0 ?_); refine e_ret (some _) rfl (r_b0 dX11_isFrozen_71 rfl) ?_)
            first | (refine xq (bl0 ?_) rfl rfl rfl rfl rfl; grind [fzM, ctB]) | (refine xq (bl1 ?_) rfl rfl rfl rfl rfl; grind [fzM, ctB])
        · try first | contradiction | omega
          all_goals
            refine e_aload_n dX11_isFrozen_32 rfl rfl ?_
            refine e_iload_n dX11_isFrozen_33 rfl rfl ?_
            refine x_V1 (M' := mX11_isCatching) dX11_isFrozen_34 ml_X11_130 ok_X11_isCatching (by decide) rfl im_X11_isCatching se_X11_isCatching (ct_X11_isCatching ‹_› ‹_› (some m) (fun q hq => by cases hq; exact hm)) (Nat.le_of_ble_eq_true rfl) (by decide) (Nat.le_of_ble_eq_true rfl) ?_
            first | ((with_reducible refine mk_b ?_); refine b_if_eq (tgt := 70) dX11_isFrozen_37 (by decide) (fun h37 => ?_) (fun h37 => ?_)) | ((with_reducible refine mk_ll ?_); refine m_if_eq (tgt := 70) dX11_isFrozen_37 (by decide) (by omega) (by omega) (fun h37 => ?_) (fun h37 => ?_)) | ((with_reducible refine mk_lc ?_); refine l_if_eq (tgt := 70) dX11_isFrozen_37 (by decide) (fun h37 => ?_) (fun h37 => ?_)) | ((with_reducible refine mk_n ?_); refine n_if_eq (tgt := 70) dX11_isFrozen_37 (by decide) (by omega) (fun h37 => ?_) (fun h37 => ?_)) | refine e_if_eq (tgt := 70) dX11_isFrozen_37 (by decide) (fun h37 => ?_) (fun h37 => ?_)
            · try first | contradiction | omega
              all_goals
                refine e_iconst (v := nI 0) dX11_isFrozen_70 rfl ?_
                first | ((with_reducible refine mk_b ?_); refine e_ret (some _) rfl (r_bool dX11_isFrozen_71 rfl) ?_) | ((with_reducible refine mk_n1 ?_); refine e_ret (some _) rfl (r_b1 dX11_isFrozen_71 rfl) ?_) | ((with_reducible refine mk_n0 ?_); refine e_ret (some _) rfl (r_b0 dX11_isFrozen_71 rfl) ?_)
                first | (refine xq (bl0 ?_) rfl rfl rfl rfl rfl; grind [fzM, ctB]) | (refine xq (bl1 ?_) rfl rfl rfl rfl rfl; grind [fzM, ctB])
            · try first | contradiction | omega
              all_goals
                refine e_aload_n dX11_isFrozen_40 rfl rfl ?_
                refine e_getR dX11_isFrozen_41 fl_X11_7 rfl (by assumption) ?_
                refine e_iload_n dX11_isFrozen_44 rfl rfl ?_
                refine x_S1 (M' := mX11_moveAt) dX11_isFrozen_45 ml_X11_62 ok_X11_moveAt rfl sc_X11_moveAt (ct_X11_moveAt) (Nat.le_of_ble_eq_true rfl) (by decide) (Nat.le_of_ble_eq_true rfl) ?_
                refine e_bipush (v := nI 6) dX11_isFrozen_48 rfl ?_
                first | ((with_reducible refine mk_nn ?_); refine n_iadd dX11_isFrozen_50 ?_) | refine e_iadd dX11_isFrozen_50 ?_
                first | ((with_reducible refine mk_ldw ?_); refine e_ldw dX11_isFrozen_51 (by omega) ?_) | refine e_iald _ dX11_isFrozen_51 ⟨by decide, by decide⟩ rfl rfl (by simp only [lenK]; omega) ?_
                refine e_bipush (v := nI 60) dX11_isFrozen_52 rfl ?_
                first | ((with_reducible refine mk_mo ?_); refine p_icmp_ne (tgt := 70) dX11_isFrozen_54 (by decide) (fun h54 => ?_) (fun h54 => ?_)) | ((with_reducible refine mk_ms ?_); refine s_icmp_ne (tgt := 70) dX11_isFrozen_54 (by decide) (by omega) (fun h54 => ?_) (fun h54 => ?_)) | ((with_reducible refine mk_mn ?_); refine q_icmp_ne (tgt := 70) dX11_isFrozen_54 (by decide) (by omega) (fun h54 => ?_) (fun h54 => ?_)) | ((with_reducible refine mk_nn ?_); refine n_icmp_ne (tgt := 70) dX11_isFrozen_54 (by decide) (by omega) (by omega) (fun h54 => ?_) (fun h54 => ?_)) | refine e_icmp_ne (tgt := 70) dX11_isFrozen_54 (by decide) (fun h54 => ?_) (fun h54 => ?_)
                · try first | contradiction | omega
                  all_goals
                    refine e_iconst (v := nI 0) dX11_isFrozen_70 rfl ?_
                    first | ((with_reducible refine mk_b ?_); refine e_ret (some _) rfl (r_bool dX11_isFrozen_71 rfl) ?_) | ((with_reducible refine mk_n1 ?_); refine e_ret (some _) rfl (r_b1 dX11_isFrozen_71 rfl) ?_) | ((with_reducible refine mk_n0 ?_); refine e_ret (some _) rfl (r_b0 dX11_isFrozen_71 rfl) ?_)
                    first | (refine xq (bl0 ?_) rfl rfl rfl rfl rfl; grind [fzM, ctB]) | (refine xq (bl1 ?_) rfl rfl rfl rfl rfl; grind [fzM, ctB])
                · try first | contradiction | omega
                  all_goals
                    refine e_aload_n dX11_isFrozen_57 rfl rfl ?_
                    refine e_iload_n dX11_isFrozen_58 rfl rfl ?_
                    refine e_iload_n dX11_isFrozen_59 rfl rfl ?_
                    refine x_V2 (M' := mX11_isInTrail) dX11_isFrozen_60 ml_X11_133 ok_X11_isInTrail (by decide) rfl im_X11_isInTrail se_X11_isInTrail (ct_X11_isInTrail ‹_› ‹_› (by omega) (by omega)) (Nat.le_of_ble_eq_true rfl) (by decide) (Nat.le_of_ble_eq_true rfl) ?_
                    first | ((with_reducible refine mk_b ?_); refine b_if_ne (tgt := 70) dX11_isFrozen_63 (by decide) (fun h63 => ?_) (fun h63 => ?_)) | ((with_reducible refine mk_ll ?_); refine m_if_ne (tgt := 70) dX11_isFrozen_63 (by decide) (by omega) (by omega) (fun h63 => ?_) (fun h63 => ?_)) | ((with_reducible refine mk_lc ?_); refine l_if_ne (tgt := 70) dX11_isFrozen_63 (by decide) (fun h63 => ?_) (fun h63 => ?_)) | ((with_reducible refine mk_n ?_); refine n_if_ne (tgt := 70) dX11_isFrozen_63 (by decide) (by omega) (fun h63 => ?_) (fun h63 => ?_)) | refine e_if_ne (tgt := 70) dX11_isFrozen_63 (by decide) (fun h63 => ?_) (fun h63 => ?_)
                    · try first | contradiction | omega
                      all_goals
                        refine e_iconst (v := nI 0) dX11_isFrozen_70 rfl ?_
                        first | ((with_reducible refine mk_b ?_); refine e_ret (some _) rfl (r_bool dX11_isFrozen_71 rfl) ?_) | ((with_reducible refine mk_n1 ?_); refine e_ret (some _) rfl (r_b1 dX11_isFrozen_71 rfl) ?_) | ((with_reducible refine mk_n0 ?_); refine e_ret (some _) rfl (r_b0 dX11_isFrozen_71 rfl) ?_)
                        first | (refine xq (bl0 ?_) rfl rfl rfl rfl rfl; grind [fzM, ctB]) | (refine xq (bl1 ?_) rfl rfl rfl rfl rfl; grind [fzM, ctB])
                    · try first | contradiction | omega
                      all_goals
                        refine e_iconst (v := nI 1) dX11_isFrozen_66 rfl ?_
                        refine e_goto (tgt := 71) dX11_isFrozen_67 (by decide) ?_
                        first | ((with_reducible refine mk_b ?_); refine e_ret (some _) rfl (r_bool dX11_isFrozen_71 rfl) ?_) | ((with_reducible refine mk_n1 ?_); refine e_ret (some _) rfl (r_b1 dX11_isFrozen_71 rfl) ?_) | ((with_reducible refine mk_n0 ?_); refine e_ret (some _) rfl (r_b0 dX11_isFrozen_71 rfl) ?_)
                        first | (refine xq (bl0 ?_) rfl rfl rfl rfl rfl; grind [fzM, ctB]) | (refine xq (bl1 ?_) rfl rfl rfl rfl rfl; grind [fzM, ctB])
    · try first | contradiction | omega
      all_goals
        refine e_iconst (v := nI 0) dX11_isFrozen_15 rfl ?_
        first | ((with_reducible refine mk_b ?_); refine e_ret (some _) rfl (r_bool dX11_isFrozen_16 rfl) ?_) | ((with_reducible refine mk_n1 ?_); refine e_ret (some _) rfl (r_b1 dX11_isFrozen_16 rfl) ?_) | ((with_reducible refine mk_n0 ?_); refine e_ret (some _) rfl (r_b0 dX11_isFrozen_16 rfl) ?_)
        first | (refine xq (bl0 ?_) rfl rfl rfl rfl rfl; grind [fzM, ctB]) | (refine xq (bl1 ?_) rfl rfl rfl rfl rfl; grind [fzM, ctB])
theorem ct_X11_answerBy {fi : FI} {fr : FR} {ai : FI} {ar : FR} {N : Nat} {w : Nat → Nat} (sm : SM fr) (iv : Inv w) {c k : Nat} (hc : c < 6) (hk : k < 2147483648) : CP mX11_answerBy 1 0 0 [.ref (rf 11 80), .int (nI c), .int (nI k)] fi fr (mW ai w) ar N (xQ (some (.int (nI (anF w c k)))) fi fr (mW ai w) ar N) := by
  obtain ⟨sW, sA, sK, sU, sC, sKC, sT, sCl⟩ := id sm
  have h1 := iv_n iv
  have h3 := iv_mm iv
  have hcl := iv_cl iv hc
  have hs := spW_lt iv k
  have ho := iv_own iv hs
  have hep := iv_ep iv hs
  have hep0 := iv_ep0 iv
  change EV mX11_answerBy 1 0 0 0 [some (.ref (rf 11 80)), some (.int (nI c)), some (.int (nI k)), none, none, none] [] fi fr (mW ai w) ar N (xQ (some (.int (nI (anF w c k)))) fi fr (mW ai w) ar N)
  by_cases h0 : w (7106 + 98 * c + 0) = 0
  · skip
    refine e_iload_n dX11_answerBy_0 rfl rfl ?_
    refine x_S1 (M' := mX11_clientAt) dX11_answerBy_1 ml_X11_118 ok_X11_clientAt rfl sc_X11_clientAt (ct_X11_clientAt) (Nat.le_of_ble_eq_true rfl) (by decide) (Nat.le_of_ble_eq_true rfl) ?_
    refine e_istore_n dX11_answerBy_4 rfl (Nat.le_of_ble_eq_true rfl) rfl ?_
    refine e_aload_n dX11_answerBy_5 rfl rfl ?_
    refine e_getR dX11_answerBy_6 fl_X11_7 rfl (by assumption) ?_
    refine e_iload_n dX11_answerBy_9 rfl rfl ?_
    refine e_iconst (v := nI 0) dX11_answerBy_10 rfl ?_
    first | ((with_reducible refine mk_nn ?_); refine n_iadd dX11_answerBy_11 ?_) | refine e_iadd dX11_answerBy_11 ?_
    first | ((with_reducible refine mk_ldw ?_); refine e_ldw dX11_answerBy_12 (by omega) ?_) | refine e_iald _ dX11_answerBy_12 ⟨by decide, by decide⟩ rfl rfl (by simp only [lenK]; omega) ?_
    first | ((with_reducible refine mk_b ?_); refine b_if_ne (tgt := 18) dX11_answerBy_13 (by decide) (fun h13 => ?_) (fun h13 => ?_)) | ((with_reducible refine mk_ll ?_); refine m_if_ne (tgt := 18) dX11_answerBy_13 (by decide) (by omega) (by omega) (fun h13 => ?_) (fun h13 => ?_)) | ((with_reducible refine mk_lc ?_); refine l_if_ne (tgt := 18) dX11_answerBy_13 (by decide) (fun h13 => ?_) (fun h13 => ?_)) | ((with_reducible refine mk_n ?_); refine n_if_ne (tgt := 18) dX11_answerBy_13 (by decide) (by omega) (fun h13 => ?_) (fun h13 => ?_)) | refine e_if_ne (tgt := 18) dX11_answerBy_13 (by decide) (fun h13 => ?_) (fun h13 => ?_)
    · try first | contradiction | omega
      all_goals
        refine e_aload_n dX11_answerBy_18 rfl rfl ?_
        refine e_getR dX11_answerBy_19 fl_X11_7 rfl (by assumption) ?_
        refine e_iload_n dX11_answerBy_22 rfl rfl ?_
        refine e_iconst (v := nI 1) dX11_answerBy_23 rfl ?_
        first | ((with_reducible refine mk_nn ?_); refine n_iadd dX11_answerBy_24 ?_) | refine e_iadd dX11_answerBy_24 ?_
        first | ((with_reducible refine mk_ldw ?_); refine e_ldw dX11_answerBy_25 (by omega) ?_) | refine e_iald _ dX11_answerBy_25 ⟨by decide, by decide⟩ rfl rfl (by simp only [lenK]; omega) ?_
        refine e_iconst (v := nI 1) dX11_answerBy_26 rfl ?_
        first | ((with_reducible refine mk_nn ?_); refine n_isub dX11_answerBy_27 (by omega) ?_) | refine e_isub dX11_answerBy_27 ?_
        refine e_istore dX11_answerBy_28 (Nat.le_of_ble_eq_true rfl) rfl ?_
        omega
    · try first | contradiction | omega
      all_goals
        refine e_iconst (v := nI 1) dX11_answerBy_16 rfl ?_
        refine e_ret (some _) rfl (r_int dX11_answerBy_17 rfl) ?_
        refine xq ?_ rfl rfl rfl rfl rfl
        unfold anF
        first | rw [if_pos (by assumption)] | rw [if_neg (by assumption), if_pos (by assumption)] | rw [if_neg (by assumption), if_neg (by assumption), if_pos ⟨by omega, by omega⟩] | rw [if_neg (by assumption), if_neg (by assumption), if_neg (by omega)]
  · have hcw := cW_lt iv hc h0 k
    have hj := hcl.2.2.2.2 _ hcw
    have hu := iv_up iv (s := w (7106 + 98 * c + 34 + cW w c k)) (by omega)
    have key : ∀ i, i < w (7106 + 98 * c + 1) → EV mX11_answerBy 1 0 0 51 [some (.ref (rf 11 80)), some (.int (nI c)), some (.int (nI k)), some (.int (nI (7106 + 98 * c))), some (.int (nI (cW w c k))), none] [] fi fr (mW ai w) ar N (xQ (some (.int (nI (anF w c k)))) fi fr (mW ai w) ar N) → cF w c k i = cW w c k → EV mX11_answerBy 1 0 0 30 [some (.ref (rf 11 80)), some (.int (nI c)), some (.int (nI k)), some (.int (nI (7106 + 98 * c))), some (.int (nI i)), none] [] fi fr (mW ai w) ar N (xQ (some (.int (nI (anF w c k)))) fi fr (mW ai w) ar N) := by
      intro i
      induction i with
      | zero =>
        intro hi hr hcf
        have hz : w (7106 + 98 * c + 2 + 0) = 0 := hcl.2.2.2.1
        have e0 : cW w c k = 0 := hcf.symm
        rw [e0] at hr
        refine e_aload_n dX11_answerBy_30 rfl rfl ?_
        refine e_getR dX11_answerBy_31 fl_X11_7 rfl (by assumption) ?_
        refine e_iload_n dX11_answerBy_34 rfl rfl ?_
        refine e_iconst (v := nI 2) dX11_answerBy_35 rfl ?_
        first | ((with_reducible refine mk_nn ?_); refine n_iadd dX11_answerBy_36 ?_) | refine e_iadd dX11_answerBy_36 ?_
        refine e_iload dX11_answerBy_37 rfl ?_
        first | ((with_reducible refine mk_nn ?_); refine n_iadd dX11_answerBy_39 ?_) | refine e_iadd dX11_answerBy_39 ?_
        first | ((with_reducible refine mk_ldw ?_); refine e_ldw dX11_answerBy_40 (by omega) ?_) | refine e_iald _ dX11_answerBy_40 ⟨by decide, by decide⟩ rfl rfl (by simp only [lenK]; omega) ?_
        refine e_iload_n dX11_answerBy_41 rfl rfl ?_
        first | ((with_reducible refine mk_nn ?_); refine n_icmp_le (tgt := 51) dX11_answerBy_42 (by decide) (by omega) (by omega) (fun h42 => ?_) (fun h42 => ?_)) | refine e_icmp_le (tgt := 51) dX11_answerBy_42 (by decide) (fun h42 => ?_) (fun h42 => ?_)
        · try first | contradiction | omega
          all_goals
            exact hr
        · try first | contradiction | omega
          all_goals
            first | refine n_dec dX11_answerBy_45 rfl (Nat.le_of_ble_eq_true rfl) rfl ?_ | refine e_iinc dX11_answerBy_45 rfl rfl (Nat.le_of_ble_eq_true rfl) rfl ?_
            refine e_goto (tgt := 30) dX11_answerBy_48 (by decide) ?_
            omega
      | succ i ih =>
        intro hi hr hcf
        have hl := (hcl.2.2.2.2 _ hi).1
        refine e_aload_n dX11_answerBy_30 rfl rfl ?_
        refine e_getR dX11_answerBy_31 fl_X11_7 rfl (by assumption) ?_
        refine e_iload_n dX11_answerBy_34 rfl rfl ?_
        refine e_iconst (v := nI 2) dX11_answerBy_35 rfl ?_
        first | ((with_reducible refine mk_nn ?_); refine n_iadd dX11_answerBy_36 ?_) | refine e_iadd dX11_answerBy_36 ?_
        refine e_iload dX11_answerBy_37 rfl ?_
        first | ((with_reducible refine mk_nn ?_); refine n_iadd dX11_answerBy_39 ?_) | refine e_iadd dX11_answerBy_39 ?_
        first | ((with_reducible refine mk_ldw ?_); refine e_ldw dX11_answerBy_40 (by omega) ?_) | refine e_iald _ dX11_answerBy_40 ⟨by decide, by decide⟩ rfl rfl (by simp only [lenK]; omega) ?_
        refine e_iload_n dX11_answerBy_41 rfl rfl ?_
        first | ((with_reducible refine mk_nn ?_); refine n_icmp_le (tgt := 51) dX11_answerBy_42 (by decide) (by omega) (by omega) (fun h42 => ?_) (fun h42 => ?_)) | refine e_icmp_le (tgt := 51) dX11_answerBy_42 (by decide) (fun h42 => ?_) (fun h42 => ?_)
        · try first | contradiction | omega
          all_goals
            have e0 : cF w c k (i + 1) = i + 1 := by rw [cF_s, if_pos (by omega)]
            rw [← hcf, e0] at hr
            exact hr
        · try first | contradiction | omega
          all_goals
            first | refine n_dec dX11_answerBy_45 rfl (Nat.le_of_ble_eq_true rfl) rfl ?_ | refine e_iinc dX11_answerBy_45 rfl rfl (Nat.le_of_ble_eq_true rfl) rfl ?_
            refine e_goto (tgt := 30) dX11_answerBy_48 (by decide) ?_
            have e0 : cF w c k (i + 1) = cF w c k i := by rw [cF_s, if_neg (by omega)]
            exact ih (by omega) hr (by rw [← e0]; exact hcf)
    have KK : EV mX11_answerBy 1 0 0 51 [some (.ref (rf 11 80)), some (.int (nI c)), some (.int (nI k)), some (.int (nI (7106 + 98 * c))), some (.int (nI (cW w c k))), none] [] fi fr (mW ai w) ar N (xQ (some (.int (nI (anF w c k)))) fi fr (mW ai w) ar N) := by
      skip
      refine e_aload_n dX11_answerBy_51 rfl rfl ?_
      refine e_iload_n dX11_answerBy_52 rfl rfl ?_
      refine x_V1 (M' := mX11_spanWith) dX11_answerBy_53 ml_X11_58 ok_X11_spanWith (by decide) rfl im_X11_spanWith se_X11_spanWith (ct_X11_spanWith ‹_› ‹_› (by omega)) (Nat.le_of_ble_eq_true rfl) (by decide) (Nat.le_of_ble_eq_true rfl) ?_
      refine e_istore dX11_answerBy_56 (Nat.le_of_ble_eq_true rfl) rfl ?_
      refine e_aload_n dX11_answerBy_58 rfl rfl ?_
      refine e_getR dX11_answerBy_59 fl_X11_7 rfl (by assumption) ?_
      refine e_iconst (v := nI 4) dX11_answerBy_62 rfl ?_
      refine e_aload_n dX11_answerBy_63 rfl rfl ?_
      refine e_getR dX11_answerBy_64 fl_X11_7 rfl (by assumption) ?_
      refine e_iload_n dX11_answerBy_67 rfl rfl ?_
      refine e_bipush (v := nI 34) dX11_answerBy_68 rfl ?_
      first | ((with_reducible refine mk_nn ?_); refine n_iadd dX11_answerBy_70 ?_) | refine e_iadd dX11_answerBy_70 ?_
      refine e_iload dX11_answerBy_71 rfl ?_
      first | ((with_reducible refine mk_nn ?_); refine n_iadd dX11_answerBy_73 ?_) | refine e_iadd dX11_answerBy_73 ?_
      first | ((with_reducible refine mk_ldw ?_); refine e_ldw dX11_answerBy_74 (by omega) ?_) | refine e_iald _ dX11_answerBy_74 ⟨by decide, by decide⟩ rfl rfl (by simp only [lenK]; omega) ?_
      first | ((with_reducible refine mk_nn ?_); refine n_iadd dX11_answerBy_75 ?_) | refine e_iadd dX11_answerBy_75 ?_
      first | ((with_reducible refine mk_ldw ?_); refine e_ldw dX11_answerBy_76 (by omega) ?_) | refine e_iald _ dX11_answerBy_76 ⟨by decide, by decide⟩ rfl rfl (by simp only [lenK]; omega) ?_
      first | ((with_reducible refine mk_b ?_); refine b_if_ne (tgt := 82) dX11_answerBy_77 (by decide) (fun h77 => ?_) (fun h77 => ?_)) | ((with_reducible refine mk_ll ?_); refine m_if_ne (tgt := 82) dX11_answerBy_77 (by decide) (by omega) (by omega) (fun h77 => ?_) (fun h77 => ?_)) | ((with_reducible refine mk_lc ?_); refine l_if_ne (tgt := 82) dX11_answerBy_77 (by decide) (fun h77 => ?_) (fun h77 => ?_)) | ((with_reducible refine mk_n ?_); refine n_if_ne (tgt := 82) dX11_answerBy_77 (by decide) (by omega) (fun h77 => ?_) (fun h77 => ?_)) | refine e_if_ne (tgt := 82) dX11_answerBy_77 (by decide) (fun h77 => ?_) (fun h77 => ?_)
      · try first | contradiction | omega
        all_goals
          refine e_aload_n dX11_answerBy_82 rfl rfl ?_
          refine e_getR dX11_answerBy_83 fl_X11_7 rfl (by assumption) ?_
          refine e_iload_n dX11_answerBy_86 rfl rfl ?_
          refine e_bipush (v := nI 34) dX11_answerBy_87 rfl ?_
          first | ((with_reducible refine mk_nn ?_); refine n_iadd dX11_answerBy_89 ?_) | refine e_iadd dX11_answerBy_89 ?_
          refine e_iload dX11_answerBy_90 rfl ?_
          first | ((with_reducible refine mk_nn ?_); refine n_iadd dX11_answerBy_92 ?_) | refine e_iadd dX11_answerBy_92 ?_
          first | ((with_reducible refine mk_ldw ?_); refine e_ldw dX11_answerBy_93 (by omega) ?_) | refine e_iald _ dX11_answerBy_93 ⟨by decide, by decide⟩ rfl rfl (by simp only [lenK]; omega) ?_
          refine e_aload_n dX11_answerBy_94 rfl rfl ?_
          refine e_getR dX11_answerBy_95 fl_X11_7 rfl (by assumption) ?_
          refine e_bipush (v := nI 42) dX11_answerBy_98 rfl ?_
          refine e_iload dX11_answerBy_100 rfl ?_
          first | ((with_reducible refine mk_nn ?_); refine n_iadd dX11_answerBy_102 ?_) | refine e_iadd dX11_answerBy_102 ?_
          first | ((with_reducible refine mk_ldw ?_); refine e_ldw dX11_answerBy_103 (by omega) ?_) | refine e_iald _ dX11_answerBy_103 ⟨by decide, by decide⟩ rfl rfl (by simp only [lenK]; omega) ?_
          first | ((with_reducible refine mk_mo ?_); refine p_icmp_ne (tgt := 132) dX11_answerBy_104 (by decide) (fun h104 => ?_) (fun h104 => ?_)) | ((with_reducible refine mk_ms ?_); refine s_icmp_ne (tgt := 132) dX11_answerBy_104 (by decide) (by omega) (fun h104 => ?_) (fun h104 => ?_)) | ((with_reducible refine mk_mn ?_); refine q_icmp_ne (tgt := 132) dX11_answerBy_104 (by decide) (by omega) (fun h104 => ?_) (fun h104 => ?_)) | ((with_reducible refine mk_nn ?_); refine n_icmp_ne (tgt := 132) dX11_answerBy_104 (by decide) (by omega) (by omega) (fun h104 => ?_) (fun h104 => ?_)) | refine e_icmp_ne (tgt := 132) dX11_answerBy_104 (by decide) (fun h104 => ?_) (fun h104 => ?_)
          · try first | contradiction | omega
            all_goals
              refine e_iconst (v := nI 3) dX11_answerBy_132 rfl ?_
              refine e_goto (tgt := 137) dX11_answerBy_133 (by decide) ?_
              refine e_ret (some _) rfl (r_int dX11_answerBy_137 rfl) ?_
              refine xq ?_ rfl rfl rfl rfl rfl
              unfold anF
              first | rw [if_pos (by assumption)] | rw [if_neg (by assumption), if_pos (by assumption)] | rw [if_neg (by assumption), if_neg (by assumption), if_pos ⟨by omega, by omega⟩] | rw [if_neg (by assumption), if_neg (by assumption), if_neg (by omega)]
          · try first | contradiction | omega
            all_goals
              refine e_aload_n dX11_answerBy_107 rfl rfl ?_
              refine e_getR dX11_answerBy_108 fl_X11_7 rfl (by assumption) ?_
              refine e_iload_n dX11_answerBy_111 rfl rfl ?_
              refine e_bipush (v := nI 66) dX11_answerBy_112 rfl ?_
              first | ((with_reducible refine mk_nn ?_); refine n_iadd dX11_answerBy_114 ?_) | refine e_iadd dX11_answerBy_114 ?_
              refine e_iload dX11_answerBy_115 rfl ?_
              first | ((with_reducible refine mk_nn ?_); refine n_iadd dX11_answerBy_117 ?_) | refine e_iadd dX11_answerBy_117 ?_
              first | ((with_reducible refine mk_ldw ?_); refine e_ldw dX11_answerBy_118 (by omega) ?_) | refine e_iald _ dX11_answerBy_118 ⟨by decide, by decide⟩ rfl rfl (by simp only [lenK]; omega) ?_
              refine e_aload_n dX11_answerBy_119 rfl rfl ?_
              refine e_getR dX11_answerBy_120 fl_X11_7 rfl (by assumption) ?_
              refine e_bipush (v := nI 74) dX11_answerBy_123 rfl ?_
              refine e_iload dX11_answerBy_125 rfl ?_
              first | ((with_reducible refine mk_nn ?_); refine n_iadd dX11_answerBy_127 ?_) | refine e_iadd dX11_answerBy_127 ?_
              first | ((with_reducible refine mk_ldw ?_); refine e_ldw dX11_answerBy_128 (by omega) ?_) | refine e_iald _ dX11_answerBy_128 ⟨by decide, by decide⟩ rfl rfl (by simp only [lenK]; omega) ?_
              first | ((with_reducible refine mk_mo ?_); refine p_icmp_eq (tgt := 136) dX11_answerBy_129 (by decide) (fun h129 => ?_) (fun h129 => ?_)) | ((with_reducible refine mk_ms ?_); refine s_icmp_eq (tgt := 136) dX11_answerBy_129 (by decide) (by omega) (fun h129 => ?_) (fun h129 => ?_)) | ((with_reducible refine mk_mn ?_); refine q_icmp_eq (tgt := 136) dX11_answerBy_129 (by decide) (by omega) (fun h129 => ?_) (fun h129 => ?_)) | ((with_reducible refine mk_nn ?_); refine n_icmp_eq (tgt := 136) dX11_answerBy_129 (by decide) (by omega) (by omega) (fun h129 => ?_) (fun h129 => ?_)) | refine e_icmp_eq (tgt := 136) dX11_answerBy_129 (by decide) (fun h129 => ?_) (fun h129 => ?_)
              · try first | contradiction | omega
                all_goals
                  refine e_iconst (v := nI 0) dX11_answerBy_136 rfl ?_
                  refine e_ret (some _) rfl (r_int dX11_answerBy_137 rfl) ?_
                  refine xq ?_ rfl rfl rfl rfl rfl
                  unfold anF
                  first | rw [if_pos (by assumption)] | rw [if_neg (by assumption), if_pos (by assumption)] | rw [if_neg (by assumption), if_neg (by assumption), if_pos ⟨by omega, by omega⟩] | rw [if_neg (by assumption), if_neg (by assumption), if_neg (by omega)]
              · try first | contradiction | omega
                all_goals
                  refine e_iconst (v := nI 3) dX11_answerBy_132 rfl ?_
                  refine e_goto (tgt := 137) dX11_answerBy_133 (by decide) ?_
                  refine e_ret (some _) rfl (r_int dX11_answerBy_137 rfl) ?_
                  refine xq ?_ rfl rfl rfl rfl rfl
                  unfold anF
                  first | rw [if_pos (by assumption)] | rw [if_neg (by assumption), if_pos (by assumption)] | rw [if_neg (by assumption), if_neg (by assumption), if_pos ⟨by omega, by omega⟩] | rw [if_neg (by assumption), if_neg (by assumption), if_neg (by omega)]
      · try first | contradiction | omega
        all_goals
          refine e_iconst (v := nI 2) dX11_answerBy_80 rfl ?_
          refine e_ret (some _) rfl (r_int dX11_answerBy_81 rfl) ?_
          refine xq ?_ rfl rfl rfl rfl rfl
          unfold anF
          first | rw [if_pos (by assumption)] | rw [if_neg (by assumption), if_pos (by assumption)] | rw [if_neg (by assumption), if_neg (by assumption), if_pos ⟨by omega, by omega⟩] | rw [if_neg (by assumption), if_neg (by assumption), if_neg (by omega)]
    refine e_iload_n dX11_answerBy_0 rfl rfl ?_
    refine x_S1 (M' := mX11_clientAt) dX11_answerBy_1 ml_X11_118 ok_X11_clientAt rfl sc_X11_clientAt (ct_X11_clientAt) (Nat.le_of_ble_eq_true rfl) (by decide) (Nat.le_of_ble_eq_true rfl) ?_
    refine e_istore_n dX11_answerBy_4 rfl (Nat.le_of_ble_eq_true rfl) rfl ?_
    refine e_aload_n dX11_answerBy_5 rfl rfl ?_
    refine e_getR dX11_answerBy_6 fl_X11_7 rfl (by assumption) ?_
    refine e_iload_n dX11_answerBy_9 rfl rfl ?_
    refine e_iconst (v := nI 0) dX11_answerBy_10 rfl ?_
    first | ((with_reducible refine mk_nn ?_); refine n_iadd dX11_answerBy_11 ?_) | refine e_iadd dX11_answerBy_11 ?_
    first | ((with_reducible refine mk_ldw ?_); refine e_ldw dX11_answerBy_12 (by omega) ?_) | refine e_iald _ dX11_answerBy_12 ⟨by decide, by decide⟩ rfl rfl (by simp only [lenK]; omega) ?_
    first | ((with_reducible refine mk_b ?_); refine b_if_ne (tgt := 18) dX11_answerBy_13 (by decide) (fun h13 => ?_) (fun h13 => ?_)) | ((with_reducible refine mk_ll ?_); refine m_if_ne (tgt := 18) dX11_answerBy_13 (by decide) (by omega) (by omega) (fun h13 => ?_) (fun h13 => ?_)) | ((with_reducible refine mk_lc ?_); refine l_if_ne (tgt := 18) dX11_answerBy_13 (by decide) (fun h13 => ?_) (fun h13 => ?_)) | ((with_reducible refine mk_n ?_); refine n_if_ne (tgt := 18) dX11_answerBy_13 (by decide) (by omega) (fun h13 => ?_) (fun h13 => ?_)) | refine e_if_ne (tgt := 18) dX11_answerBy_13 (by decide) (fun h13 => ?_) (fun h13 => ?_)
    · try first | contradiction | omega
      all_goals
        refine e_aload_n dX11_answerBy_18 rfl rfl ?_
        refine e_getR dX11_answerBy_19 fl_X11_7 rfl (by assumption) ?_
        refine e_iload_n dX11_answerBy_22 rfl rfl ?_
        refine e_iconst (v := nI 1) dX11_answerBy_23 rfl ?_
        first | ((with_reducible refine mk_nn ?_); refine n_iadd dX11_answerBy_24 ?_) | refine e_iadd dX11_answerBy_24 ?_
        first | ((with_reducible refine mk_ldw ?_); refine e_ldw dX11_answerBy_25 (by omega) ?_) | refine e_iald _ dX11_answerBy_25 ⟨by decide, by decide⟩ rfl rfl (by simp only [lenK]; omega) ?_
        refine e_iconst (v := nI 1) dX11_answerBy_26 rfl ?_
        first | ((with_reducible refine mk_nn ?_); refine n_isub dX11_answerBy_27 (by omega) ?_) | refine e_isub dX11_answerBy_27 ?_
        refine e_istore dX11_answerBy_28 (Nat.le_of_ble_eq_true rfl) rfl ?_
        refine key _ (by omega) ?_ rfl
        exact KK
    · try first | contradiction | omega
      all_goals
        refine e_iconst (v := nI 1) dX11_answerBy_16 rfl ?_
        refine e_ret (some _) rfl (r_int dX11_answerBy_17 rfl) ?_
        refine xq ?_ rfl rfl rfl rfl rfl
        unfold anF
        first | rw [if_pos (by assumption)] | rw [if_neg (by assumption), if_pos (by assumption)] | rw [if_neg (by assumption), if_neg (by assumption), if_pos ⟨by omega, by omega⟩] | rw [if_neg (by assumption), if_neg (by assumption), if_neg (by omega)]
