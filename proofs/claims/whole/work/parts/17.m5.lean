def bst (c : Nat → Bool) (b : Nat → Nat → Bool) : Nat → Option Nat
  | 0 => none
  | n + 1 => if c n then (match bst c b n with
    | none => some n
    | some q => if b n q then some n else some q) else bst c b n
theorem bst_f {c : Nat → Bool} {b : Nat → Nat → Bool} {n : Nat} (h : c n = false) : bst c b (n + 1) = bst c b n := by show (if c n then _ else _) = _; rw [h]; rfl
theorem bst_0 {c : Nat → Bool} {b : Nat → Nat → Bool} {n : Nat} (h : c n = true) (g : bst c b n = none) : bst c b (n + 1) = some n := by show (if c n then _ else _) = _; rw [h, g]; rfl
theorem bst_1 {c : Nat → Bool} {b : Nat → Nat → Bool} {n q : Nat} (h : c n = true) (g : bst c b n = some q) (k : b n q = true) : bst c b (n + 1) = some n := by show (if c n then _ else _) = _; rw [h, g]; show (if b n q then _ else _) = _; rw [k]; rfl
theorem bst_2 {c : Nat → Bool} {b : Nat → Nat → Bool} {n q : Nat} (h : c n = true) (g : bst c b n = some q) (k : b n q = false) : bst c b (n + 1) = some q := by show (if c n then _ else _) = _; rw [h, g]; show (if b n q then _ else _) = _; rw [k]; rfl
theorem bst_in {c : Nat → Bool} {b : Nat → Nat → Bool} : ∀ {n q : Nat}, bst c b n = some q → q < n ∧ c q = true
  | 0, q, h => by cases h
  | n + 1, q, h => by
    cases hc : c n with
    | false => rw [bst_f hc] at h; have := bst_in h; exact ⟨by omega, this.2⟩
    | true =>
      cases hb : bst c b n with
      | none => rw [bst_0 hc hb] at h; obtain rfl := Option.some.inj h; exact ⟨by omega, hc⟩
      | some q2 =>
        cases hk : b n q2 with
        | true => rw [bst_1 hc hb hk] at h; obtain rfl := Option.some.inj h; exact ⟨by omega, hc⟩
        | false => rw [bst_2 hc hb hk] at h; obtain rfl := Option.some.inj h; have := bst_in hb; exact ⟨by omega, this.2⟩
theorem bst_no {c : Nat → Bool} {b : Nat → Nat → Bool} : ∀ {n : Nat}, bst c b n = none → ∀ i, i < n → c i = false
  | 0, _, i, hi => by omega
  | n + 1, h, i, hi => by
    cases hc : c n with
    | false =>
      rw [bst_f hc] at h
      by_cases e : i = n
      · rw [e]; exact hc
      · exact bst_no h i (by omega)
    | true =>
      cases hb : bst c b n with
      | none => rw [bst_0 hc hb] at h; cases h
      | some q2 =>
        cases hk : b n q2 with
        | true => rw [bst_1 hc hb hk] at h; cases h
        | false => rw [bst_2 hc hb hk] at h; cases h
theorem bst_mx {c : Nat → Bool} {f : Nat → Nat} : ∀ {n q : Nat}, bst c (fun s q => decide (f q < f s)) n = some q → ∀ i, i < n → c i = true → f i ≤ f q
  | 0, q, h, i, hi, _ => by omega
  | n + 1, q, h, i, hi, hci => by
    cases hc : c n with
    | false =>
      rw [bst_f hc] at h
      by_cases e : i = n
      · rw [e, hc] at hci; cases hci
      · exact bst_mx h i (by omega) hci
    | true =>
      cases hb : bst c (fun s q => decide (f q < f s)) n with
      | none =>
        rw [bst_0 hc hb] at h; obtain rfl := Option.some.inj h
        by_cases e : i = n
        · rw [e]; exact Nat.le_refl _
        · have := bst_no hb i (by omega); rw [this] at hci; cases hci
      | some q2 =>
        cases hk : decide (f q2 < f n) with
        | true =>
          rw [bst_1 hc hb hk] at h; obtain rfl := Option.some.inj h
          by_cases e : i = n
          · rw [e]; exact Nat.le_refl _
          · have := bst_mx hb i (by omega) hci; have := of_decide_eq_true hk; omega
        | false =>
          rw [bst_2 hc hb hk] at h; obtain rfl := Option.some.inj h
          by_cases e : i = n
          · rw [e]; have := of_decide_eq_false hk; omega
          · exact bst_mx hb i (by omega) hci
theorem bst_mn {c : Nat → Bool} {f : Nat → Nat} : ∀ {n q : Nat}, bst c (fun s q => decide (f s < f q)) n = some q → ∀ i, i < n → c i = true → f q ≤ f i
  | 0, q, h, i, hi, _ => by omega
  | n + 1, q, h, i, hi, hci => by
    cases hc : c n with
    | false =>
      rw [bst_f hc] at h
      by_cases e : i = n
      · rw [e, hc] at hci; cases hci
      · exact bst_mn h i (by omega) hci
    | true =>
      cases hb : bst c (fun s q => decide (f s < f q)) n with
      | none =>
        rw [bst_0 hc hb] at h; obtain rfl := Option.some.inj h
        by_cases e : i = n
        · rw [e]; exact Nat.le_refl _
        · have := bst_no hb i (by omega); rw [this] at hci; cases hci
      | some q2 =>
        cases hk : decide (f n < f q2) with
        | true =>
          rw [bst_1 hc hb hk] at h; obtain rfl := Option.some.inj h
          by_cases e : i = n
          · rw [e]; exact Nat.le_refl _
          · have := bst_mn hb i (by omega) hci; have := of_decide_eq_true hk; omega
        | false =>
          rw [bst_2 hc hb hk] at h; obtain rfl := Option.some.inj h
          by_cases e : i = n
          · rw [e]; have := of_decide_eq_false hk; omega
          · exact bst_mn hb i (by omega) hci
def otH (w : Nat → Nat) : Option Nat := bst (fun s => decide (w (4 + s) ≠ 0)) (fun s q => decide (ldF w q < ldF w s)) 6
def otL (w : Nat → Nat) : Option Nat := bst (fun s => decide (w (4 + s) ≠ 0)) (fun s q => decide (ldF w s < ldF w q)) 6
def obH (w : Nat → Nat) (u : Nat) : Option Nat := bst (fun s => decide (w (4 + s) ≠ 0) && decide (s ≠ u)) (fun s q => decide (ldF w q < ldF w s)) 6
def obL (w : Nat → Nat) (u : Nat) : Option Nat := bst (fun s => decide (w (4 + s) ≠ 0) && decide (s ≠ u)) (fun s q => decide (ldF w s < ldF w q)) 6
def hvO (w : Nat → Nat) (s : Nat) : Option Nat := bst (fun i => decide (w (42 + i) = s) && (mvL w (w (10 + i))).isNone) (fun i q => decide (wtF w q < wtF w i)) (w 1)
def dst (a b : Nat) : Nat := if a < b then b - a else a - b
def smO (w : Nat → Nat) (h e : Nat) : Option Nat := bst (fun i => decide (w (42 + i) = h) && (mvL w (w (10 + i))).isNone && decide (wtF w i ≠ 0) && decide (wtF w i < e)) (fun i q => decide (dst e (2 * wtF w i) < dst e (2 * wtF w q))) (w 1)
def ssO (w : Nat → Nat) (h : Nat) : Option Nat := if w 1 < 32 then bst (fun i => decide (w (42 + i) = h) && (mvL w (w (10 + i))).isNone && (mdO w i).isSome) (fun i q => decide (wtF w q < wtF w i)) (w 1) else none
def sbO (w : Nat → Nat) (e t k : Nat) : Option Nat := bst (fun m => decide (w (7694 + 72 * m + 11) ≠ 0) && decide (e + 1 ≤ w (7694 + 72 * m + 11) ∧ w (7694 + 72 * m + 11) ≤ t) && decide (w (7694 + 72 * m + 1) ≤ k ∧ k ≤ w (7694 + 72 * m + 2) - 1)) (fun m q => decide (w (7694 + 72 * m + 11) < w (7694 + 72 * q + 11))) (w 3)
def oL (o : Option Nat) : Int64 := match o with
  | none => -1
  | some n => lN n
def evF (w : Nat → Nat) : Option Nat := match otH w, otL w with
  | some h, some l => some (ldF w h - ldF w l)
  | _, _ => none
theorem ct_X11_isMove {fi : FI} {fr : FR} {ai : FI} {ar : FR} {N : Nat} {w : Nat → Nat} (sm : SM fr) (iv : Inv w) (x : Int32) : CP mX11_isMove 1 0 0 [.ref (rf 11 80), .int x] fi fr (mW ai w) ar N (xQ (some (.int (bI (inR x (w 3))))) fi fr (mW ai w) ar N) := by
  obtain ⟨sW, sA, sK, sU, sC, sKC, sT, sCl⟩ := id sm
  have h1 := iv_n iv
  have h3 := iv_mm iv
  change EV mX11_isMove 1 0 0 0 [some (.ref (rf 11 80)), some (.int x)] [] fi fr (mW ai w) ar N (xQ (some (.int (bI (inR x (w 3))))) fi fr (mW ai w) ar N)
  refine e_iload_n dX11_isMove_0 rfl rfl ?_
  first | ((with_reducible refine mk_n ?_); refine n_i2l dX11_isMove_1 (by omega) ?_) | refine e_i2l dX11_isMove_1 ?_
  refine e_lconst (v := lN 0) dX11_isMove_2 rfl ?_
  refine e_aload_n dX11_isMove_3 rfl rfl ?_
  refine e_getR dX11_isMove_4 fl_X11_7 rfl (by assumption) ?_
  refine e_iconst (v := nI 3) dX11_isMove_7 rfl ?_
  first | ((with_reducible refine mk_ldw ?_); refine e_ldw dX11_isMove_8 (by omega) ?_) | refine e_iald _ dX11_isMove_8 ⟨by decide, by decide⟩ rfl rfl (by simp only [lenK]; omega) ?_
  refine e_iconst (v := nI 1) dX11_isMove_9 rfl ?_
  first | ((with_reducible refine mk_nn ?_); refine n_isub dX11_isMove_10 (by omega) ?_) | refine e_isub dX11_isMove_10 ?_
  first | ((with_reducible refine mk_n ?_); refine n_i2l dX11_isMove_11 (by omega) ?_) | refine e_i2l dX11_isMove_11 ?_
  refine x_S3 (M' := mX11_isIn) dX11_isMove_12 ml_X11_45 ok_X11_isIn rfl sc_X11_isIn (ct_X11_isIn _ _ _) (Nat.le_of_ble_eq_true rfl) (by decide) (Nat.le_of_ble_eq_true rfl) ?_
  first | ((with_reducible refine mk_b ?_); refine e_ret (some _) rfl (r_bool dX11_isMove_15 rfl) ?_) | ((with_reducible refine mk_n1 ?_); refine e_ret (some _) rfl (r_b1 dX11_isMove_15 rfl) ?_) | ((with_reducible refine mk_n0 ?_); refine e_ret (some _) rfl (r_b0 dX11_isMove_15 rfl) ?_)
  refine xq ?_ rfl rfl rfl rfl rfl
  congr 3
  unfold inR
  rw [Int32.toInt_toInt64, Int32.toInt_toInt64, pk_sub_toInt (by omega) (by omega), lN_t (by omega)]
  congr 1
  exact propext ⟨fun h => by omega, fun h => by omega⟩
theorem ct_X11_isSpan {fi : FI} {fr : FR} {ai : FI} {ar : FR} {N : Nat} {w : Nat → Nat} (sm : SM fr) (iv : Inv w) (x : Int32) : CP mX11_isSpan 1 0 0 [.ref (rf 11 80), .int x] fi fr (mW ai w) ar N (xQ (some (.int (bI (inR x (w 1))))) fi fr (mW ai w) ar N) := by
  obtain ⟨sW, sA, sK, sU, sC, sKC, sT, sCl⟩ := id sm
  have h1 := iv_n iv
  have h3 := iv_mm iv
  change EV mX11_isSpan 1 0 0 0 [some (.ref (rf 11 80)), some (.int x)] [] fi fr (mW ai w) ar N (xQ (some (.int (bI (inR x (w 1))))) fi fr (mW ai w) ar N)
  refine e_iload_n dX11_isSpan_0 rfl rfl ?_
  first | ((with_reducible refine mk_n ?_); refine n_i2l dX11_isSpan_1 (by omega) ?_) | refine e_i2l dX11_isSpan_1 ?_
  refine e_lconst (v := lN 0) dX11_isSpan_2 rfl ?_
  refine e_aload_n dX11_isSpan_3 rfl rfl ?_
  refine e_getR dX11_isSpan_4 fl_X11_7 rfl (by assumption) ?_
  refine e_iconst (v := nI 1) dX11_isSpan_7 rfl ?_
  first | ((with_reducible refine mk_ldw ?_); refine e_ldw dX11_isSpan_8 (by omega) ?_) | refine e_iald _ dX11_isSpan_8 ⟨by decide, by decide⟩ rfl rfl (by simp only [lenK]; omega) ?_
  refine e_iconst (v := nI 1) dX11_isSpan_9 rfl ?_
  first | ((with_reducible refine mk_nn ?_); refine n_isub dX11_isSpan_10 (by omega) ?_) | refine e_isub dX11_isSpan_10 ?_
  first | ((with_reducible refine mk_n ?_); refine n_i2l dX11_isSpan_11 (by omega) ?_) | refine e_i2l dX11_isSpan_11 ?_
  refine x_S3 (M' := mX11_isIn) dX11_isSpan_12 ml_X11_45 ok_X11_isIn rfl sc_X11_isIn (ct_isInX (by omega) (by omega)) (Nat.le_of_ble_eq_true rfl) (by decide) (Nat.le_of_ble_eq_true rfl) ?_
  first | ((with_reducible refine mk_b ?_); refine e_ret (some _) rfl (r_bool dX11_isSpan_15 rfl) ?_) | ((with_reducible refine mk_n1 ?_); refine e_ret (some _) rfl (r_b1 dX11_isSpan_15 rfl) ?_) | ((with_reducible refine mk_n0 ?_); refine e_ret (some _) rfl (r_b0 dX11_isSpan_15 rfl) ?_)
  refine xq ?_ rfl rfl rfl rfl rfl
  congr 3
  unfold inR
  congr 1
  exact propext ⟨fun h => by omega, fun h => by omega⟩
theorem ct_X11_canStep {fi : FI} {fr : FR} {ai : FI} {ar : FR} {N : Nat} {w : Nat → Nat} (sm : SM fr) (iv : Inv w) (x : Int32) : CP mX11_canStep 2 0 0 [.ref (rf 11 80), .int x] fi fr (mW ai w) ar N (xQ (some (.int (bI (csT w x)))) fi fr (mW ai w) ar N) := by
  obtain ⟨sW, sA, sK, sU, sC, sKC, sT, sCl⟩ := id sm
  have h1 := iv_n iv
  have h3 := iv_mm iv
  change EV mX11_canStep 2 0 0 0 [some (.ref (rf 11 80)), some (.int x)] [] fi fr (mW ai w) ar N (xQ (some (.int (bI (csT w x)))) fi fr (mW ai w) ar N)
  cases hx : inR x (w 3) with
  | false =>
    refine e_aload_n dX11_canStep_0 rfl rfl ?_
    refine e_iload_n dX11_canStep_1 rfl rfl ?_
    refine x_V1 (M' := mX11_isMove) dX11_canStep_2 ml_X11_189 ok_X11_isMove (by decide) rfl im_X11_isMove se_X11_isMove (ct_X11_isMove ‹_› ‹_› _) (Nat.le_of_ble_eq_true rfl) (by decide) (Nat.le_of_ble_eq_true rfl) ?_
    rw [hx]
    first | ((with_reducible refine mk_b ?_); refine b_if_eq (tgt := 35) dX11_canStep_5 (by decide) (fun h5 => ?_) (fun h5 => ?_)) | ((with_reducible refine mk_ll ?_); refine m_if_eq (tgt := 35) dX11_canStep_5 (by decide) (by omega) (by omega) (fun h5 => ?_) (fun h5 => ?_)) | ((with_reducible refine mk_lc ?_); refine l_if_eq (tgt := 35) dX11_canStep_5 (by decide) (fun h5 => ?_) (fun h5 => ?_)) | ((with_reducible refine mk_n ?_); refine n_if_eq (tgt := 35) dX11_canStep_5 (by decide) (by omega) (fun h5 => ?_) (fun h5 => ?_)) | refine e_if_eq (tgt := 35) dX11_canStep_5 (by decide) (fun h5 => ?_) (fun h5 => ?_)
    · try first | contradiction | omega
      all_goals
        refine e_iconst (v := nI 0) dX11_canStep_35 rfl ?_
        first | ((with_reducible refine mk_b ?_); refine e_ret (some _) rfl (r_bool dX11_canStep_36 rfl) ?_) | ((with_reducible refine mk_n1 ?_); refine e_ret (some _) rfl (r_b1 dX11_canStep_36 rfl) ?_) | ((with_reducible refine mk_n0 ?_); refine e_ret (some _) rfl (r_b0 dX11_canStep_36 rfl) ?_)
        first | (refine xq (bl0 ?_) rfl rfl rfl rfl rfl; grind [csT]) | (refine xq (bl1 ?_) rfl rfl rfl rfl rfl; grind [csT])
    · try first | contradiction | omega
      all_goals
        refine e_aload_n dX11_canStep_8 rfl rfl ?_
        refine e_iload_n dX11_canStep_9 rfl rfl ?_
        refine x_V1 (M' := mX11_isGoing) dX11_canStep_10 ml_X11_67 ok_X11_isGoing (by decide) rfl im_X11_isGoing se_X11_isGoing (by contradiction) (Nat.le_of_ble_eq_true rfl) (by decide) (Nat.le_of_ble_eq_true rfl) ?_
        first | ((with_reducible refine mk_b ?_); refine b_if_eq (tgt := 35) dX11_canStep_13 (by decide) (fun h13 => ?_) (fun h13 => ?_)) | ((with_reducible refine mk_ll ?_); refine m_if_eq (tgt := 35) dX11_canStep_13 (by decide) (by omega) (by omega) (fun h13 => ?_) (fun h13 => ?_)) | ((with_reducible refine mk_lc ?_); refine l_if_eq (tgt := 35) dX11_canStep_13 (by decide) (fun h13 => ?_) (fun h13 => ?_)) | ((with_reducible refine mk_n ?_); refine n_if_eq (tgt := 35) dX11_canStep_13 (by decide) (by omega) (fun h13 => ?_) (fun h13 => ?_)) | refine e_if_eq (tgt := 35) dX11_canStep_13 (by decide) (fun h13 => ?_) (fun h13 => ?_)
        · try first | contradiction | omega
          all_goals
            refine e_iconst (v := nI 0) dX11_canStep_35 rfl ?_
            first | ((with_reducible refine mk_b ?_); refine e_ret (some _) rfl (r_bool dX11_canStep_36 rfl) ?_) | ((with_reducible refine mk_n1 ?_); refine e_ret (some _) rfl (r_b1 dX11_canStep_36 rfl) ?_) | ((with_reducible refine mk_n0 ?_); refine e_ret (some _) rfl (r_b0 dX11_canStep_36 rfl) ?_)
            first | (refine xq (bl0 ?_) rfl rfl rfl rfl rfl; grind [csT]) | (refine xq (bl1 ?_) rfl rfl rfl rfl rfl; grind [csT])
        · try first | contradiction | omega
          all_goals
            refine e_aload_n dX11_canStep_16 rfl rfl ?_
            refine e_getR dX11_canStep_17 fl_X11_7 rfl (by assumption) ?_
            refine e_iload_n dX11_canStep_20 rfl rfl ?_
            refine x_S1 (M' := mX11_moveAt) dX11_canStep_21 ml_X11_62 ok_X11_moveAt rfl sc_X11_moveAt (ct_X11_moveAt) (Nat.le_of_ble_eq_true rfl) (by decide) (Nat.le_of_ble_eq_true rfl) ?_
            refine e_bipush (v := nI 7) dX11_canStep_24 rfl ?_
            first | ((with_reducible refine mk_nn ?_); refine n_iadd dX11_canStep_26 ?_) | refine e_iadd dX11_canStep_26 ?_
            first | ((with_reducible refine mk_ldw ?_); refine e_ldw dX11_canStep_27 (by omega) ?_) | refine e_iald _ dX11_canStep_27 ⟨by decide, by decide⟩ rfl rfl (by simp only [lenK]; omega) ?_
            first | ((with_reducible refine mk_b ?_); refine b_if_ne (tgt := 35) dX11_canStep_28 (by decide) (fun h28 => ?_) (fun h28 => ?_)) | ((with_reducible refine mk_ll ?_); refine m_if_ne (tgt := 35) dX11_canStep_28 (by decide) (by omega) (by omega) (fun h28 => ?_) (fun h28 => ?_)) | ((with_reducible refine mk_lc ?_); refine l_if_ne (tgt := 35) dX11_canStep_28 (by decide) (fun h28 => ?_) (fun h28 => ?_)) | ((with_reducible refine mk_n ?_); refine n_if_ne (tgt := 35) dX11_canStep_28 (by decide) (by omega) (fun h28 => ?_) (fun h28 => ?_)) | refine e_if_ne (tgt := 35) dX11_canStep_28 (by decide) (fun h28 => ?_) (fun h28 => ?_)
            · try first | contradiction | omega
              all_goals
                refine e_iconst (v := nI 0) dX11_canStep_35 rfl ?_
                first | ((with_reducible refine mk_b ?_); refine e_ret (some _) rfl (r_bool dX11_canStep_36 rfl) ?_) | ((with_reducible refine mk_n1 ?_); refine e_ret (some _) rfl (r_b1 dX11_canStep_36 rfl) ?_) | ((with_reducible refine mk_n0 ?_); refine e_ret (some _) rfl (r_b0 dX11_canStep_36 rfl) ?_)
                first | (refine xq (bl0 ?_) rfl rfl rfl rfl rfl; grind [csT]) | (refine xq (bl1 ?_) rfl rfl rfl rfl rfl; grind [csT])
            · try first | contradiction | omega
              all_goals
                refine e_iconst (v := nI 1) dX11_canStep_31 rfl ?_
                refine e_goto (tgt := 36) dX11_canStep_32 (by decide) ?_
                first | ((with_reducible refine mk_b ?_); refine e_ret (some _) rfl (r_bool dX11_canStep_36 rfl) ?_) | ((with_reducible refine mk_n1 ?_); refine e_ret (some _) rfl (r_b1 dX11_canStep_36 rfl) ?_) | ((with_reducible refine mk_n0 ?_); refine e_ret (some _) rfl (r_b0 dX11_canStep_36 rfl) ?_)
                first | (refine xq (bl0 ?_) rfl rfl rfl rfl rfl; grind [csT]) | (refine xq (bl1 ?_) rfl rfl rfl rfl rfl; grind [csT])
  | true =>
    obtain ⟨a, ha, ha2, rfl⟩ := inR_ex hx
    have hcl : (nI a).toNatClampNeg = a := nI_clamp ha2
    have hm := iv_mv iv ha
    refine e_aload_n dX11_canStep_0 rfl rfl ?_
    refine e_iload_n dX11_canStep_1 rfl rfl ?_
    refine x_V1 (M' := mX11_isMove) dX11_canStep_2 ml_X11_189 ok_X11_isMove (by decide) rfl im_X11_isMove se_X11_isMove (ct_X11_isMove ‹_› ‹_› _) (Nat.le_of_ble_eq_true rfl) (by decide) (Nat.le_of_ble_eq_true rfl) ?_
    rw [hx]
    first | ((with_reducible refine mk_b ?_); refine b_if_eq (tgt := 35) dX11_canStep_5 (by decide) (fun h5 => ?_) (fun h5 => ?_)) | ((with_reducible refine mk_ll ?_); refine m_if_eq (tgt := 35) dX11_canStep_5 (by decide) (by omega) (by omega) (fun h5 => ?_) (fun h5 => ?_)) | ((with_reducible refine mk_lc ?_); refine l_if_eq (tgt := 35) dX11_canStep_5 (by decide) (fun h5 => ?_) (fun h5 => ?_)) | ((with_reducible refine mk_n ?_); refine n_if_eq (tgt := 35) dX11_canStep_5 (by decide) (by omega) (fun h5 => ?_) (fun h5 => ?_)) | refine e_if_eq (tgt := 35) dX11_canStep_5 (by decide) (fun h5 => ?_) (fun h5 => ?_)
    · try first | contradiction | omega
      all_goals
        refine e_iconst (v := nI 0) dX11_canStep_35 rfl ?_
        first | ((with_reducible refine mk_b ?_); refine e_ret (some _) rfl (r_bool dX11_canStep_36 rfl) ?_) | ((with_reducible refine mk_n1 ?_); refine e_ret (some _) rfl (r_b1 dX11_canStep_36 rfl) ?_) | ((with_reducible refine mk_n0 ?_); refine e_ret (some _) rfl (r_b0 dX11_canStep_36 rfl) ?_)
        first | (refine xq (bl0 ?_) rfl rfl rfl rfl rfl; grind [csT]) | (refine xq (bl1 ?_) rfl rfl rfl rfl rfl; grind [csT])
    · try first | contradiction | omega
      all_goals
        refine e_aload_n dX11_canStep_8 rfl rfl ?_
        refine e_iload_n dX11_canStep_9 rfl rfl ?_
        refine x_V1 (M' := mX11_isGoing) dX11_canStep_10 ml_X11_67 ok_X11_isGoing (by decide) rfl im_X11_isGoing se_X11_isGoing (ct_X11_isGoing ‹_› ‹_› (by omega)) (Nat.le_of_ble_eq_true rfl) (by decide) (Nat.le_of_ble_eq_true rfl) ?_
        first | ((with_reducible refine mk_b ?_); refine b_if_eq (tgt := 35) dX11_canStep_13 (by decide) (fun h13 => ?_) (fun h13 => ?_)) | ((with_reducible refine mk_ll ?_); refine m_if_eq (tgt := 35) dX11_canStep_13 (by decide) (by omega) (by omega) (fun h13 => ?_) (fun h13 => ?_)) | ((with_reducible refine mk_lc ?_); refine l_if_eq (tgt := 35) dX11_canStep_13 (by decide) (fun h13 => ?_) (fun h13 => ?_)) | ((with_reducible refine mk_n ?_); refine n_if_eq (tgt := 35) dX11_canStep_13 (by decide) (by omega) (fun h13 => ?_) (fun h13 => ?_)) | refine e_if_eq (tgt := 35) dX11_canStep_13 (by decide) (fun h13 => ?_) (fun h13 => ?_)
        · try first | contradiction | omega
          all_goals
            refine e_iconst (v := nI 0) dX11_canStep_35 rfl ?_
            first | ((with_reducible refine mk_b ?_); refine e_ret (some _) rfl (r_bool dX11_canStep_36 rfl) ?_) | ((with_reducible refine mk_n1 ?_); refine e_ret (some _) rfl (r_b1 dX11_canStep_36 rfl) ?_) | ((with_reducible refine mk_n0 ?_); refine e_ret (some _) rfl (r_b0 dX11_canStep_36 rfl) ?_)
            first | (refine xq (bl0 ?_) rfl rfl rfl rfl rfl; grind [csT]) | (refine xq (bl1 ?_) rfl rfl rfl rfl rfl; grind [csT])
        · try first | contradiction | omega
          all_goals
            refine e_aload_n dX11_canStep_16 rfl rfl ?_
            refine e_getR dX11_canStep_17 fl_X11_7 rfl (by assumption) ?_
            refine e_iload_n dX11_canStep_20 rfl rfl ?_
            refine x_S1 (M' := mX11_moveAt) dX11_canStep_21 ml_X11_62 ok_X11_moveAt rfl sc_X11_moveAt (ct_X11_moveAt) (Nat.le_of_ble_eq_true rfl) (by decide) (Nat.le_of_ble_eq_true rfl) ?_
            refine e_bipush (v := nI 7) dX11_canStep_24 rfl ?_
            first | ((with_reducible refine mk_nn ?_); refine n_iadd dX11_canStep_26 ?_) | refine e_iadd dX11_canStep_26 ?_
            first | ((with_reducible refine mk_ldw ?_); refine e_ldw dX11_canStep_27 (by omega) ?_) | refine e_iald _ dX11_canStep_27 ⟨by decide, by decide⟩ rfl rfl (by simp only [lenK]; omega) ?_
            first | ((with_reducible refine mk_b ?_); refine b_if_ne (tgt := 35) dX11_canStep_28 (by decide) (fun h28 => ?_) (fun h28 => ?_)) | ((with_reducible refine mk_ll ?_); refine m_if_ne (tgt := 35) dX11_canStep_28 (by decide) (by omega) (by omega) (fun h28 => ?_) (fun h28 => ?_)) | ((with_reducible refine mk_lc ?_); refine l_if_ne (tgt := 35) dX11_canStep_28 (by decide) (fun h28 => ?_) (fun h28 => ?_)) | ((with_reducible refine mk_n ?_); refine n_if_ne (tgt := 35) dX11_canStep_28 (by decide) (by omega) (fun h28 => ?_) (fun h28 => ?_)) | refine e_if_ne (tgt := 35) dX11_canStep_28 (by decide) (fun h28 => ?_) (fun h28 => ?_)
            · try first | contradiction | omega
              all_goals
                refine e_iconst (v := nI 0) dX11_canStep_35 rfl ?_
                first | ((with_reducible refine mk_b ?_); refine e_ret (some _) rfl (r_bool dX11_canStep_36 rfl) ?_) | ((with_reducible refine mk_n1 ?_); refine e_ret (some _) rfl (r_b1 dX11_canStep_36 rfl) ?_) | ((with_reducible refine mk_n0 ?_); refine e_ret (some _) rfl (r_b0 dX11_canStep_36 rfl) ?_)
                first | (refine xq (bl0 ?_) rfl rfl rfl rfl rfl; grind [csT]) | (refine xq (bl1 ?_) rfl rfl rfl rfl rfl; grind [csT])
            · try first | contradiction | omega
              all_goals
                refine e_iconst (v := nI 1) dX11_canStep_31 rfl ?_
                refine e_goto (tgt := 36) dX11_canStep_32 (by decide) ?_
                first | ((with_reducible refine mk_b ?_); refine e_ret (some _) rfl (r_bool dX11_canStep_36 rfl) ?_) | ((with_reducible refine mk_n1 ?_); refine e_ret (some _) rfl (r_b1 dX11_canStep_36 rfl) ?_) | ((with_reducible refine mk_n0 ?_); refine e_ret (some _) rfl (r_b0 dX11_canStep_36 rfl) ?_)
                first | (refine xq (bl0 ?_) rfl rfl rfl rfl rfl; grind [csT]) | (refine xq (bl1 ?_) rfl rfl rfl rfl rfl; grind [csT])
theorem ct_X11_areUp {fi : FI} {fr : FR} {ai : FI} {ar : FR} {N : Nat} {w : Nat → Nat} (sm : SM fr) (iv : Inv w) {m : Nat} (hm : m < w 3) : CP mX11_areUp 0 0 0 [.ref (rf 11 80), .int (nI (7694 + 72 * m))] fi fr (mW ai w) ar N (xQ (some (.int (bI (auB w m)))) fi fr (mW ai w) ar N) := by
  obtain ⟨sW, sA, sK, sU, sC, sKC, sT, sCl⟩ := id sm
  have h1 := iv_n iv
  have h3 := iv_mm iv
  have hq := iv_mv iv hm
  have hu1 := iv_up iv (s := w (7694 + 72 * m + 3)) (by omega)
  have hu2 := iv_up iv (s := w (7694 + 72 * m + 4)) (by omega)
  change EV mX11_areUp 0 0 0 0 [some (.ref (rf 11 80)), some (.int (nI (7694 + 72 * m)))] [] fi fr (mW ai w) ar N (xQ (some (.int (bI (auB w m)))) fi fr (mW ai w) ar N)
  refine e_aload_n dX11_areUp_0 rfl rfl ?_
  refine e_getR dX11_areUp_1 fl_X11_7 rfl (by assumption) ?_
  refine e_iconst (v := nI 4) dX11_areUp_4 rfl ?_
  refine e_aload_n dX11_areUp_5 rfl rfl ?_
  refine e_getR dX11_areUp_6 fl_X11_7 rfl (by assumption) ?_
  refine e_iload_n dX11_areUp_9 rfl rfl ?_
  refine e_iconst (v := nI 3) dX11_areUp_10 rfl ?_
  first | ((with_reducible refine mk_nn ?_); refine n_iadd dX11_areUp_11 ?_) | refine e_iadd dX11_areUp_11 ?_
  first | ((with_reducible refine mk_ldw ?_); refine e_ldw dX11_areUp_12 (by omega) ?_) | refine e_iald _ dX11_areUp_12 ⟨by decide, by decide⟩ rfl rfl (by simp only [lenK]; omega) ?_
  first | ((with_reducible refine mk_nn ?_); refine n_iadd dX11_areUp_13 ?_) | refine e_iadd dX11_areUp_13 ?_
  first | ((with_reducible refine mk_ldw ?_); refine e_ldw dX11_areUp_14 (by omega) ?_) | refine e_iald _ dX11_areUp_14 ⟨by decide, by decide⟩ rfl rfl (by simp only [lenK]; omega) ?_
  refine e_iconst (v := nI 1) dX11_areUp_15 rfl ?_
  first | ((with_reducible refine mk_mo ?_); refine p_icmp_ne (tgt := 42) dX11_areUp_16 (by decide) (fun h16 => ?_) (fun h16 => ?_)) | ((with_reducible refine mk_ms ?_); refine s_icmp_ne (tgt := 42) dX11_areUp_16 (by decide) (by omega) (fun h16 => ?_) (fun h16 => ?_)) | ((with_reducible refine mk_mn ?_); refine q_icmp_ne (tgt := 42) dX11_areUp_16 (by decide) (by omega) (fun h16 => ?_) (fun h16 => ?_)) | ((with_reducible refine mk_nn ?_); refine n_icmp_ne (tgt := 42) dX11_areUp_16 (by decide) (by omega) (by omega) (fun h16 => ?_) (fun h16 => ?_)) | refine e_icmp_ne (tgt := 42) dX11_areUp_16 (by decide) (fun h16 => ?_) (fun h16 => ?_)
  · try first | contradiction | omega
    all_goals
      refine e_iconst (v := nI 0) dX11_areUp_42 rfl ?_
      first | ((with_reducible refine mk_b ?_); refine e_ret (some _) rfl (r_bool dX11_areUp_43 rfl) ?_) | ((with_reducible refine mk_n1 ?_); refine e_ret (some _) rfl (r_b1 dX11_areUp_43 rfl) ?_) | ((with_reducible refine mk_n0 ?_); refine e_ret (some _) rfl (r_b0 dX11_areUp_43 rfl) ?_)
      first | (refine xq (bl0 ?_) rfl rfl rfl rfl rfl; grind [auB]) | (refine xq (bl1 ?_) rfl rfl rfl rfl rfl; grind [auB])
  · try first | contradiction | omega
    all_goals
      refine e_aload_n dX11_areUp_19 rfl rfl ?_
      refine e_getR dX11_areUp_20 fl_X11_7 rfl (by assumption) ?_
      refine e_iconst (v := nI 4) dX11_areUp_23 rfl ?_
      refine e_aload_n dX11_areUp_24 rfl rfl ?_
      refine e_getR dX11_areUp_25 fl_X11_7 rfl (by assumption) ?_
      refine e_iload_n dX11_areUp_28 rfl rfl ?_
      refine e_iconst (v := nI 4) dX11_areUp_29 rfl ?_
      first | ((with_reducible refine mk_nn ?_); refine n_iadd dX11_areUp_30 ?_) | refine e_iadd dX11_areUp_30 ?_
      first | ((with_reducible refine mk_ldw ?_); refine e_ldw dX11_areUp_31 (by omega) ?_) | refine e_iald _ dX11_areUp_31 ⟨by decide, by decide⟩ rfl rfl (by simp only [lenK]; omega) ?_
      first | ((with_reducible refine mk_nn ?_); refine n_iadd dX11_areUp_32 ?_) | refine e_iadd dX11_areUp_32 ?_
      first | ((with_reducible refine mk_ldw ?_); refine e_ldw dX11_areUp_33 (by omega) ?_) | refine e_iald _ dX11_areUp_33 ⟨by decide, by decide⟩ rfl rfl (by simp only [lenK]; omega) ?_
      refine e_iconst (v := nI 1) dX11_areUp_34 rfl ?_
      first | ((with_reducible refine mk_mo ?_); refine p_icmp_ne (tgt := 42) dX11_areUp_35 (by decide) (fun h35 => ?_) (fun h35 => ?_)) | ((with_reducible refine mk_ms ?_); refine s_icmp_ne (tgt := 42) dX11_areUp_35 (by decide) (by omega) (fun h35 => ?_) (fun h35 => ?_)) | ((with_reducible refine mk_mn ?_); refine q_icmp_ne (tgt := 42) dX11_areUp_35 (by decide) (by omega) (fun h35 => ?_) (fun h35 => ?_)) | ((with_reducible refine mk_nn ?_); refine n_icmp_ne (tgt := 42) dX11_areUp_35 (by decide) (by omega) (by omega) (fun h35 => ?_) (fun h35 => ?_)) | refine e_icmp_ne (tgt := 42) dX11_areUp_35 (by decide) (fun h35 => ?_) (fun h35 => ?_)
      · try first | contradiction | omega
        all_goals
          refine e_iconst (v := nI 0) dX11_areUp_42 rfl ?_
          first | ((with_reducible refine mk_b ?_); refine e_ret (some _) rfl (r_bool dX11_areUp_43 rfl) ?_) | ((with_reducible refine mk_n1 ?_); refine e_ret (some _) rfl (r_b1 dX11_areUp_43 rfl) ?_) | ((with_reducible refine mk_n0 ?_); refine e_ret (some _) rfl (r_b0 dX11_areUp_43 rfl) ?_)
          first | (refine xq (bl0 ?_) rfl rfl rfl rfl rfl; grind [auB]) | (refine xq (bl1 ?_) rfl rfl rfl rfl rfl; grind [auB])
      · try first | contradiction | omega
        all_goals
          refine e_iconst (v := nI 1) dX11_areUp_38 rfl ?_
          refine e_goto (tgt := 43) dX11_areUp_39 (by decide) ?_
          first | ((with_reducible refine mk_b ?_); refine e_ret (some _) rfl (r_bool dX11_areUp_43 rfl) ?_) | ((with_reducible refine mk_n1 ?_); refine e_ret (some _) rfl (r_b1 dX11_areUp_43 rfl) ?_) | ((with_reducible refine mk_n0 ?_); refine e_ret (some _) rfl (r_b0 dX11_areUp_43 rfl) ?_)
          first | (refine xq (bl0 ?_) rfl rfl rfl rfl rfl; grind [auB]) | (refine xq (bl1 ?_) rfl rfl rfl rfl rfl; grind [auB])
theorem ct_X11_mayHave {fi : FI} {fr : FR} {ai : FI} {ar : FR} {N : Nat} {w : Nat → Nat} (sm : SM fr) (iv : Inv w) {s k : Nat} (hs : s < 2147483648) (hk : k < 2147483648) : CP mX11_mayHave 3 0 0 [.ref (rf 11 80), .int (nI s), .int (nI k)] fi fr (mW ai w) ar N (xQ (some (.int (bI (mhB w s k)))) fi fr (mW ai w) ar N) := by
  obtain ⟨sW, sA, sK, sU, sC, sKC, sT, sCl⟩ := id sm
  have h1 := iv_n iv
  have h3 := iv_mm iv
  have hsp := spW_lt iv k
  change EV mX11_mayHave 3 0 0 0 [some (.ref (rf 11 80)), some (.int (nI s)), some (.int (nI k)), none] [] fi fr (mW ai w) ar N (xQ (some (.int (bI (mhB w s k)))) fi fr (mW ai w) ar N)
  cases hmv : mvL w (w (10 + spW w k)) with
  | none =>
    refine e_aload_n dX11_mayHave_0 rfl rfl ?_
    refine e_aload_n dX11_mayHave_1 rfl rfl ?_
    refine e_iload_n dX11_mayHave_2 rfl rfl ?_
    refine x_V1 (M' := mX11_spanWith) dX11_mayHave_3 ml_X11_58 ok_X11_spanWith (by decide) rfl im_X11_spanWith se_X11_spanWith (ct_X11_spanWith ‹_› ‹_› (by omega)) (Nat.le_of_ble_eq_true rfl) (by decide) (Nat.le_of_ble_eq_true rfl) ?_
    refine x_V1 (M' := mX11_moveOfSpan) dX11_mayHave_6 ml_X11_79 ok_X11_moveOfSpan (by decide) rfl im_X11_moveOfSpan se_X11_moveOfSpan (ct_X11_moveOfSpan ‹_› ‹_› (by omega)) (Nat.le_of_ble_eq_true rfl) (by decide) (Nat.le_of_ble_eq_true rfl) ?_
    rw [hmv]
    refine e_istore_n dX11_mayHave_9 rfl (Nat.le_of_ble_eq_true rfl) rfl ?_
    refine e_iload_n dX11_mayHave_10 rfl rfl ?_
    refine e_iconst (v := -1) dX11_mayHave_11 rfl ?_
    first | ((with_reducible refine mk_mo ?_); refine p_icmp_eq (tgt := 49) dX11_mayHave_12 (by decide) (fun h12 => ?_) (fun h12 => ?_)) | ((with_reducible refine mk_ms ?_); refine s_icmp_eq (tgt := 49) dX11_mayHave_12 (by decide) (by omega) (fun h12 => ?_) (fun h12 => ?_)) | ((with_reducible refine mk_mn ?_); refine q_icmp_eq (tgt := 49) dX11_mayHave_12 (by decide) (by omega) (fun h12 => ?_) (fun h12 => ?_)) | ((with_reducible refine mk_nn ?_); refine n_icmp_eq (tgt := 49) dX11_mayHave_12 (by decide) (by omega) (by omega) (fun h12 => ?_) (fun h12 => ?_)) | refine e_icmp_eq (tgt := 49) dX11_mayHave_12 (by decide) (fun h12 => ?_) (fun h12 => ?_)
    · try first | contradiction | omega
      all_goals
        refine e_iconst (v := nI 0) dX11_mayHave_49 rfl ?_
        first | ((with_reducible refine mk_b ?_); refine e_ret (some _) rfl (r_bool dX11_mayHave_50 rfl) ?_) | ((with_reducible refine mk_n1 ?_); refine e_ret (some _) rfl (r_b1 dX11_mayHave_50 rfl) ?_) | ((with_reducible refine mk_n0 ?_); refine e_ret (some _) rfl (r_b0 dX11_mayHave_50 rfl) ?_)
        first | (refine xq (bl0 ?_) rfl rfl rfl rfl rfl; grind [mhB]) | (refine xq (bl1 ?_) rfl rfl rfl rfl rfl; grind [mhB])
    · try first | contradiction | omega
      all_goals
        refine e_aload_n dX11_mayHave_15 rfl rfl ?_
        refine e_getR dX11_mayHave_16 fl_X11_7 rfl (by assumption) ?_
        refine e_iload_n dX11_mayHave_19 rfl rfl ?_
        refine x_S1 (M' := mX11_moveAt) dX11_mayHave_20 ml_X11_62 ok_X11_moveAt rfl sc_X11_moveAt (ct_X11_moveAt) (Nat.le_of_ble_eq_true rfl) (by decide) (Nat.le_of_ble_eq_true rfl) ?_
        refine e_iconst (v := nI 3) dX11_mayHave_23 rfl ?_
        first | ((with_reducible refine mk_nn ?_); refine n_iadd dX11_mayHave_24 ?_) | refine e_iadd dX11_mayHave_24 ?_
        first | ((with_reducible refine mk_ldw ?_); refine e_ldw dX11_mayHave_25 (by omega) ?_) | refine e_iald _ dX11_mayHave_25 ⟨by decide, by decide⟩ rfl rfl (by simp only [lenK]; omega) ?_
        refine e_iload_n dX11_mayHave_26 rfl rfl ?_
        first | ((with_reducible refine mk_mo ?_); refine p_icmp_eq (tgt := 45) dX11_mayHave_27 (by decide) (fun h27 => ?_) (fun h27 => ?_)) | ((with_reducible refine mk_ms ?_); refine s_icmp_eq (tgt := 45) dX11_mayHave_27 (by decide) (by omega) (fun h27 => ?_) (fun h27 => ?_)) | ((with_reducible refine mk_mn ?_); refine q_icmp_eq (tgt := 45) dX11_mayHave_27 (by decide) (by omega) (fun h27 => ?_) (fun h27 => ?_)) | ((with_reducible refine mk_nn ?_); refine n_icmp_eq (tgt := 45) dX11_mayHave_27 (by decide) (by omega) (by omega) (fun h27 => ?_) (fun h27 => ?_)) | refine e_icmp_eq (tgt := 45) dX11_mayHave_27 (by decide) (fun h27 => ?_) (fun h27 => ?_)
        · try first | contradiction | omega
          all_goals
            refine e_iconst (v := nI 1) dX11_mayHave_45 rfl ?_
            refine e_goto (tgt := 50) dX11_mayHave_46 (by decide) ?_
            first | ((with_reducible refine mk_b ?_); refine e_ret (some _) rfl (r_bool dX11_mayHave_50 rfl) ?_) | ((with_reducible refine mk_n1 ?_); refine e_ret (some _) rfl (r_b1 dX11_mayHave_50 rfl) ?_) | ((with_reducible refine mk_n0 ?_); refine e_ret (some _) rfl (r_b0 dX11_mayHave_50 rfl) ?_)
            first | (refine xq (bl0 ?_) rfl rfl rfl rfl rfl; grind [mhB]) | (refine xq (bl1 ?_) rfl rfl rfl rfl rfl; grind [mhB])
        · try first | contradiction | omega
          all_goals
            refine e_aload_n dX11_mayHave_30 rfl rfl ?_
            refine e_getR dX11_mayHave_31 fl_X11_7 rfl (by assumption) ?_
            refine e_iload_n dX11_mayHave_34 rfl rfl ?_
            refine x_S1 (M' := mX11_moveAt) dX11_mayHave_35 ml_X11_62 ok_X11_moveAt rfl sc_X11_moveAt (ct_X11_moveAt) (Nat.le_of_ble_eq_true rfl) (by decide) (Nat.le_of_ble_eq_true rfl) ?_
            refine e_iconst (v := nI 4) dX11_mayHave_38 rfl ?_
            first | ((with_reducible refine mk_nn ?_); refine n_iadd dX11_mayHave_39 ?_) | refine e_iadd dX11_mayHave_39 ?_
            first | ((with_reducible refine mk_ldw ?_); refine e_ldw dX11_mayHave_40 (by omega) ?_) | refine e_iald _ dX11_mayHave_40 ⟨by decide, by decide⟩ rfl rfl (by simp only [lenK]; omega) ?_
            refine e_iload_n dX11_mayHave_41 rfl rfl ?_
            first | ((with_reducible refine mk_mo ?_); refine p_icmp_ne (tgt := 49) dX11_mayHave_42 (by decide) (fun h42 => ?_) (fun h42 => ?_)) | ((with_reducible refine mk_ms ?_); refine s_icmp_ne (tgt := 49) dX11_mayHave_42 (by decide) (by omega) (fun h42 => ?_) (fun h42 => ?_)) | ((with_reducible refine mk_mn ?_); refine q_icmp_ne (tgt := 49) dX11_mayHave_42 (by decide) (by omega) (fun h42 => ?_) (fun h42 => ?_)) | ((with_reducible refine mk_nn ?_); refine n_icmp_ne (tgt := 49) dX11_mayHave_42 (by decide) (by omega) (by omega) (fun h42 => ?_) (fun h42 => ?_)) | refine e_icmp_ne (tgt := 49) dX11_mayHave_42 (by decide) (fun h42 => ?_) (fun h42 => ?_)
            · try first | contradiction | omega
              all_goals
                refine e_iconst (v := nI 0) dX11_mayHave_49 rfl ?_
                first | ((with_reducible refine mk_b ?_); refine e_ret (some _) rfl (r_bool dX11_mayHave_50 rfl) ?_) | ((with_reducible refine mk_n1 ?_); refine e_ret (some _) rfl (r_b1 dX11_mayHave_50 rfl) ?_) | ((with_reducible refine mk_n0 ?_); refine e_ret (some _) rfl (r_b0 dX11_mayHave_50 rfl) ?_)
                first | (refine xq (bl0 ?_) rfl rfl rfl rfl rfl; grind [mhB]) | (refine xq (bl1 ?_) rfl rfl rfl rfl rfl; grind [mhB])
            · try first | contradiction | omega
              all_goals
                refine e_iconst (v := nI 1) dX11_mayHave_45 rfl ?_
                refine e_goto (tgt := 50) dX11_mayHave_46 (by decide) ?_
                first | ((with_reducible refine mk_b ?_); refine e_ret (some _) rfl (r_bool dX11_mayHave_50 rfl) ?_) | ((with_reducible refine mk_n1 ?_); refine e_ret (some _) rfl (r_b1 dX11_mayHave_50 rfl) ?_) | ((with_reducible refine mk_n0 ?_); refine e_ret (some _) rfl (r_b0 dX11_mayHave_50 rfl) ?_)
                first | (refine xq (bl0 ?_) rfl rfl rfl rfl rfl; grind [mhB]) | (refine xq (bl1 ?_) rfl rfl rfl rfl rfl; grind [mhB])
  | some m =>
    have hm := mvL_lt hmv
    have hq := iv_mv iv hm
    refine e_aload_n dX11_mayHave_0 rfl rfl ?_
    refine e_aload_n dX11_mayHave_1 rfl rfl ?_
    refine e_iload_n dX11_mayHave_2 rfl rfl ?_
    refine x_V1 (M' := mX11_spanWith) dX11_mayHave_3 ml_X11_58 ok_X11_spanWith (by decide) rfl im_X11_spanWith se_X11_spanWith (ct_X11_spanWith ‹_› ‹_› (by omega)) (Nat.le_of_ble_eq_true rfl) (by decide) (Nat.le_of_ble_eq_true rfl) ?_
    refine x_V1 (M' := mX11_moveOfSpan) dX11_mayHave_6 ml_X11_79 ok_X11_moveOfSpan (by decide) rfl im_X11_moveOfSpan se_X11_moveOfSpan (ct_X11_moveOfSpan ‹_› ‹_› (by omega)) (Nat.le_of_ble_eq_true rfl) (by decide) (Nat.le_of_ble_eq_true rfl) ?_
    rw [hmv]
    refine e_istore_n dX11_mayHave_9 rfl (Nat.le_of_ble_eq_true rfl) rfl ?_
    refine e_iload_n dX11_mayHave_10 rfl rfl ?_
    refine e_iconst (v := -1) dX11_mayHave_11 rfl ?_
    first | ((with_reducible refine mk_mo ?_); refine p_icmp_eq (tgt := 49) dX11_mayHave_12 (by decide) (fun h12 => ?_) (fun h12 => ?_)) | ((with_reducible refine mk_ms ?_); refine s_icmp_eq (tgt := 49) dX11_mayHave_12 (by decide) (by omega) (fun h12 => ?_) (fun h12 => ?_)) | ((with_reducible refine mk_mn ?_); refine q_icmp_eq (tgt := 49) dX11_mayHave_12 (by decide) (by omega) (fun h12 => ?_) (fun h12 => ?_)) | ((with_reducible refine mk_nn ?_); refine n_icmp_eq (tgt := 49) dX11_mayHave_12 (by decide) (by omega) (by omega) (fun h12 => ?_) (fun h12 => ?_)) | refine e_icmp_eq (tgt := 49) dX11_mayHave_12 (by decide) (fun h12 => ?_) (fun h12 => ?_)
    · try first | contradiction | omega
      all_goals
        refine e_iconst (v := nI 0) dX11_mayHave_49 rfl ?_
        first | ((with_reducible refine mk_b ?_); refine e_ret (some _) rfl (r_bool dX11_mayHave_50 rfl) ?_) | ((with_reducible refine mk_n1 ?_); refine e_ret (some _) rfl (r_b1 dX11_mayHave_50 rfl) ?_) | ((with_reducible refine mk_n0 ?_); refine e_ret (some _) rfl (r_b0 dX11_mayHave_50 rfl) ?_)
        first | (refine xq (bl0 ?_) rfl rfl rfl rfl rfl; grind [mhB]) | (refine xq (bl1 ?_) rfl rfl rfl rfl rfl; grind [mhB])
    · try first | contradiction | omega
      all_goals
        refine e_aload_n dX11_mayHave_15 rfl rfl ?_
        refine e_getR dX11_mayHave_16 fl_X11_7 rfl (by assumption) ?_
        refine e_iload_n dX11_mayHave_19 rfl rfl ?_
        refine x_S1 (M' := mX11_moveAt) dX11_mayHave_20 ml_X11_62 ok_X11_moveAt rfl sc_X11_moveAt (ct_X11_moveAt) (Nat.le_of_ble_eq_true rfl) (by decide) (Nat.le_of_ble_eq_true rfl) ?_
        refine e_iconst (v := nI 3) dX11_mayHave_23 rfl ?_
        first | ((with_reducible refine mk_nn ?_); refine n_iadd dX11_mayHave_24 ?_) | refine e_iadd dX11_mayHave_24 ?_
        first | ((with_reducible refine mk_ldw ?_); refine e_ldw dX11_mayHave_25 (by omega) ?_) | refine e_iald _ dX11_mayHave_25 ⟨by decide, by decide⟩ rfl rfl (by simp only [lenK]; omega) ?_
        refine e_iload_n dX11_mayHave_26 rfl rfl ?_
        first | ((with_reducible refine mk_mo ?_); refine p_icmp_eq (tgt := 45) dX11_mayHave_27 (by decide) (fun h27 => ?_) (fun h27 => ?_)) | ((with_reducible refine mk_ms ?_); refine s_icmp_eq (tgt := 45) dX11_mayHave_27 (by decide) (by omega) (fun h27 => ?_) (fun h27 => ?_)) | ((with_reducible refine mk_mn ?_); refine q_icmp_eq (tgt := 45) dX11_mayHave_27 (by decide) (by omega) (fun h27 => ?_) (fun h27 => ?_)) | ((with_reducible refine mk_nn ?_); refine n_icmp_eq (tgt := 45) dX11_mayHave_27 (by decide) (by omega) (by omega) (fun h27 => ?_) (fun h27 => ?_)) | refine e_icmp_eq (tgt := 45) dX11_mayHave_27 (by decide) (fun h27 => ?_) (fun h27 => ?_)
        · try first | contradiction | omega
          all_goals
            refine e_iconst (v := nI 1) dX11_mayHave_45 rfl ?_
            refine e_goto (tgt := 50) dX11_mayHave_46 (by decide) ?_
            first | ((with_reducible refine mk_b ?_); refine e_ret (some _) rfl (r_bool dX11_mayHave_50 rfl) ?_) | ((with_reducible refine mk_n1 ?_); refine e_ret (some _) rfl (r_b1 dX11_mayHave_50 rfl) ?_) | ((with_reducible refine mk_n0 ?_); refine e_ret (some _) rfl (r_b0 dX11_mayHave_50 rfl) ?_)
            first | (refine xq (bl0 ?_) rfl rfl rfl rfl rfl; grind [mhB]) | (refine xq (bl1 ?_) rfl rfl rfl rfl rfl; grind [mhB])
        · try first | contradiction | omega
          all_goals
            refine e_aload_n dX11_mayHave_30 rfl rfl ?_
            refine e_getR dX11_mayHave_31 fl_X11_7 rfl (by assumption) ?_
            refine e_iload_n dX11_mayHave_34 rfl rfl ?_
            refine x_S1 (M' := mX11_moveAt) dX11_mayHave_35 ml_X11_62 ok_X11_moveAt rfl sc_X11_moveAt (ct_X11_moveAt) (Nat.le_of_ble_eq_true rfl) (by decide) (Nat.le_of_ble_eq_true rfl) ?_
            refine e_iconst (v := nI 4) dX11_mayHave_38 rfl ?_
            first | ((with_reducible refine mk_nn ?_); refine n_iadd dX11_mayHave_39 ?_) | refine e_iadd dX11_mayHave_39 ?_
            first | ((with_reducible refine mk_ldw ?_); refine e_ldw dX11_mayHave_40 (by omega) ?_) | refine e_iald _ dX11_mayHave_40 ⟨by decide, by decide⟩ rfl rfl (by simp only [lenK]; omega) ?_
            refine e_iload_n dX11_mayHave_41 rfl rfl ?_
            first | ((with_reducible refine mk_mo ?_); refine p_icmp_ne (tgt := 49) dX11_mayHave_42 (by decide) (fun h42 => ?_) (fun h42 => ?_)) | ((with_reducible refine mk_ms ?_); refine s_icmp_ne (tgt := 49) dX11_mayHave_42 (by decide) (by omega) (fun h42 => ?_) (fun h42 => ?_)) | ((with_reducible refine mk_mn ?_); refine q_icmp_ne (tgt := 49) dX11_mayHave_42 (by decide) (by omega) (fun h42 => ?_) (fun h42 => ?_)) | ((with_reducible refine mk_nn ?_); refine n_icmp_ne (tgt := 49) dX11_mayHave_42 (by decide) (by omega) (by omega) (fun h42 => ?_) (fun h42 => ?_)) | refine e_icmp_ne (tgt := 49) dX11_mayHave_42 (by decide) (fun h42 => ?_) (fun h42 => ?_)
            · try first | contradiction | omega
              all_goals
                refine e_iconst (v := nI 0) dX11_mayHave_49 rfl ?_
                first | ((with_reducible refine mk_b ?_); refine e_ret (some _) rfl (r_bool dX11_mayHave_50 rfl) ?_) | ((with_reducible refine mk_n1 ?_); refine e_ret (some _) rfl (r_b1 dX11_mayHave_50 rfl) ?_) | ((with_reducible refine mk_n0 ?_); refine e_ret (some _) rfl (r_b0 dX11_mayHave_50 rfl) ?_)
                first | (refine xq (bl0 ?_) rfl rfl rfl rfl rfl; grind [mhB]) | (refine xq (bl1 ?_) rfl rfl rfl rfl rfl; grind [mhB])
            · try first | contradiction | omega
              all_goals
                refine e_iconst (v := nI 1) dX11_mayHave_45 rfl ?_
                refine e_goto (tgt := 50) dX11_mayHave_46 (by decide) ?_
                first | ((with_reducible refine mk_b ?_); refine e_ret (some _) rfl (r_bool dX11_mayHave_50 rfl) ?_) | ((with_reducible refine mk_n1 ?_); refine e_ret (some _) rfl (r_b1 dX11_mayHave_50 rfl) ?_) | ((with_reducible refine mk_n0 ?_); refine e_ret (some _) rfl (r_b0 dX11_mayHave_50 rfl) ?_)
                first | (refine xq (bl0 ?_) rfl rfl rfl rfl rfl; grind [mhB]) | (refine xq (bl1 ?_) rfl rfl rfl rfl rfl; grind [mhB])
theorem anF_le (w : Nat → Nat) (c k : Nat) : anF w c k ≤ 3 := by
  unfold anF
  repeat' split
  all_goals omega
theorem ct_X11_staleOf {fi : FI} {fr : FR} {ai : FI} {ar : FR} {N : Nat} {w : Nat → Nat} (sm : SM fr) (iv : Inv w) {c : Nat} (hc : c < 6) : CP mX11_staleOf 2 0 0 [.ref (rf 11 80), .int (nI c)] fi fr (mW ai w) ar N (xQ (some (.int (nI (cnt (fun j => decide (anF w c (w (7106 + 98 * c + 2 + j)) = 3)) (w (7106 + 98 * c + 1)))))) fi fr (mW ai w) ar N) := by
  obtain ⟨sW, sA, sK, sU, sC, sKC, sT, sCl⟩ := id sm
  have h1 := iv_n iv
  have h3 := iv_mm iv
  have hcl := iv_cl iv hc
  change EV mX11_staleOf 2 0 0 0 [some (.ref (rf 11 80)), some (.int (nI c)), none, none] [] fi fr (mW ai w) ar N (xQ (some (.int (nI (cnt (fun j => decide (anF w c (w (7106 + 98 * c + 2 + j)) = 3)) (w (7106 + 98 * c + 1)))))) fi fr (mW ai w) ar N)
  have key := ev_up (P := (fun j => EV mX11_staleOf 2 0 0 4 [some (.ref (rf 11 80)), some (.int (nI c)), some (.int (nI (cnt (fun j => decide (anF w c (w (7106 + 98 * c + 2 + j)) = 3)) j))), some (.int (nI j))] [] fi fr (mW ai w) ar N (xQ (some (.int (nI (cnt (fun j => decide (anF w c (w (7106 + 98 * c + 2 + j)) = 3)) (w (7106 + 98 * c + 1)))))) fi fr (mW ai w) ar N))) (w (7106 + 98 * c + 1)) (fun j hj ih => by
    have hj2 := hcl.2.2.2.2 j hj
    have han := anF_le w c (w (7106 + 98 * c + 2 + j))
    refine e_iload_n dX11_staleOf_4 rfl rfl ?_
    refine e_aload_n dX11_staleOf_5 rfl rfl ?_
    refine e_getR dX11_staleOf_6 fl_X11_7 rfl (by assumption) ?_
    refine e_iload_n dX11_staleOf_9 rfl rfl ?_
    refine x_S1 (M' := mX11_clientAt) dX11_staleOf_10 ml_X11_118 ok_X11_clientAt rfl sc_X11_clientAt (ct_X11_clientAt) (Nat.le_of_ble_eq_true rfl) (by decide) (Nat.le_of_ble_eq_true rfl) ?_
    refine e_iconst (v := nI 1) dX11_staleOf_13 rfl ?_
    first | ((with_reducible refine mk_nn ?_); refine n_iadd dX11_staleOf_14 ?_) | refine e_iadd dX11_staleOf_14 ?_
    first | ((with_reducible refine mk_ldw ?_); refine e_ldw dX11_staleOf_15 (by omega) ?_) | refine e_iald _ dX11_staleOf_15 ⟨by decide, by decide⟩ rfl rfl (by simp only [lenK]; omega) ?_
    first | ((with_reducible refine mk_nn ?_); refine n_icmp_ge (tgt := 55) dX11_staleOf_16 (by decide) (by omega) (by omega) (fun h16 => ?_) (fun h16 => ?_)) | refine e_icmp_ge (tgt := 55) dX11_staleOf_16 (by decide) (fun h16 => ?_) (fun h16 => ?_)
    · try first | contradiction | omega
      all_goals
        refine e_iload_n dX11_staleOf_55 rfl rfl ?_
        refine e_ret (some _) rfl (r_int dX11_staleOf_56 rfl) ?_
        exact xq (by first | rfl | simp_all [bI_t, bI_f]) rfl rfl rfl rfl rfl
    · try first | contradiction | omega
      all_goals
        refine e_iload_n dX11_staleOf_19 rfl rfl ?_
        refine e_aload_n dX11_staleOf_20 rfl rfl ?_
        refine e_iload_n dX11_staleOf_21 rfl rfl ?_
        refine e_aload_n dX11_staleOf_22 rfl rfl ?_
        refine e_getR dX11_staleOf_23 fl_X11_7 rfl (by assumption) ?_
        refine e_iload_n dX11_staleOf_26 rfl rfl ?_
        refine x_S1 (M' := mX11_clientAt) dX11_staleOf_27 ml_X11_118 ok_X11_clientAt rfl sc_X11_clientAt (ct_X11_clientAt) (Nat.le_of_ble_eq_true rfl) (by decide) (Nat.le_of_ble_eq_true rfl) ?_
        refine e_iconst (v := nI 2) dX11_staleOf_30 rfl ?_
        first | ((with_reducible refine mk_nn ?_); refine n_iadd dX11_staleOf_31 ?_) | refine e_iadd dX11_staleOf_31 ?_
        refine e_iload_n dX11_staleOf_32 rfl rfl ?_
        first | ((with_reducible refine mk_nn ?_); refine n_iadd dX11_staleOf_33 ?_) | refine e_iadd dX11_staleOf_33 ?_
        first | ((with_reducible refine mk_ldw ?_); refine e_ldw dX11_staleOf_34 (by omega) ?_) | refine e_iald _ dX11_staleOf_34 ⟨by decide, by decide⟩ rfl rfl (by simp only [lenK]; omega) ?_
        refine x_V2 (M' := mX11_answerBy) dX11_staleOf_35 ml_X11_140 ok_X11_answerBy (by decide) rfl im_X11_answerBy se_X11_answerBy (ct_X11_answerBy ‹_› ‹_› (by omega) (by omega)) (Nat.le_of_ble_eq_true rfl) (by decide) (Nat.le_of_ble_eq_true rfl) ?_
        refine e_iconst (v := nI 3) dX11_staleOf_38 rfl ?_
        first | ((with_reducible refine mk_mo ?_); refine p_icmp_ne (tgt := 46) dX11_staleOf_39 (by decide) (fun h39 => ?_) (fun h39 => ?_)) | ((with_reducible refine mk_ms ?_); refine s_icmp_ne (tgt := 46) dX11_staleOf_39 (by decide) (by omega) (fun h39 => ?_) (fun h39 => ?_)) | ((with_reducible refine mk_mn ?_); refine q_icmp_ne (tgt := 46) dX11_staleOf_39 (by decide) (by omega) (fun h39 => ?_) (fun h39 => ?_)) | ((with_reducible refine mk_nn ?_); refine n_icmp_ne (tgt := 46) dX11_staleOf_39 (by decide) (by omega) (by omega) (fun h39 => ?_) (fun h39 => ?_)) | refine e_icmp_ne (tgt := 46) dX11_staleOf_39 (by decide) (fun h39 => ?_) (fun h39 => ?_)
        · try first | contradiction | omega
          all_goals
            refine e_iconst (v := nI 0) dX11_staleOf_46 rfl ?_
            first | ((with_reducible refine mk_nn ?_); refine n_iadd dX11_staleOf_47 ?_) | refine e_iadd dX11_staleOf_47 ?_
            refine e_istore_n dX11_staleOf_48 rfl (Nat.le_of_ble_eq_true rfl) rfl ?_
            first | refine n_inc dX11_staleOf_49 rfl (Nat.le_of_ble_eq_true rfl) rfl ?_ | refine e_iinc dX11_staleOf_49 rfl rfl (Nat.le_of_ble_eq_true rfl) rfl ?_
            refine e_goto (tgt := 4) dX11_staleOf_52 (by decide) ?_
            first | (rw [cnt_t (n := j) (p := fun j => decide (anF w c (w (7106 + 98 * c + 2 + j)) = 3)) (by simp_all)] at ih; exact ih) | (rw [cnt_f (n := j) (p := fun j => decide (anF w c (w (7106 + 98 * c + 2 + j)) = 3)) (by simp_all)] at ih; exact ih)
        · try first | contradiction | omega
          all_goals
            refine e_iconst (v := nI 1) dX11_staleOf_42 rfl ?_
            refine e_goto (tgt := 47) dX11_staleOf_43 (by decide) ?_
            first | ((with_reducible refine mk_nn ?_); refine n_iadd dX11_staleOf_47 ?_) | refine e_iadd dX11_staleOf_47 ?_
            refine e_istore_n dX11_staleOf_48 rfl (Nat.le_of_ble_eq_true rfl) rfl ?_
            first | refine n_inc dX11_staleOf_49 rfl (Nat.le_of_ble_eq_true rfl) rfl ?_ | refine e_iinc dX11_staleOf_49 rfl rfl (Nat.le_of_ble_eq_true rfl) rfl ?_
            refine e_goto (tgt := 4) dX11_staleOf_52 (by decide) ?_
            first | (rw [cnt_t (n := j) (p := fun j => decide (anF w c (w (7106 + 98 * c + 2 + j)) = 3)) (by simp_all)] at ih; exact ih) | (rw [cnt_f (n := j) (p := fun j => decide (anF w c (w (7106 + 98 * c + 2 + j)) = 3)) (by simp_all)] at ih; exact ih)
    ) (by
    refine e_iload_n dX11_staleOf_4 rfl rfl ?_
    refine e_aload_n dX11_staleOf_5 rfl rfl ?_
    refine e_getR dX11_staleOf_6 fl_X11_7 rfl (by assumption) ?_
    refine e_iload_n dX11_staleOf_9 rfl rfl ?_
    refine x_S1 (M' := mX11_clientAt) dX11_staleOf_10 ml_X11_118 ok_X11_clientAt rfl sc_X11_clientAt (ct_X11_clientAt) (Nat.le_of_ble_eq_true rfl) (by decide) (Nat.le_of_ble_eq_true rfl) ?_
    refine e_iconst (v := nI 1) dX11_staleOf_13 rfl ?_
    first | ((with_reducible refine mk_nn ?_); refine n_iadd dX11_staleOf_14 ?_) | refine e_iadd dX11_staleOf_14 ?_
    first | ((with_reducible refine mk_ldw ?_); refine e_ldw dX11_staleOf_15 (by omega) ?_) | refine e_iald _ dX11_staleOf_15 ⟨by decide, by decide⟩ rfl rfl (by simp only [lenK]; omega) ?_
    first | ((with_reducible refine mk_nn ?_); refine n_icmp_ge (tgt := 55) dX11_staleOf_16 (by decide) (by omega) (by omega) (fun h16 => ?_) (fun h16 => ?_)) | refine e_icmp_ge (tgt := 55) dX11_staleOf_16 (by decide) (fun h16 => ?_) (fun h16 => ?_)
    · try first | contradiction | omega
      all_goals
        refine e_iload_n dX11_staleOf_55 rfl rfl ?_
        refine e_ret (some _) rfl (r_int dX11_staleOf_56 rfl) ?_
        exact xq rfl rfl rfl rfl rfl rfl
    · try first | contradiction | omega
      all_goals
        refine e_iload_n dX11_staleOf_19 rfl rfl ?_
        refine e_aload_n dX11_staleOf_20 rfl rfl ?_
        refine e_iload_n dX11_staleOf_21 rfl rfl ?_
        refine e_aload_n dX11_staleOf_22 rfl rfl ?_
        refine e_getR dX11_staleOf_23 fl_X11_7 rfl (by assumption) ?_
        refine e_iload_n dX11_staleOf_26 rfl rfl ?_
        refine x_S1 (M' := mX11_clientAt) dX11_staleOf_27 ml_X11_118 ok_X11_clientAt rfl sc_X11_clientAt (ct_X11_clientAt) (Nat.le_of_ble_eq_true rfl) (by decide) (Nat.le_of_ble_eq_true rfl) ?_
        refine e_iconst (v := nI 2) dX11_staleOf_30 rfl ?_
        first | ((with_reducible refine mk_nn ?_); refine n_iadd dX11_staleOf_31 ?_) | refine e_iadd dX11_staleOf_31 ?_
        refine e_iload_n dX11_staleOf_32 rfl rfl ?_
        first | ((with_reducible refine mk_nn ?_); refine n_iadd dX11_staleOf_33 ?_) | refine e_iadd dX11_staleOf_33 ?_
        first | ((with_reducible refine mk_ldw ?_); refine e_ldw dX11_staleOf_34 (by omega) ?_) | refine e_iald _ dX11_staleOf_34 ⟨by decide, by decide⟩ rfl rfl (by simp only [lenK]; omega) ?_
        refine x_V2 (M' := mX11_answerBy) dX11_staleOf_35 ml_X11_140 ok_X11_answerBy (by decide) rfl im_X11_answerBy se_X11_answerBy (ct_X11_answerBy ‹_› ‹_› (by omega) (by omega)) (Nat.le_of_ble_eq_true rfl) (by decide) (Nat.le_of_ble_eq_true rfl) ?_
        refine e_iconst (v := nI 3) dX11_staleOf_38 rfl ?_
        first | ((with_reducible refine mk_mo ?_); refine p_icmp_ne (tgt := 46) dX11_staleOf_39 (by decide) (fun h39 => ?_) (fun h39 => ?_)) | ((with_reducible refine mk_ms ?_); refine s_icmp_ne (tgt := 46) dX11_staleOf_39 (by decide) (by omega) (fun h39 => ?_) (fun h39 => ?_)) | ((with_reducible refine mk_mn ?_); refine q_icmp_ne (tgt := 46) dX11_staleOf_39 (by decide) (by omega) (fun h39 => ?_) (fun h39 => ?_)) | ((with_reducible refine mk_nn ?_); refine n_icmp_ne (tgt := 46) dX11_staleOf_39 (by decide) (by omega) (by omega) (fun h39 => ?_) (fun h39 => ?_)) | refine e_icmp_ne (tgt := 46) dX11_staleOf_39 (by decide) (fun h39 => ?_) (fun h39 => ?_)
        · try first | contradiction | omega
          all_goals
            refine e_iconst (v := nI 0) dX11_staleOf_46 rfl ?_
            first | ((with_reducible refine mk_nn ?_); refine n_iadd dX11_staleOf_47 ?_) | refine e_iadd dX11_staleOf_47 ?_
            refine e_istore_n dX11_staleOf_48 rfl (Nat.le_of_ble_eq_true rfl) rfl ?_
            first | refine n_inc dX11_staleOf_49 rfl (Nat.le_of_ble_eq_true rfl) rfl ?_ | refine e_iinc dX11_staleOf_49 rfl rfl (Nat.le_of_ble_eq_true rfl) rfl ?_
            refine e_goto (tgt := 4) dX11_staleOf_52 (by decide) ?_
            first | (rw [cnt_t (n := j) (p := fun j => decide (anF w c (w (7106 + 98 * c + 2 + j)) = 3)) (by simp_all)] at ih; exact ih) | (rw [cnt_f (n := j) (p := fun j => decide (anF w c (w (7106 + 98 * c + 2 + j)) = 3)) (by simp_all)] at ih; exact ih)
        · try first | contradiction | omega
          all_goals
            refine e_iconst (v := nI 1) dX11_staleOf_42 rfl ?_
            refine e_goto (tgt := 47) dX11_staleOf_43 (by decide) ?_
            first | ((with_reducible refine mk_nn ?_); refine n_iadd dX11_staleOf_47 ?_) | refine e_iadd dX11_staleOf_47 ?_
            refine e_istore_n dX11_staleOf_48 rfl (Nat.le_of_ble_eq_true rfl) rfl ?_
            first | refine n_inc dX11_staleOf_49 rfl (Nat.le_of_ble_eq_true rfl) rfl ?_ | refine e_iinc dX11_staleOf_49 rfl rfl (Nat.le_of_ble_eq_true rfl) rfl ?_
            refine e_goto (tgt := 4) dX11_staleOf_52 (by decide) ?_
            first | (rw [cnt_t (n := j) (p := fun j => decide (anF w c (w (7106 + 98 * c + 2 + j)) = 3)) (by simp_all)] at ih; exact ih) | (rw [cnt_f (n := j) (p := fun j => decide (anF w c (w (7106 + 98 * c + 2 + j)) = 3)) (by simp_all)] at ih; exact ih)
    )
  refine e_iconst (v := nI 0) dX11_staleOf_0 rfl ?_
  refine e_istore_n dX11_staleOf_1 rfl (Nat.le_of_ble_eq_true rfl) rfl ?_
  refine e_iconst (v := nI 0) dX11_staleOf_2 rfl ?_
  refine e_istore_n dX11_staleOf_3 rfl (Nat.le_of_ble_eq_true rfl) rfl ?_
  exact key 0 (by omega)
theorem ct_outer1 {fi : FI} {fr : FR} {ai : FI} {ar : FR} {N : Nat} {w : Nat → Nat} (sm : SM fr) (iv : Inv w)  : CP mX11_outer 3 0 0 [.ref (rf 11 80), .int (nI 1)] fi fr (mW ai w) ar N (xQ (some (.int (oI (otH w)))) fi fr (mW ai w) ar N) := by
  obtain ⟨sW, sA, sK, sU, sC, sKC, sT, sCl⟩ := id sm
  have h1 := iv_n iv
  have h3 := iv_mm iv
  change EV mX11_outer 3 0 0 0 [some (.ref (rf 11 80)), some (.int (nI 1)), none, none] [] fi fr (mW ai w) ar N (xQ (some (.int (oI (otH w)))) fi fr (mW ai w) ar N)
  have key := ev_up (P := (fun j => EV mX11_outer 3 0 0 4 [some (.ref (rf 11 80)), some (.int (nI 1)), some (.int (oI (bst (fun s => decide (w (4 + s) ≠ 0)) (fun s q => decide (ldF w q < ldF w s)) j))), some (.int (nI j))] [] fi fr (mW ai w) ar N (xQ (some (.int (oI (otH w)))) fi fr (mW ai w) ar N))) (6) (fun j hj ih => by
    have hu := iv_up iv hj
    have hld := ldF_le iv j
    cases hb : bst (fun s => decide (w (4 + s) ≠ 0)) (fun s q => decide (ldF w q < ldF w s)) j with
    | none =>
      refine e_iload_n dX11_outer_4 rfl rfl ?_
      refine e_bipush (v := nI 6) dX11_outer_5 rfl ?_
      first | ((with_reducible refine mk_nn ?_); refine n_icmp_ge (tgt := 72) dX11_outer_7 (by decide) (by omega) (by omega) (fun h7 => ?_) (fun h7 => ?_)) | refine e_icmp_ge (tgt := 72) dX11_outer_7 (by decide) (fun h7 => ?_) (fun h7 => ?_)
      · try first | contradiction | omega
        all_goals
          refine e_iload_n dX11_outer_72 rfl rfl ?_
          refine e_ret (some _) rfl (r_int dX11_outer_73 rfl) ?_
          exact xq (by first | rfl | simp_all [bI_t, bI_f]) rfl rfl rfl rfl rfl
      · try first | contradiction | omega
        all_goals
          refine e_aload_n dX11_outer_10 rfl rfl ?_
          refine e_getR dX11_outer_11 fl_X11_7 rfl (by assumption) ?_
          refine e_iconst (v := nI 4) dX11_outer_14 rfl ?_
          refine e_iload_n dX11_outer_15 rfl rfl ?_
          first | ((with_reducible refine mk_nn ?_); refine n_iadd dX11_outer_16 ?_) | refine e_iadd dX11_outer_16 ?_
          first | ((with_reducible refine mk_ldw ?_); refine e_ldw dX11_outer_17 (by omega) ?_) | refine e_iald _ dX11_outer_17 ⟨by decide, by decide⟩ rfl rfl (by simp only [lenK]; omega) ?_
          first | ((with_reducible refine mk_b ?_); refine b_if_ne (tgt := 24) dX11_outer_18 (by decide) (fun h18 => ?_) (fun h18 => ?_)) | ((with_reducible refine mk_ll ?_); refine m_if_ne (tgt := 24) dX11_outer_18 (by decide) (by omega) (by omega) (fun h18 => ?_) (fun h18 => ?_)) | ((with_reducible refine mk_lc ?_); refine l_if_ne (tgt := 24) dX11_outer_18 (by decide) (fun h18 => ?_) (fun h18 => ?_)) | ((with_reducible refine mk_n ?_); refine n_if_ne (tgt := 24) dX11_outer_18 (by decide) (by omega) (fun h18 => ?_) (fun h18 => ?_)) | refine e_if_ne (tgt := 24) dX11_outer_18 (by decide) (fun h18 => ?_) (fun h18 => ?_)
          · try first | contradiction | omega
            all_goals
              refine e_iload_n dX11_outer_24 rfl rfl ?_
              refine e_iconst (v := -1) dX11_outer_25 rfl ?_
              first | ((with_reducible refine mk_mo ?_); refine p_icmp_eq (tgt := 64) dX11_outer_26 (by decide) (fun h26 => ?_) (fun h26 => ?_)) | ((with_reducible refine mk_ms ?_); refine s_icmp_eq (tgt := 64) dX11_outer_26 (by decide) (by omega) (fun h26 => ?_) (fun h26 => ?_)) | ((with_reducible refine mk_mn ?_); refine q_icmp_eq (tgt := 64) dX11_outer_26 (by decide) (by omega) (fun h26 => ?_) (fun h26 => ?_)) | ((with_reducible refine mk_nn ?_); refine n_icmp_eq (tgt := 64) dX11_outer_26 (by decide) (by omega) (by omega) (fun h26 => ?_) (fun h26 => ?_)) | refine e_icmp_eq (tgt := 64) dX11_outer_26 (by decide) (fun h26 => ?_) (fun h26 => ?_)
              · try first | contradiction | omega
                all_goals
                  refine e_iload_n dX11_outer_64 rfl rfl ?_
                  refine e_istore_n dX11_outer_65 rfl (Nat.le_of_ble_eq_true rfl) rfl ?_
                  first | refine n_inc dX11_outer_66 rfl (Nat.le_of_ble_eq_true rfl) rfl ?_ | refine e_iinc dX11_outer_66 rfl rfl (Nat.le_of_ble_eq_true rfl) rfl ?_
                  refine e_goto (tgt := 4) dX11_outer_69 (by decide) ?_
                  first | (rw [bst_f (c := fun s => decide (w (4 + s) ≠ 0)) (b := fun s q => decide (ldF w q < ldF w s)) (n := j) (by grind), hb] at ih; exact ih) | (rw [bst_0 (c := fun s => decide (w (4 + s) ≠ 0)) (b := fun s q => decide (ldF w q < ldF w s)) (n := j) (by grind) hb] at ih; exact ih)
              · try first | contradiction | omega
                all_goals
                  refine e_iload_n dX11_outer_29 rfl rfl ?_
                  first | ((with_reducible refine mk_b ?_); refine b_if_eq (tgt := 50) dX11_outer_30 (by decide) (fun h30 => ?_) (fun h30 => ?_)) | ((with_reducible refine mk_ll ?_); refine m_if_eq (tgt := 50) dX11_outer_30 (by decide) (by omega) (by omega) (fun h30 => ?_) (fun h30 => ?_)) | ((with_reducible refine mk_lc ?_); refine l_if_eq (tgt := 50) dX11_outer_30 (by decide) (fun h30 => ?_) (fun h30 => ?_)) | ((with_reducible refine mk_n ?_); refine n_if_eq (tgt := 50) dX11_outer_30 (by decide) (by omega) (fun h30 => ?_) (fun h30 => ?_)) | refine e_if_eq (tgt := 50) dX11_outer_30 (by decide) (fun h30 => ?_) (fun h30 => ?_)
                  · try first | contradiction | omega
                    all_goals
                      refine e_aload_n dX11_outer_50 rfl rfl ?_
                      refine e_iload_n dX11_outer_51 rfl rfl ?_
                      refine x_V1 (M' := mX11_loadOf) dX11_outer_52 ml_X11_337 ok_X11_loadOf (by decide) rfl im_X11_loadOf se_X11_loadOf (ct_X11_loadOf ‹_› ‹_› (by omega)) (Nat.le_of_ble_eq_true rfl) (by decide) (Nat.le_of_ble_eq_true rfl) ?_
                      refine e_aload_n dX11_outer_55 rfl rfl ?_
                      refine e_iload_n dX11_outer_56 rfl rfl ?_
                      refine x_V1 (M' := mX11_loadOf) dX11_outer_57 ml_X11_337 ok_X11_loadOf (by decide) rfl im_X11_loadOf se_X11_loadOf (ct_X11_loadOf ‹_› ‹_› (by omega)) (Nat.le_of_ble_eq_true rfl) (by decide) (Nat.le_of_ble_eq_true rfl) ?_
                      refine e_lcmp dX11_outer_60 ?_
                      first | ((with_reducible refine mk_ll ?_); refine m_if_ge (tgt := 66) dX11_outer_61 (by decide) (by omega) (by omega) (fun h61 => ?_) (fun h61 => ?_)) | ((with_reducible refine mk_lc ?_); refine l_if_ge (tgt := 66) dX11_outer_61 (by decide) (fun h61 => ?_) (fun h61 => ?_)) | ((with_reducible refine mk_n ?_); refine n_if_ge (tgt := 66) dX11_outer_61 (by decide) (by omega) (fun h61 => ?_) (fun h61 => ?_)) | refine e_if_ge (tgt := 66) dX11_outer_61 (by decide) (fun h61 => ?_) (fun h61 => ?_)
                      · try first | contradiction | omega
                        all_goals
                          first | refine n_inc dX11_outer_66 rfl (Nat.le_of_ble_eq_true rfl) rfl ?_ | refine e_iinc dX11_outer_66 rfl rfl (Nat.le_of_ble_eq_true rfl) rfl ?_
                          refine e_goto (tgt := 4) dX11_outer_69 (by decide) ?_
                          first | (rw [bst_f (c := fun s => decide (w (4 + s) ≠ 0)) (b := fun s q => decide (ldF w q < ldF w s)) (n := j) (by grind), hb] at ih; exact ih) | (rw [bst_0 (c := fun s => decide (w (4 + s) ≠ 0)) (b := fun s q => decide (ldF w q < ldF w s)) (n := j) (by grind) hb] at ih; exact ih)
                      · try first | contradiction | omega
                        all_goals
                          refine e_iload_n dX11_outer_64 rfl rfl ?_
                          refine e_istore_n dX11_outer_65 rfl (Nat.le_of_ble_eq_true rfl) rfl ?_
                          first | refine n_inc dX11_outer_66 rfl (Nat.le_of_ble_eq_true rfl) rfl ?_ | refine e_iinc dX11_outer_66 rfl rfl (Nat.le_of_ble_eq_true rfl) rfl ?_
                          refine e_goto (tgt := 4) dX11_outer_69 (by decide) ?_
                          first | (rw [bst_f (c := fun s => decide (w (4 + s) ≠ 0)) (b := fun s q => decide (ldF w q < ldF w s)) (n := j) (by grind), hb] at ih; exact ih) | (rw [bst_0 (c := fun s => decide (w (4 + s) ≠ 0)) (b := fun s q => decide (ldF w q < ldF w s)) (n := j) (by grind) hb] at ih; exact ih)
                  · try first | contradiction | omega
                    all_goals
                      refine e_aload_n dX11_outer_33 rfl rfl ?_
                      refine e_iload_n dX11_outer_34 rfl rfl ?_
                      refine x_V1 (M' := mX11_loadOf) dX11_outer_35 ml_X11_337 ok_X11_loadOf (by decide) rfl im_X11_loadOf se_X11_loadOf (ct_X11_loadOf ‹_› ‹_› (by omega)) (Nat.le_of_ble_eq_true rfl) (by decide) (Nat.le_of_ble_eq_true rfl) ?_
                      refine e_aload_n dX11_outer_38 rfl rfl ?_
                      refine e_iload_n dX11_outer_39 rfl rfl ?_
                      refine x_V1 (M' := mX11_loadOf) dX11_outer_40 ml_X11_337 ok_X11_loadOf (by decide) rfl im_X11_loadOf se_X11_loadOf (ct_X11_loadOf ‹_› ‹_› (by omega)) (Nat.le_of_ble_eq_true rfl) (by decide) (Nat.le_of_ble_eq_true rfl) ?_
                      refine e_lcmp dX11_outer_43 ?_
                      first | ((with_reducible refine mk_ll ?_); refine m_if_le (tgt := 66) dX11_outer_44 (by decide) (by omega) (by omega) (fun h44 => ?_) (fun h44 => ?_)) | ((with_reducible refine mk_lc ?_); refine l_if_le (tgt := 66) dX11_outer_44 (by decide) (fun h44 => ?_) (fun h44 => ?_)) | ((with_reducible refine mk_n ?_); refine n_if_le (tgt := 66) dX11_outer_44 (by decide) (by omega) (fun h44 => ?_) (fun h44 => ?_)) | refine e_if_le (tgt := 66) dX11_outer_44 (by decide) (fun h44 => ?_) (fun h44 => ?_)
                      · try first | contradiction | omega
                        all_goals
                          first | refine n_inc dX11_outer_66 rfl (Nat.le_of_ble_eq_true rfl) rfl ?_ | refine e_iinc dX11_outer_66 rfl rfl (Nat.le_of_ble_eq_true rfl) rfl ?_
                          refine e_goto (tgt := 4) dX11_outer_69 (by decide) ?_
                          first | (rw [bst_f (c := fun s => decide (w (4 + s) ≠ 0)) (b := fun s q => decide (ldF w q < ldF w s)) (n := j) (by grind), hb] at ih; exact ih) | (rw [bst_0 (c := fun s => decide (w (4 + s) ≠ 0)) (b := fun s q => decide (ldF w q < ldF w s)) (n := j) (by grind) hb] at ih; exact ih)
                      · try first | contradiction | omega
                        all_goals
                          refine e_goto (tgt := 64) dX11_outer_47 (by decide) ?_
                          refine e_iload_n dX11_outer_64 rfl rfl ?_
                          refine e_istore_n dX11_outer_65 rfl (Nat.le_of_ble_eq_true rfl) rfl ?_
                          first | refine n_inc dX11_outer_66 rfl (Nat.le_of_ble_eq_true rfl) rfl ?_ | refine e_iinc dX11_outer_66 rfl rfl (Nat.le_of_ble_eq_true rfl) rfl ?_
                          refine e_goto (tgt := 4) dX11_outer_69 (by decide) ?_
                          first | (rw [bst_f (c := fun s => decide (w (4 + s) ≠ 0)) (b := fun s q => decide (ldF w q < ldF w s)) (n := j) (by grind), hb] at ih; exact ih) | (rw [bst_0 (c := fun s => decide (w (4 + s) ≠ 0)) (b := fun s q => decide (ldF w q < ldF w s)) (n := j) (by grind) hb] at ih; exact ih)
          · try first | contradiction | omega
            all_goals
              refine e_goto (tgt := 66) dX11_outer_21 (by decide) ?_
              first | refine n_inc dX11_outer_66 rfl (Nat.le_of_ble_eq_true rfl) rfl ?_ | refine e_iinc dX11_outer_66 rfl rfl (Nat.le_of_ble_eq_true rfl) rfl ?_
              refine e_goto (tgt := 4) dX11_outer_69 (by decide) ?_
              first | (rw [bst_f (c := fun s => decide (w (4 + s) ≠ 0)) (b := fun s q => decide (ldF w q < ldF w s)) (n := j) (by grind), hb] at ih; exact ih) | (rw [bst_0 (c := fun s => decide (w (4 + s) ≠ 0)) (b := fun s q => decide (ldF w q < ldF w s)) (n := j) (by grind) hb] at ih; exact ih)
    | some q =>
      have hq := (bst_in hb).1
      have hqc := (bst_in hb).2
      rw [oI_s]
      have hld2 := ldF_le iv q
      refine e_iload_n dX11_outer_4 rfl rfl ?_
      refine e_bipush (v := nI 6) dX11_outer_5 rfl ?_
      first | ((with_reducible refine mk_nn ?_); refine n_icmp_ge (tgt := 72) dX11_outer_7 (by decide) (by omega) (by omega) (fun h7 => ?_) (fun h7 => ?_)) | refine e_icmp_ge (tgt := 72) dX11_outer_7 (by decide) (fun h7 => ?_) (fun h7 => ?_)
      · try first | contradiction | omega
        all_goals
          refine e_iload_n dX11_outer_72 rfl rfl ?_
          refine e_ret (some _) rfl (r_int dX11_outer_73 rfl) ?_
          exact xq (by first | rfl | simp_all [bI_t, bI_f]) rfl rfl rfl rfl rfl
      · try first | contradiction | omega
        all_goals
          refine e_aload_n dX11_outer_10 rfl rfl ?_
          refine e_getR dX11_outer_11 fl_X11_7 rfl (by assumption) ?_
          refine e_iconst (v := nI 4) dX11_outer_14 rfl ?_
          refine e_iload_n dX11_outer_15 rfl rfl ?_
          first | ((with_reducible refine mk_nn ?_); refine n_iadd dX11_outer_16 ?_) | refine e_iadd dX11_outer_16 ?_
          first | ((with_reducible refine mk_ldw ?_); refine e_ldw dX11_outer_17 (by omega) ?_) | refine e_iald _ dX11_outer_17 ⟨by decide, by decide⟩ rfl rfl (by simp only [lenK]; omega) ?_
          first | ((with_reducible refine mk_b ?_); refine b_if_ne (tgt := 24) dX11_outer_18 (by decide) (fun h18 => ?_) (fun h18 => ?_)) | ((with_reducible refine mk_ll ?_); refine m_if_ne (tgt := 24) dX11_outer_18 (by decide) (by omega) (by omega) (fun h18 => ?_) (fun h18 => ?_)) | ((with_reducible refine mk_lc ?_); refine l_if_ne (tgt := 24) dX11_outer_18 (by decide) (fun h18 => ?_) (fun h18 => ?_)) | ((with_reducible refine mk_n ?_); refine n_if_ne (tgt := 24) dX11_outer_18 (by decide) (by omega) (fun h18 => ?_) (fun h18 => ?_)) | refine e_if_ne (tgt := 24) dX11_outer_18 (by decide) (fun h18 => ?_) (fun h18 => ?_)
          · try first | contradiction | omega
            all_goals
              refine e_iload_n dX11_outer_24 rfl rfl ?_
              refine e_iconst (v := -1) dX11_outer_25 rfl ?_
              first | ((with_reducible refine mk_mo ?_); refine p_icmp_eq (tgt := 64) dX11_outer_26 (by decide) (fun h26 => ?_) (fun h26 => ?_)) | ((with_reducible refine mk_ms ?_); refine s_icmp_eq (tgt := 64) dX11_outer_26 (by decide) (by omega) (fun h26 => ?_) (fun h26 => ?_)) | ((with_reducible refine mk_mn ?_); refine q_icmp_eq (tgt := 64) dX11_outer_26 (by decide) (by omega) (fun h26 => ?_) (fun h26 => ?_)) | ((with_reducible refine mk_nn ?_); refine n_icmp_eq (tgt := 64) dX11_outer_26 (by decide) (by omega) (by omega) (fun h26 => ?_) (fun h26 => ?_)) | refine e_icmp_eq (tgt := 64) dX11_outer_26 (by decide) (fun h26 => ?_) (fun h26 => ?_)
              · try first | contradiction | omega
                all_goals
                  refine e_iload_n dX11_outer_64 rfl rfl ?_
                  refine e_istore_n dX11_outer_65 rfl (Nat.le_of_ble_eq_true rfl) rfl ?_
                  first | refine n_inc dX11_outer_66 rfl (Nat.le_of_ble_eq_true rfl) rfl ?_ | refine e_iinc dX11_outer_66 rfl rfl (Nat.le_of_ble_eq_true rfl) rfl ?_
                  refine e_goto (tgt := 4) dX11_outer_69 (by decide) ?_
                  first | (rw [bst_f (c := fun s => decide (w (4 + s) ≠ 0)) (b := fun s q => decide (ldF w q < ldF w s)) (n := j) (by grind), hb] at ih; exact ih) | (rw [bst_0 (c := fun s => decide (w (4 + s) ≠ 0)) (b := fun s q => decide (ldF w q < ldF w s)) (n := j) (by grind) hb] at ih; exact ih) | (rw [bst_1 (c := fun s => decide (w (4 + s) ≠ 0)) (b := fun s q => decide (ldF w q < ldF w s)) (n := j) (by grind) hb (by grind)] at ih; exact ih) | (rw [bst_2 (c := fun s => decide (w (4 + s) ≠ 0)) (b := fun s q => decide (ldF w q < ldF w s)) (n := j) (by grind) hb (by grind)] at ih; exact ih)
              · try first | contradiction | omega
                all_goals
                  refine e_iload_n dX11_outer_29 rfl rfl ?_
                  first | ((with_reducible refine mk_b ?_); refine b_if_eq (tgt := 50) dX11_outer_30 (by decide) (fun h30 => ?_) (fun h30 => ?_)) | ((with_reducible refine mk_ll ?_); refine m_if_eq (tgt := 50) dX11_outer_30 (by decide) (by omega) (by omega) (fun h30 => ?_) (fun h30 => ?_)) | ((with_reducible refine mk_lc ?_); refine l_if_eq (tgt := 50) dX11_outer_30 (by decide) (fun h30 => ?_) (fun h30 => ?_)) | ((with_reducible refine mk_n ?_); refine n_if_eq (tgt := 50) dX11_outer_30 (by decide) (by omega) (fun h30 => ?_) (fun h30 => ?_)) | refine e_if_eq (tgt := 50) dX11_outer_30 (by decide) (fun h30 => ?_) (fun h30 => ?_)
                  · try first | contradiction | omega
                    all_goals
                      refine e_aload_n dX11_outer_50 rfl rfl ?_
                      refine e_iload_n dX11_outer_51 rfl rfl ?_
                      refine x_V1 (M' := mX11_loadOf) dX11_outer_52 ml_X11_337 ok_X11_loadOf (by decide) rfl im_X11_loadOf se_X11_loadOf (ct_X11_loadOf ‹_› ‹_› (by omega)) (Nat.le_of_ble_eq_true rfl) (by decide) (Nat.le_of_ble_eq_true rfl) ?_
                      refine e_aload_n dX11_outer_55 rfl rfl ?_
                      refine e_iload_n dX11_outer_56 rfl rfl ?_
                      refine x_V1 (M' := mX11_loadOf) dX11_outer_57 ml_X11_337 ok_X11_loadOf (by decide) rfl im_X11_loadOf se_X11_loadOf (ct_X11_loadOf ‹_› ‹_› (by omega)) (Nat.le_of_ble_eq_true rfl) (by decide) (Nat.le_of_ble_eq_true rfl) ?_
                      refine e_lcmp dX11_outer_60 ?_
                      first | ((with_reducible refine mk_ll ?_); refine m_if_ge (tgt := 66) dX11_outer_61 (by decide) (by omega) (by omega) (fun h61 => ?_) (fun h61 => ?_)) | ((with_reducible refine mk_lc ?_); refine l_if_ge (tgt := 66) dX11_outer_61 (by decide) (fun h61 => ?_) (fun h61 => ?_)) | ((with_reducible refine mk_n ?_); refine n_if_ge (tgt := 66) dX11_outer_61 (by decide) (by omega) (fun h61 => ?_) (fun h61 => ?_)) | refine e_if_ge (tgt := 66) dX11_outer_61 (by decide) (fun h61 => ?_) (fun h61 => ?_)
                      · try first | contradiction | omega
                        all_goals
                          first | refine n_inc dX11_outer_66 rfl (Nat.le_of_ble_eq_true rfl) rfl ?_ | refine e_iinc dX11_outer_66 rfl rfl (Nat.le_of_ble_eq_true rfl) rfl ?_
                          refine e_goto (tgt := 4) dX11_outer_69 (by decide) ?_
                          first | (rw [bst_f (c := fun s => decide (w (4 + s) ≠ 0)) (b := fun s q => decide (ldF w q < ldF w s)) (n := j) (by grind), hb] at ih; exact ih) | (rw [bst_0 (c := fun s => decide (w (4 + s) ≠ 0)) (b := fun s q => decide (ldF w q < ldF w s)) (n := j) (by grind) hb] at ih; exact ih) | (rw [bst_1 (c := fun s => decide (w (4 + s) ≠ 0)) (b := fun s q => decide (ldF w q < ldF w s)) (n := j) (by grind) hb (by grind)] at ih; exact ih) | (rw [bst_2 (c := fun s => decide (w (4 + s) ≠ 0)) (b := fun s q => decide (ldF w q < ldF w s)) (n := j) (by grind) hb (by grind)] at ih; exact ih)
                      · try first | contradiction | omega
                        all_goals
                          refine e_iload_n dX11_outer_64 rfl rfl ?_
                          refine e_istore_n dX11_outer_65 rfl (Nat.le_of_ble_eq_true rfl) rfl ?_
                          first | refine n_inc dX11_outer_66 rfl (Nat.le_of_ble_eq_true rfl) rfl ?_ | refine e_iinc dX11_outer_66 rfl rfl (Nat.le_of_ble_eq_true rfl) rfl ?_
                          refine e_goto (tgt := 4) dX11_outer_69 (by decide) ?_
                          first | (rw [bst_f (c := fun s => decide (w (4 + s) ≠ 0)) (b := fun s q => decide (ldF w q < ldF w s)) (n := j) (by grind), hb] at ih; exact ih) | (rw [bst_0 (c := fun s => decide (w (4 + s) ≠ 0)) (b := fun s q => decide (ldF w q < ldF w s)) (n := j) (by grind) hb] at ih; exact ih) | (rw [bst_1 (c := fun s => decide (w (4 + s) ≠ 0)) (b := fun s q => decide (ldF w q < ldF w s)) (n := j) (by grind) hb (by grind)] at ih; exact ih) | (rw [bst_2 (c := fun s => decide (w (4 + s) ≠ 0)) (b := fun s q => decide (ldF w q < ldF w s)) (n := j) (by grind) hb (by grind)] at ih; exact ih)
                  · try first | contradiction | omega
                    all_goals
                      refine e_aload_n dX11_outer_33 rfl rfl ?_
                      refine e_iload_n dX11_outer_34 rfl rfl ?_
                      refine x_V1 (M' := mX11_loadOf) dX11_outer_35 ml_X11_337 ok_X11_loadOf (by decide) rfl im_X11_loadOf se_X11_loadOf (ct_X11_loadOf ‹_› ‹_› (by omega)) (Nat.le_of_ble_eq_true rfl) (by decide) (Nat.le_of_ble_eq_true rfl) ?_
                      refine e_aload_n dX11_outer_38 rfl rfl ?_
                      refine e_iload_n dX11_outer_39 rfl rfl ?_
                      refine x_V1 (M' := mX11_loadOf) dX11_outer_40 ml_X11_337 ok_X11_loadOf (by decide) rfl im_X11_loadOf se_X11_loadOf (ct_X11_loadOf ‹_› ‹_› (by omega)) (Nat.le_of_ble_eq_true rfl) (by decide) (Nat.le_of_ble_eq_true rfl) ?_
                      refine e_lcmp dX11_outer_43 ?_
                      first | ((with_reducible refine mk_ll ?_); refine m_if_le (tgt := 66) dX11_outer_44 (by decide) (by omega) (by omega) (fun h44 => ?_) (fun h44 => ?_)) | ((with_reducible refine mk_lc ?_); refine l_if_le (tgt := 66) dX11_outer_44 (by decide) (fun h44 => ?_) (fun h44 => ?_)) | ((with_reducible refine mk_n ?_); refine n_if_le (tgt := 66) dX11_outer_44 (by decide) (by omega) (fun h44 => ?_) (fun h44 => ?_)) | refine e_if_le (tgt := 66) dX11_outer_44 (by decide) (fun h44 => ?_) (fun h44 => ?_)
                      · try first | contradiction | omega
                        all_goals
                          first | refine n_inc dX11_outer_66 rfl (Nat.le_of_ble_eq_true rfl) rfl ?_ | refine e_iinc dX11_outer_66 rfl rfl (Nat.le_of_ble_eq_true rfl) rfl ?_
                          refine e_goto (tgt := 4) dX11_outer_69 (by decide) ?_
                          first | (rw [bst_f (c := fun s => decide (w (4 + s) ≠ 0)) (b := fun s q => decide (ldF w q < ldF w s)) (n := j) (by grind), hb] at ih; exact ih) | (rw [bst_0 (c := fun s => decide (w (4 + s) ≠ 0)) (b := fun s q => decide (ldF w q < ldF w s)) (n := j) (by grind) hb] at ih; exact ih) | (rw [bst_1 (c := fun s => decide (w (4 + s) ≠ 0)) (b := fun s q => decide (ldF w q < ldF w s)) (n := j) (by grind) hb (by grind)] at ih; exact ih) | (rw [bst_2 (c := fun s => decide (w (4 + s) ≠ 0)) (b := fun s q => decide (ldF w q < ldF w s)) (n := j) (by grind) hb (by grind)] at ih; exact ih)
                      · try first | contradiction | omega
                        all_goals
                          refine e_goto (tgt := 64) dX11_outer_47 (by decide) ?_
                          refine e_iload_n dX11_outer_64 rfl rfl ?_
                          refine e_istore_n dX11_outer_65 rfl (Nat.le_of_ble_eq_true rfl) rfl ?_
                          first | refine n_inc dX11_outer_66 rfl (Nat.le_of_ble_eq_true rfl) rfl ?_ | refine e_iinc dX11_outer_66 rfl rfl (Nat.le_of_ble_eq_true rfl) rfl ?_
                          refine e_goto (tgt := 4) dX11_outer_69 (by decide) ?_
                          first | (rw [bst_f (c := fun s => decide (w (4 + s) ≠ 0)) (b := fun s q => decide (ldF w q < ldF w s)) (n := j) (by grind), hb] at ih; exact ih) | (rw [bst_0 (c := fun s => decide (w (4 + s) ≠ 0)) (b := fun s q => decide (ldF w q < ldF w s)) (n := j) (by grind) hb] at ih; exact ih) | (rw [bst_1 (c := fun s => decide (w (4 + s) ≠ 0)) (b := fun s q => decide (ldF w q < ldF w s)) (n := j) (by grind) hb (by grind)] at ih; exact ih) | (rw [bst_2 (c := fun s => decide (w (4 + s) ≠ 0)) (b := fun s q => decide (ldF w q < ldF w s)) (n := j) (by grind) hb (by grind)] at ih; exact ih)
          · try first | contradiction | omega
            all_goals
              refine e_goto (tgt := 66) dX11_outer_21 (by decide) ?_
              first | refine n_inc dX11_outer_66 rfl (Nat.le_of_ble_eq_true rfl) rfl ?_ | refine e_iinc dX11_outer_66 rfl rfl (Nat.le_of_ble_eq_true rfl) rfl ?_
              refine e_goto (tgt := 4) dX11_outer_69 (by decide) ?_
              first | (rw [bst_f (c := fun s => decide (w (4 + s) ≠ 0)) (b := fun s q => decide (ldF w q < ldF w s)) (n := j) (by grind), hb] at ih; exact ih) | (rw [bst_0 (c := fun s => decide (w (4 + s) ≠ 0)) (b := fun s q => decide (ldF w q < ldF w s)) (n := j) (by grind) hb] at ih; exact ih) | (rw [bst_1 (c := fun s => decide (w (4 + s) ≠ 0)) (b := fun s q => decide (ldF w q < ldF w s)) (n := j) (by grind) hb (by grind)] at ih; exact ih) | (rw [bst_2 (c := fun s => decide (w (4 + s) ≠ 0)) (b := fun s q => decide (ldF w q < ldF w s)) (n := j) (by grind) hb (by grind)] at ih; exact ih)
    ) (by
    refine e_iload_n dX11_outer_4 rfl rfl ?_
    refine e_bipush (v := nI 6) dX11_outer_5 rfl ?_
    first | ((with_reducible refine mk_nn ?_); refine n_icmp_ge (tgt := 72) dX11_outer_7 (by decide) (by omega) (by omega) (fun h7 => ?_) (fun h7 => ?_)) | refine e_icmp_ge (tgt := 72) dX11_outer_7 (by decide) (fun h7 => ?_) (fun h7 => ?_)
    · try first | contradiction | omega
      all_goals
        refine e_iload_n dX11_outer_72 rfl rfl ?_
        refine e_ret (some _) rfl (r_int dX11_outer_73 rfl) ?_
        exact xq rfl rfl rfl rfl rfl rfl
    · try first | contradiction | omega
      all_goals
        refine e_aload_n dX11_outer_10 rfl rfl ?_
        refine e_getR dX11_outer_11 fl_X11_7 rfl (by assumption) ?_
        refine e_iconst (v := nI 4) dX11_outer_14 rfl ?_
        refine e_iload_n dX11_outer_15 rfl rfl ?_
        first | ((with_reducible refine mk_nn ?_); refine n_iadd dX11_outer_16 ?_) | refine e_iadd dX11_outer_16 ?_
        first | ((with_reducible refine mk_ldw ?_); refine e_ldw dX11_outer_17 (by omega) ?_) | refine e_iald _ dX11_outer_17 ⟨by decide, by decide⟩ rfl rfl (by simp only [lenK]; omega) ?_
        first | ((with_reducible refine mk_b ?_); refine b_if_ne (tgt := 24) dX11_outer_18 (by decide) (fun h18 => ?_) (fun h18 => ?_)) | ((with_reducible refine mk_ll ?_); refine m_if_ne (tgt := 24) dX11_outer_18 (by decide) (by omega) (by omega) (fun h18 => ?_) (fun h18 => ?_)) | ((with_reducible refine mk_lc ?_); refine l_if_ne (tgt := 24) dX11_outer_18 (by decide) (fun h18 => ?_) (fun h18 => ?_)) | ((with_reducible refine mk_n ?_); refine n_if_ne (tgt := 24) dX11_outer_18 (by decide) (by omega) (fun h18 => ?_) (fun h18 => ?_)) | refine e_if_ne (tgt := 24) dX11_outer_18 (by decide) (fun h18 => ?_) (fun h18 => ?_)
        · try first | contradiction | omega
          all_goals
            refine e_iload_n dX11_outer_24 rfl rfl ?_
            refine e_iconst (v := -1) dX11_outer_25 rfl ?_
            first | ((with_reducible refine mk_mo ?_); refine p_icmp_eq (tgt := 64) dX11_outer_26 (by decide) (fun h26 => ?_) (fun h26 => ?_)) | ((with_reducible refine mk_ms ?_); refine s_icmp_eq (tgt := 64) dX11_outer_26 (by decide) (by omega) (fun h26 => ?_) (fun h26 => ?_)) | ((with_reducible refine mk_mn ?_); refine q_icmp_eq (tgt := 64) dX11_outer_26 (by decide) (by omega) (fun h26 => ?_) (fun h26 => ?_)) | ((with_reducible refine mk_nn ?_); refine n_icmp_eq (tgt := 64) dX11_outer_26 (by decide) (by omega) (by omega) (fun h26 => ?_) (fun h26 => ?_)) | refine e_icmp_eq (tgt := 64) dX11_outer_26 (by decide) (fun h26 => ?_) (fun h26 => ?_)
            · try first | contradiction | omega
              all_goals
                refine e_iload_n dX11_outer_64 rfl rfl ?_
                refine e_istore_n dX11_outer_65 rfl (Nat.le_of_ble_eq_true rfl) rfl ?_
                first | refine n_inc dX11_outer_66 rfl (Nat.le_of_ble_eq_true rfl) rfl ?_ | refine e_iinc dX11_outer_66 rfl rfl (Nat.le_of_ble_eq_true rfl) rfl ?_
                refine e_goto (tgt := 4) dX11_outer_69 (by decide) ?_
                first | (rw [bst_f (c := fun s => decide (w (4 + s) ≠ 0)) (b := fun s q => decide (ldF w q < ldF w s)) (n := j) (by grind), hb] at ih; exact ih) | (rw [bst_0 (c := fun s => decide (w (4 + s) ≠ 0)) (b := fun s q => decide (ldF w q < ldF w s)) (n := j) (by grind) hb] at ih; exact ih) | (rw [bst_1 (c := fun s => decide (w (4 + s) ≠ 0)) (b := fun s q => decide (ldF w q < ldF w s)) (n := j) (by grind) hb (by grind)] at ih; exact ih) | (rw [bst_2 (c := fun s => decide (w (4 + s) ≠ 0)) (b := fun s q => decide (ldF w q < ldF w s)) (n := j) (by grind) hb (by grind)] at ih; exact ih)
            · try first | contradiction | omega
              all_goals
                refine e_iload_n dX11_outer_29 rfl rfl ?_
                first | ((with_reducible refine mk_b ?_); refine b_if_eq (tgt := 50) dX11_outer_30 (by decide) (fun h30 => ?_) (fun h30 => ?_)) | ((with_reducible refine mk_ll ?_); refine m_if_eq (tgt := 50) dX11_outer_30 (by decide) (by omega) (by omega) (fun h30 => ?_) (fun h30 => ?_)) | ((with_reducible refine mk_lc ?_); refine l_if_eq (tgt := 50) dX11_outer_30 (by decide) (fun h30 => ?_) (fun h30 => ?_)) | ((with_reducible refine mk_n ?_); refine n_if_eq (tgt := 50) dX11_outer_30 (by decide) (by omega) (fun h30 => ?_) (fun h30 => ?_)) | refine e_if_eq (tgt := 50) dX11_outer_30 (by decide) (fun h30 => ?_) (fun h30 => ?_)
                · try first | contradiction | omega
                  all_goals
                    refine e_aload_n dX11_outer_50 rfl rfl ?_
                    refine e_iload_n dX11_outer_51 rfl rfl ?_
                    refine x_V1 (M' := mX11_loadOf) dX11_outer_52 ml_X11_337 ok_X11_loadOf (by decide) rfl im_X11_loadOf se_X11_loadOf (ct_X11_loadOf ‹_› ‹_› (by omega)) (Nat.le_of_ble_eq_true rfl) (by decide) (Nat.le_of_ble_eq_true rfl) ?_
                    refine e_aload_n dX11_outer_55 rfl rfl ?_
                    refine e_iload_n dX11_outer_56 rfl rfl ?_
                    refine x_V1 (M' := mX11_loadOf) dX11_outer_57 ml_X11_337 ok_X11_loadOf (by decide) rfl im_X11_loadOf se_X11_loadOf (ct_X11_loadOf ‹_› ‹_› (by omega)) (Nat.le_of_ble_eq_true rfl) (by decide) (Nat.le_of_ble_eq_true rfl) ?_
                    refine e_lcmp dX11_outer_60 ?_
                    first | ((with_reducible refine mk_ll ?_); refine m_if_ge (tgt := 66) dX11_outer_61 (by decide) (by omega) (by omega) (fun h61 => ?_) (fun h61 => ?_)) | ((with_reducible refine mk_lc ?_); refine l_if_ge (tgt := 66) dX11_outer_61 (by decide) (fun h61 => ?_) (fun h61 => ?_)) | ((with_reducible refine mk_n ?_); refine n_if_ge (tgt := 66) dX11_outer_61 (by decide) (by omega) (fun h61 => ?_) (fun h61 => ?_)) | refine e_if_ge (tgt := 66) dX11_outer_61 (by decide) (fun h61 => ?_) (fun h61 => ?_)
                    · try first | contradiction | omega
                      all_goals
                        first | refine n_inc dX11_outer_66 rfl (Nat.le_of_ble_eq_true rfl) rfl ?_ | refine e_iinc dX11_outer_66 rfl rfl (Nat.le_of_ble_eq_true rfl) rfl ?_
                        refine e_goto (tgt := 4) dX11_outer_69 (by decide) ?_
                        first | (rw [bst_f (c := fun s => decide (w (4 + s) ≠ 0)) (b := fun s q => decide (ldF w q < ldF w s)) (n := j) (by grind), hb] at ih; exact ih) | (rw [bst_0 (c := fun s => decide (w (4 + s) ≠ 0)) (b := fun s q => decide (ldF w q < ldF w s)) (n := j) (by grind) hb] at ih; exact ih) | (rw [bst_1 (c := fun s => decide (w (4 + s) ≠ 0)) (b := fun s q => decide (ldF w q < ldF w s)) (n := j) (by grind) hb (by grind)] at ih; exact ih) | (rw [bst_2 (c := fun s => decide (w (4 + s) ≠ 0)) (b := fun s q => decide (ldF w q < ldF w s)) (n := j) (by grind) hb (by grind)] at ih; exact ih)
                    · try first | contradiction | omega
                      all_goals
                        refine e_iload_n dX11_outer_64 rfl rfl ?_
                        refine e_istore_n dX11_outer_65 rfl (Nat.le_of_ble_eq_true rfl) rfl ?_
                        first | refine n_inc dX11_outer_66 rfl (Nat.le_of_ble_eq_true rfl) rfl ?_ | refine e_iinc dX11_outer_66 rfl rfl (Nat.le_of_ble_eq_true rfl) rfl ?_
                        refine e_goto (tgt := 4) dX11_outer_69 (by decide) ?_
                        first | (rw [bst_f (c := fun s => decide (w (4 + s) ≠ 0)) (b := fun s q => decide (ldF w q < ldF w s)) (n := j) (by grind), hb] at ih; exact ih) | (rw [bst_0 (c := fun s => decide (w (4 + s) ≠ 0)) (b := fun s q => decide (ldF w q < ldF w s)) (n := j) (by grind) hb] at ih; exact ih) | (rw [bst_1 (c := fun s => decide (w (4 + s) ≠ 0)) (b := fun s q => decide (ldF w q < ldF w s)) (n := j) (by grind) hb (by grind)] at ih; exact ih) | (rw [bst_2 (c := fun s => decide (w (4 + s) ≠ 0)) (b := fun s q => decide (ldF w q < ldF w s)) (n := j) (by grind) hb (by grind)] at ih; exact ih)
                · try first | contradiction | omega
                  all_goals
                    refine e_aload_n dX11_outer_33 rfl rfl ?_
                    refine e_iload_n dX11_outer_34 rfl rfl ?_
                    refine x_V1 (M' := mX11_loadOf) dX11_outer_35 ml_X11_337 ok_X11_loadOf (by decide) rfl im_X11_loadOf se_X11_loadOf (ct_X11_loadOf ‹_› ‹_› (by omega)) (Nat.le_of_ble_eq_true rfl) (by decide) (Nat.le_of_ble_eq_true rfl) ?_
                    refine e_aload_n dX11_outer_38 rfl rfl ?_
                    refine e_iload_n dX11_outer_39 rfl rfl ?_
                    refine x_V1 (M' := mX11_loadOf) dX11_outer_40 ml_X11_337 ok_X11_loadOf (by decide) rfl im_X11_loadOf se_X11_loadOf (ct_X11_loadOf ‹_› ‹_› (by omega)) (Nat.le_of_ble_eq_true rfl) (by decide) (Nat.le_of_ble_eq_true rfl) ?_
                    refine e_lcmp dX11_outer_43 ?_
                    first | ((with_reducible refine mk_ll ?_); refine m_if_le (tgt := 66) dX11_outer_44 (by decide) (by omega) (by omega) (fun h44 => ?_) (fun h44 => ?_)) | ((with_reducible refine mk_lc ?_); refine l_if_le (tgt := 66) dX11_outer_44 (by decide) (fun h44 => ?_) (fun h44 => ?_)) | ((with_reducible refine mk_n ?_); refine n_if_le (tgt := 66) dX11_outer_44 (by decide) (by omega) (fun h44 => ?_) (fun h44 => ?_)) | refine e_if_le (tgt := 66) dX11_outer_44 (by decide) (fun h44 => ?_) (fun h44 => ?_)
                    · try first | contradiction | omega
                      all_goals
                        first | refine n_inc dX11_outer_66 rfl (Nat.le_of_ble_eq_true rfl) rfl ?_ | refine e_iinc dX11_outer_66 rfl rfl (Nat.le_of_ble_eq_true rfl) rfl ?_
                        refine e_goto (tgt := 4) dX11_outer_69 (by decide) ?_
                        first | (rw [bst_f (c := fun s => decide (w (4 + s) ≠ 0)) (b := fun s q => decide (ldF w q < ldF w s)) (n := j) (by grind), hb] at ih; exact ih) | (rw [bst_0 (c := fun s => decide (w (4 + s) ≠ 0)) (b := fun s q => decide (ldF w q < ldF w s)) (n := j) (by grind) hb] at ih; exact ih) | (rw [bst_1 (c := fun s => decide (w (4 + s) ≠ 0)) (b := fun s q => decide (ldF w q < ldF w s)) (n := j) (by grind) hb (by grind)] at ih; exact ih) | (rw [bst_2 (c := fun s => decide (w (4 + s) ≠ 0)) (b := fun s q => decide (ldF w q < ldF w s)) (n := j) (by grind) hb (by grind)] at ih; exact ih)
                    · try first | contradiction | omega
                      all_goals
                        refine e_goto (tgt := 64) dX11_outer_47 (by decide) ?_
                        refine e_iload_n dX11_outer_64 rfl rfl ?_
                        refine e_istore_n dX11_outer_65 rfl (Nat.le_of_ble_eq_true rfl) rfl ?_
                        first | refine n_inc dX11_outer_66 rfl (Nat.le_of_ble_eq_true rfl) rfl ?_ | refine e_iinc dX11_outer_66 rfl rfl (Nat.le_of_ble_eq_true rfl) rfl ?_
                        refine e_goto (tgt := 4) dX11_outer_69 (by decide) ?_
                        first | (rw [bst_f (c := fun s => decide (w (4 + s) ≠ 0)) (b := fun s q => decide (ldF w q < ldF w s)) (n := j) (by grind), hb] at ih; exact ih) | (rw [bst_0 (c := fun s => decide (w (4 + s) ≠ 0)) (b := fun s q => decide (ldF w q < ldF w s)) (n := j) (by grind) hb] at ih; exact ih) | (rw [bst_1 (c := fun s => decide (w (4 + s) ≠ 0)) (b := fun s q => decide (ldF w q < ldF w s)) (n := j) (by grind) hb (by grind)] at ih; exact ih) | (rw [bst_2 (c := fun s => decide (w (4 + s) ≠ 0)) (b := fun s q => decide (ldF w q < ldF w s)) (n := j) (by grind) hb (by grind)] at ih; exact ih)
        · try first | contradiction | omega
          all_goals
            refine e_goto (tgt := 66) dX11_outer_21 (by decide) ?_
            first | refine n_inc dX11_outer_66 rfl (Nat.le_of_ble_eq_true rfl) rfl ?_ | refine e_iinc dX11_outer_66 rfl rfl (Nat.le_of_ble_eq_true rfl) rfl ?_
            refine e_goto (tgt := 4) dX11_outer_69 (by decide) ?_
            first | (rw [bst_f (c := fun s => decide (w (4 + s) ≠ 0)) (b := fun s q => decide (ldF w q < ldF w s)) (n := j) (by grind), hb] at ih; exact ih) | (rw [bst_0 (c := fun s => decide (w (4 + s) ≠ 0)) (b := fun s q => decide (ldF w q < ldF w s)) (n := j) (by grind) hb] at ih; exact ih) | (rw [bst_1 (c := fun s => decide (w (4 + s) ≠ 0)) (b := fun s q => decide (ldF w q < ldF w s)) (n := j) (by grind) hb (by grind)] at ih; exact ih) | (rw [bst_2 (c := fun s => decide (w (4 + s) ≠ 0)) (b := fun s q => decide (ldF w q < ldF w s)) (n := j) (by grind) hb (by grind)] at ih; exact ih)
    )
  refine e_iconst (v := -1) dX11_outer_0 rfl ?_
  refine e_istore_n dX11_outer_1 rfl (Nat.le_of_ble_eq_true rfl) rfl ?_
  refine e_iconst (v := nI 0) dX11_outer_2 rfl ?_
  refine e_istore_n dX11_outer_3 rfl (Nat.le_of_ble_eq_true rfl) rfl ?_
  exact key 0 (by omega)
theorem ct_outer0 {fi : FI} {fr : FR} {ai : FI} {ar : FR} {N : Nat} {w : Nat → Nat} (sm : SM fr) (iv : Inv w)  : CP mX11_outer 3 0 0 [.ref (rf 11 80), .int (nI 0)] fi fr (mW ai w) ar N (xQ (some (.int (oI (otL w)))) fi fr (mW ai w) ar N) := by
  obtain ⟨sW, sA, sK, sU, sC, sKC, sT, sCl⟩ := id sm
  have h1 := iv_n iv
  have h3 := iv_mm iv
  change EV mX11_outer 3 0 0 0 [some (.ref (rf 11 80)), some (.int (nI 0)), none, none] [] fi fr (mW ai w) ar N (xQ (some (.int (oI (otL w)))) fi fr (mW ai w) ar N)
  have key := ev_up (P := (fun j => EV mX11_outer 3 0 0 4 [some (.ref (rf 11 80)), some (.int (nI 0)), some (.int (oI (bst (fun s => decide (w (4 + s) ≠ 0)) (fun s q => decide (ldF w s < ldF w q)) j))), some (.int (nI j))] [] fi fr (mW ai w) ar N (xQ (some (.int (oI (otL w)))) fi fr (mW ai w) ar N))) (6) (fun j hj ih => by
    have hu := iv_up iv hj
    have hld := ldF_le iv j
    cases hb : bst (fun s => decide (w (4 + s) ≠ 0)) (fun s q => decide (ldF w s < ldF w q)) j with
    | none =>
      refine e_iload_n dX11_outer_4 rfl rfl ?_
      refine e_bipush (v := nI 6) dX11_outer_5 rfl ?_
      first | ((with_reducible refine mk_nn ?_); refine n_icmp_ge (tgt := 72) dX11_outer_7 (by decide) (by omega) (by omega) (fun h7 => ?_) (fun h7 => ?_)) | refine e_icmp_ge (tgt := 72) dX11_outer_7 (by decide) (fun h7 => ?_) (fun h7 => ?_)
      · try first | contradiction | omega
        all_goals
          refine e_iload_n dX11_outer_72 rfl rfl ?_
          refine e_ret (some _) rfl (r_int dX11_outer_73 rfl) ?_
          exact xq (by first | rfl | simp_all [bI_t, bI_f]) rfl rfl rfl rfl rfl
      · try first | contradiction | omega
        all_goals
          refine e_aload_n dX11_outer_10 rfl rfl ?_
          refine e_getR dX11_outer_11 fl_X11_7 rfl (by assumption) ?_
          refine e_iconst (v := nI 4) dX11_outer_14 rfl ?_
          refine e_iload_n dX11_outer_15 rfl rfl ?_
          first | ((with_reducible refine mk_nn ?_); refine n_iadd dX11_outer_16 ?_) | refine e_iadd dX11_outer_16 ?_
          first | ((with_reducible refine mk_ldw ?_); refine e_ldw dX11_outer_17 (by omega) ?_) | refine e_iald _ dX11_outer_17 ⟨by decide, by decide⟩ rfl rfl (by simp only [lenK]; omega) ?_
          first | ((with_reducible refine mk_b ?_); refine b_if_ne (tgt := 24) dX11_outer_18 (by decide) (fun h18 => ?_) (fun h18 => ?_)) | ((with_reducible refine mk_ll ?_); refine m_if_ne (tgt := 24) dX11_outer_18 (by decide) (by omega) (by omega) (fun h18 => ?_) (fun h18 => ?_)) | ((with_reducible refine mk_lc ?_); refine l_if_ne (tgt := 24) dX11_outer_18 (by decide) (fun h18 => ?_) (fun h18 => ?_)) | ((with_reducible refine mk_n ?_); refine n_if_ne (tgt := 24) dX11_outer_18 (by decide) (by omega) (fun h18 => ?_) (fun h18 => ?_)) | refine e_if_ne (tgt := 24) dX11_outer_18 (by decide) (fun h18 => ?_) (fun h18 => ?_)
          · try first | contradiction | omega
            all_goals
              refine e_iload_n dX11_outer_24 rfl rfl ?_
              refine e_iconst (v := -1) dX11_outer_25 rfl ?_
              first | ((with_reducible refine mk_mo ?_); refine p_icmp_eq (tgt := 64) dX11_outer_26 (by decide) (fun h26 => ?_) (fun h26 => ?_)) | ((with_reducible refine mk_ms ?_); refine s_icmp_eq (tgt := 64) dX11_outer_26 (by decide) (by omega) (fun h26 => ?_) (fun h26 => ?_)) | ((with_reducible refine mk_mn ?_); refine q_icmp_eq (tgt := 64) dX11_outer_26 (by decide) (by omega) (fun h26 => ?_) (fun h26 => ?_)) | ((with_reducible refine mk_nn ?_); refine n_icmp_eq (tgt := 64) dX11_outer_26 (by decide) (by omega) (by omega) (fun h26 => ?_) (fun h26 => ?_)) | refine e_icmp_eq (tgt := 64) dX11_outer_26 (by decide) (fun h26 => ?_) (fun h26 => ?_)
              · try first | contradiction | omega
                all_goals
                  refine e_iload_n dX11_outer_64 rfl rfl ?_
                  refine e_istore_n dX11_outer_65 rfl (Nat.le_of_ble_eq_true rfl) rfl ?_
                  first | refine n_inc dX11_outer_66 rfl (Nat.le_of_ble_eq_true rfl) rfl ?_ | refine e_iinc dX11_outer_66 rfl rfl (Nat.le_of_ble_eq_true rfl) rfl ?_
                  refine e_goto (tgt := 4) dX11_outer_69 (by decide) ?_
                  first | (rw [bst_f (c := fun s => decide (w (4 + s) ≠ 0)) (b := fun s q => decide (ldF w s < ldF w q)) (n := j) (by grind), hb] at ih; exact ih) | (rw [bst_0 (c := fun s => decide (w (4 + s) ≠ 0)) (b := fun s q => decide (ldF w s < ldF w q)) (n := j) (by grind) hb] at ih; exact ih)
              · try first | contradiction | omega
                all_goals
                  refine e_iload_n dX11_outer_29 rfl rfl ?_
                  first | ((with_reducible refine mk_b ?_); refine b_if_eq (tgt := 50) dX11_outer_30 (by decide) (fun h30 => ?_) (fun h30 => ?_)) | ((with_reducible refine mk_ll ?_); refine m_if_eq (tgt := 50) dX11_outer_30 (by decide) (by omega) (by omega) (fun h30 => ?_) (fun h30 => ?_)) | ((with_reducible refine mk_lc ?_); refine l_if_eq (tgt := 50) dX11_outer_30 (by decide) (fun h30 => ?_) (fun h30 => ?_)) | ((with_reducible refine mk_n ?_); refine n_if_eq (tgt := 50) dX11_outer_30 (by decide) (by omega) (fun h30 => ?_) (fun h30 => ?_)) | refine e_if_eq (tgt := 50) dX11_outer_30 (by decide) (fun h30 => ?_) (fun h30 => ?_)
                  · try first | contradiction | omega
                    all_goals
                      refine e_aload_n dX11_outer_50 rfl rfl ?_
                      refine e_iload_n dX11_outer_51 rfl rfl ?_
                      refine x_V1 (M' := mX11_loadOf) dX11_outer_52 ml_X11_337 ok_X11_loadOf (by decide) rfl im_X11_loadOf se_X11_loadOf (ct_X11_loadOf ‹_› ‹_› (by omega)) (Nat.le_of_ble_eq_true rfl) (by decide) (Nat.le_of_ble_eq_true rfl) ?_
                      refine e_aload_n dX11_outer_55 rfl rfl ?_
                      refine e_iload_n dX11_outer_56 rfl rfl ?_
                      refine x_V1 (M' := mX11_loadOf) dX11_outer_57 ml_X11_337 ok_X11_loadOf (by decide) rfl im_X11_loadOf se_X11_loadOf (ct_X11_loadOf ‹_› ‹_› (by omega)) (Nat.le_of_ble_eq_true rfl) (by decide) (Nat.le_of_ble_eq_true rfl) ?_
                      refine e_lcmp dX11_outer_60 ?_
                      first | ((with_reducible refine mk_ll ?_); refine m_if_ge (tgt := 66) dX11_outer_61 (by decide) (by omega) (by omega) (fun h61 => ?_) (fun h61 => ?_)) | ((with_reducible refine mk_lc ?_); refine l_if_ge (tgt := 66) dX11_outer_61 (by decide) (fun h61 => ?_) (fun h61 => ?_)) | ((with_reducible refine mk_n ?_); refine n_if_ge (tgt := 66) dX11_outer_61 (by decide) (by omega) (fun h61 => ?_) (fun h61 => ?_)) | refine e_if_ge (tgt := 66) dX11_outer_61 (by decide) (fun h61 => ?_) (fun h61 => ?_)
                      · try first | contradiction | omega
                        all_goals
                          first | refine n_inc dX11_outer_66 rfl (Nat.le_of_ble_eq_true rfl) rfl ?_ | refine e_iinc dX11_outer_66 rfl rfl (Nat.le_of_ble_eq_true rfl) rfl ?_
                          refine e_goto (tgt := 4) dX11_outer_69 (by decide) ?_
                          first | (rw [bst_f (c := fun s => decide (w (4 + s) ≠ 0)) (b := fun s q => decide (ldF w s < ldF w q)) (n := j) (by grind), hb] at ih; exact ih) | (rw [bst_0 (c := fun s => decide (w (4 + s) ≠ 0)) (b := fun s q => decide (ldF w s < ldF w q)) (n := j) (by grind) hb] at ih; exact ih)
                      · try first | contradiction | omega
                        all_goals
                          refine e_iload_n dX11_outer_64 rfl rfl ?_
                          refine e_istore_n dX11_outer_65 rfl (Nat.le_of_ble_eq_true rfl) rfl ?_
                          first | refine n_inc dX11_outer_66 rfl (Nat.le_of_ble_eq_true rfl) rfl ?_ | refine e_iinc dX11_outer_66 rfl rfl (Nat.le_of_ble_eq_true rfl) rfl ?_
                          refine e_goto (tgt := 4) dX11_outer_69 (by decide) ?_
                          first | (rw [bst_f (c := fun s => decide (w (4 + s) ≠ 0)) (b := fun s q => decide (ldF w s < ldF w q)) (n := j) (by grind), hb] at ih; exact ih) | (rw [bst_0 (c := fun s => decide (w (4 + s) ≠ 0)) (b := fun s q => decide (ldF w s < ldF w q)) (n := j) (by grind) hb] at ih; exact ih)
                  · try first | contradiction | omega
                    all_goals
                      refine e_aload_n dX11_outer_33 rfl rfl ?_
                      refine e_iload_n dX11_outer_34 rfl rfl ?_
                      refine x_V1 (M' := mX11_loadOf) dX11_outer_35 ml_X11_337 ok_X11_loadOf (by decide) rfl im_X11_loadOf se_X11_loadOf (ct_X11_loadOf ‹_› ‹_› (by omega)) (Nat.le_of_ble_eq_true rfl) (by decide) (Nat.le_of_ble_eq_true rfl) ?_
                      refine e_aload_n dX11_outer_38 rfl rfl ?_
                      refine e_iload_n dX11_outer_39 rfl rfl ?_
                      refine x_V1 (M' := mX11_loadOf) dX11_outer_40 ml_X11_337 ok_X11_loadOf (by decide) rfl im_X11_loadOf se_X11_loadOf (ct_X11_loadOf ‹_› ‹_› (by omega)) (Nat.le_of_ble_eq_true rfl) (by decide) (Nat.le_of_ble_eq_true rfl) ?_
                      refine e_lcmp dX11_outer_43 ?_
                      first | ((with_reducible refine mk_ll ?_); refine m_if_le (tgt := 66) dX11_outer_44 (by decide) (by omega) (by omega) (fun h44 => ?_) (fun h44 => ?_)) | ((with_reducible refine mk_lc ?_); refine l_if_le (tgt := 66) dX11_outer_44 (by decide) (fun h44 => ?_) (fun h44 => ?_)) | ((with_reducible refine mk_n ?_); refine n_if_le (tgt := 66) dX11_outer_44 (by decide) (by omega) (fun h44 => ?_) (fun h44 => ?_)) | refine e_if_le (tgt := 66) dX11_outer_44 (by decide) (fun h44 => ?_) (fun h44 => ?_)
                      · try first | contradiction | omega
                        all_goals
                          first | refine n_inc dX11_outer_66 rfl (Nat.le_of_ble_eq_true rfl) rfl ?_ | refine e_iinc dX11_outer_66 rfl rfl (Nat.le_of_ble_eq_true rfl) rfl ?_
                          refine e_goto (tgt := 4) dX11_outer_69 (by decide) ?_
                          first | (rw [bst_f (c := fun s => decide (w (4 + s) ≠ 0)) (b := fun s q => decide (ldF w s < ldF w q)) (n := j) (by grind), hb] at ih; exact ih) | (rw [bst_0 (c := fun s => decide (w (4 + s) ≠ 0)) (b := fun s q => decide (ldF w s < ldF w q)) (n := j) (by grind) hb] at ih; exact ih)
                      · try first | contradiction | omega
                        all_goals
                          refine e_goto (tgt := 64) dX11_outer_47 (by decide) ?_
                          refine e_iload_n dX11_outer_64 rfl rfl ?_
                          refine e_istore_n dX11_outer_65 rfl (Nat.le_of_ble_eq_true rfl) rfl ?_
                          first | refine n_inc dX11_outer_66 rfl (Nat.le_of_ble_eq_true rfl) rfl ?_ | refine e_iinc dX11_outer_66 rfl rfl (Nat.le_of_ble_eq_true rfl) rfl ?_
                          refine e_goto (tgt := 4) dX11_outer_69 (by decide) ?_
                          first | (rw [bst_f (c := fun s => decide (w (4 + s) ≠ 0)) (b := fun s q => decide (ldF w s < ldF w q)) (n := j) (by grind), hb] at ih; exact ih) | (rw [bst_0 (c := fun s => decide (w (4 + s) ≠ 0)) (b := fun s q => decide (ldF w s < ldF w q)) (n := j) (by grind) hb] at ih; exact ih)
          · try first | contradiction | omega
            all_goals
              refine e_goto (tgt := 66) dX11_outer_21 (by decide) ?_
              first | refine n_inc dX11_outer_66 rfl (Nat.le_of_ble_eq_true rfl) rfl ?_ | refine e_iinc dX11_outer_66 rfl rfl (Nat.le_of_ble_eq_true rfl) rfl ?_
              refine e_goto (tgt := 4) dX11_outer_69 (by decide) ?_
              first | (rw [bst_f (c := fun s => decide (w (4 + s) ≠ 0)) (b := fun s q => decide (ldF w s < ldF w q)) (n := j) (by grind), hb] at ih; exact ih) | (rw [bst_0 (c := fun s => decide (w (4 + s) ≠ 0)) (b := fun s q => decide (ldF w s < ldF w q)) (n := j) (by grind) hb] at ih; exact ih)
    | some q =>
      have hq := (bst_in hb).1
      have hqc := (bst_in hb).2
      rw [oI_s]
      have hld2 := ldF_le iv q
      refine e_iload_n dX11_outer_4 rfl rfl ?_
      refine e_bipush (v := nI 6) dX11_outer_5 rfl ?_
      first | ((with_reducible refine mk_nn ?_); refine n_icmp_ge (tgt := 72) dX11_outer_7 (by decide) (by omega) (by omega) (fun h7 => ?_) (fun h7 => ?_)) | refine e_icmp_ge (tgt := 72) dX11_outer_7 (by decide) (fun h7 => ?_) (fun h7 => ?_)
      · try first | contradiction | omega
        all_goals
          refine e_iload_n dX11_outer_72 rfl rfl ?_
          refine e_ret (some _) rfl (r_int dX11_outer_73 rfl) ?_
          exact xq (by first | rfl | simp_all [bI_t, bI_f]) rfl rfl rfl rfl rfl
      · try first | contradiction | omega
        all_goals
          refine e_aload_n dX11_outer_10 rfl rfl ?_
          refine e_getR dX11_outer_11 fl_X11_7 rfl (by assumption) ?_
          refine e_iconst (v := nI 4) dX11_outer_14 rfl ?_
          refine e_iload_n dX11_outer_15 rfl rfl ?_
          first | ((with_reducible refine mk_nn ?_); refine n_iadd dX11_outer_16 ?_) | refine e_iadd dX11_outer_16 ?_
          first | ((with_reducible refine mk_ldw ?_); refine e_ldw dX11_outer_17 (by omega) ?_) | refine e_iald _ dX11_outer_17 ⟨by decide, by decide⟩ rfl rfl (by simp only [lenK]; omega) ?_
          first | ((with_reducible refine mk_b ?_); refine b_if_ne (tgt := 24) dX11_outer_18 (by decide) (fun h18 => ?_) (fun h18 => ?_)) | ((with_reducible refine mk_ll ?_); refine m_if_ne (tgt := 24) dX11_outer_18 (by decide) (by omega) (by omega) (fun h18 => ?_) (fun h18 => ?_)) | ((with_reducible refine mk_lc ?_); refine l_if_ne (tgt := 24) dX11_outer_18 (by decide) (fun h18 => ?_) (fun h18 => ?_)) | ((with_reducible refine mk_n ?_); refine n_if_ne (tgt := 24) dX11_outer_18 (by decide) (by omega) (fun h18 => ?_) (fun h18 => ?_)) | refine e_if_ne (tgt := 24) dX11_outer_18 (by decide) (fun h18 => ?_) (fun h18 => ?_)
          · try first | contradiction | omega
            all_goals
              refine e_iload_n dX11_outer_24 rfl rfl ?_
              refine e_iconst (v := -1) dX11_outer_25 rfl ?_
              first | ((with_reducible refine mk_mo ?_); refine p_icmp_eq (tgt := 64) dX11_outer_26 (by decide) (fun h26 => ?_) (fun h26 => ?_)) | ((with_reducible refine mk_ms ?_); refine s_icmp_eq (tgt := 64) dX11_outer_26 (by decide) (by omega) (fun h26 => ?_) (fun h26 => ?_)) | ((with_reducible refine mk_mn ?_); refine q_icmp_eq (tgt := 64) dX11_outer_26 (by decide) (by omega) (fun h26 => ?_) (fun h26 => ?_)) | ((with_reducible refine mk_nn ?_); refine n_icmp_eq (tgt := 64) dX11_outer_26 (by decide) (by omega) (by omega) (fun h26 => ?_) (fun h26 => ?_)) | refine e_icmp_eq (tgt := 64) dX11_outer_26 (by decide) (fun h26 => ?_) (fun h26 => ?_)
              · try first | contradiction | omega
                all_goals
                  refine e_iload_n dX11_outer_64 rfl rfl ?_
                  refine e_istore_n dX11_outer_65 rfl (Nat.le_of_ble_eq_true rfl) rfl ?_
                  first | refine n_inc dX11_outer_66 rfl (Nat.le_of_ble_eq_true rfl) rfl ?_ | refine e_iinc dX11_outer_66 rfl rfl (Nat.le_of_ble_eq_true rfl) rfl ?_
                  refine e_goto (tgt := 4) dX11_outer_69 (by decide) ?_
                  first | (rw [bst_f (c := fun s => decide (w (4 + s) ≠ 0)) (b := fun s q => decide (ldF w s < ldF w q)) (n := j) (by grind), hb] at ih; exact ih) | (rw [bst_0 (c := fun s => decide (w (4 + s) ≠ 0)) (b := fun s q => decide (ldF w s < ldF w q)) (n := j) (by grind) hb] at ih; exact ih) | (rw [bst_1 (c := fun s => decide (w (4 + s) ≠ 0)) (b := fun s q => decide (ldF w s < ldF w q)) (n := j) (by grind) hb (by grind)] at ih; exact ih) | (rw [bst_2 (c := fun s => decide (w (4 + s) ≠ 0)) (b := fun s q => decide (ldF w s < ldF w q)) (n := j) (by grind) hb (by grind)] at ih; exact ih)
              · try first | contradiction | omega
                all_goals
                  refine e_iload_n dX11_outer_29 rfl rfl ?_
                  first | ((with_reducible refine mk_b ?_); refine b_if_eq (tgt := 50) dX11_outer_30 (by decide) (fun h30 => ?_) (fun h30 => ?_)) | ((with_reducible refine mk_ll ?_); refine m_if_eq (tgt := 50) dX11_outer_30 (by decide) (by omega) (by omega) (fun h30 => ?_) (fun h30 => ?_)) | ((with_reducible refine mk_lc ?_); refine l_if_eq (tgt := 50) dX11_outer_30 (by decide) (fun h30 => ?_) (fun h30 => ?_)) | ((with_reducible refine mk_n ?_); refine n_if_eq (tgt := 50) dX11_outer_30 (by decide) (by omega) (fun h30 => ?_) (fun h30 => ?_)) | refine e_if_eq (tgt := 50) dX11_outer_30 (by decide) (fun h30 => ?_) (fun h30 => ?_)
                  · try first | contradiction | omega
                    all_goals
                      refine e_aload_n dX11_outer_50 rfl rfl ?_
                      refine e_iload_n dX11_outer_51 rfl rfl ?_
                      refine x_V1 (M' := mX11_loadOf) dX11_outer_52 ml_X11_337 ok_X11_loadOf (by decide) rfl im_X11_loadOf se_X11_loadOf (ct_X11_loadOf ‹_› ‹_› (by omega)) (Nat.le_of_ble_eq_true rfl) (by decide) (Nat.le_of_ble_eq_true rfl) ?_
                      refine e_aload_n dX11_outer_55 rfl rfl ?_
                      refine e_iload_n dX11_outer_56 rfl rfl ?_
                      refine x_V1 (M' := mX11_loadOf) dX11_outer_57 ml_X11_337 ok_X11_loadOf (by decide) rfl im_X11_loadOf se_X11_loadOf (ct_X11_loadOf ‹_› ‹_› (by omega)) (Nat.le_of_ble_eq_true rfl) (by decide) (Nat.le_of_ble_eq_true rfl) ?_
                      refine e_lcmp dX11_outer_60 ?_
                      first | ((with_reducible refine mk_ll ?_); refine m_if_ge (tgt := 66) dX11_outer_61 (by decide) (by omega) (by omega) (fun h61 => ?_) (fun h61 => ?_)) | ((with_reducible refine mk_lc ?_); refine l_if_ge (tgt := 66) dX11_outer_61 (by decide) (fun h61 => ?_) (fun h61 => ?_)) | ((with_reducible refine mk_n ?_); refine n_if_ge (tgt := 66) dX11_outer_61 (by decide) (by omega) (fun h61 => ?_) (fun h61 => ?_)) | refine e_if_ge (tgt := 66) dX11_outer_61 (by decide) (fun h61 => ?_) (fun h61 => ?_)
                      · try first | contradiction | omega
                        all_goals
                          first | refine n_inc dX11_outer_66 rfl (Nat.le_of_ble_eq_true rfl) rfl ?_ | refine e_iinc dX11_outer_66 rfl rfl (Nat.le_of_ble_eq_true rfl) rfl ?_
                          refine e_goto (tgt := 4) dX11_outer_69 (by decide) ?_
                          first | (rw [bst_f (c := fun s => decide (w (4 + s) ≠ 0)) (b := fun s q => decide (ldF w s < ldF w q)) (n := j) (by grind), hb] at ih; exact ih) | (rw [bst_0 (c := fun s => decide (w (4 + s) ≠ 0)) (b := fun s q => decide (ldF w s < ldF w q)) (n := j) (by grind) hb] at ih; exact ih) | (rw [bst_1 (c := fun s => decide (w (4 + s) ≠ 0)) (b := fun s q => decide (ldF w s < ldF w q)) (n := j) (by grind) hb (by grind)] at ih; exact ih) | (rw [bst_2 (c := fun s => decide (w (4 + s) ≠ 0)) (b := fun s q => decide (ldF w s < ldF w q)) (n := j) (by grind) hb (by grind)] at ih; exact ih)
                      · try first | contradiction | omega
                        all_goals
                          refine e_iload_n dX11_outer_64 rfl rfl ?_
                          refine e_istore_n dX11_outer_65 rfl (Nat.le_of_ble_eq_true rfl) rfl ?_
                          first | refine n_inc dX11_outer_66 rfl (Nat.le_of_ble_eq_true rfl) rfl ?_ | refine e_iinc dX11_outer_66 rfl rfl (Nat.le_of_ble_eq_true rfl) rfl ?_
                          refine e_goto (tgt := 4) dX11_outer_69 (by decide) ?_
                          first | (rw [bst_f (c := fun s => decide (w (4 + s) ≠ 0)) (b := fun s q => decide (ldF w s < ldF w q)) (n := j) (by grind), hb] at ih; exact ih) | (rw [bst_0 (c := fun s => decide (w (4 + s) ≠ 0)) (b := fun s q => decide (ldF w s < ldF w q)) (n := j) (by grind) hb] at ih; exact ih) | (rw [bst_1 (c := fun s => decide (w (4 + s) ≠ 0)) (b := fun s q => decide (ldF w s < ldF w q)) (n := j) (by grind) hb (by grind)] at ih; exact ih) | (rw [bst_2 (c := fun s => decide (w (4 + s) ≠ 0)) (b := fun s q => decide (ldF w s < ldF w q)) (n := j) (by grind) hb (by grind)] at ih; exact ih)
                  · try first | contradiction | omega
                    all_goals
                      refine e_aload_n dX11_outer_33 rfl rfl ?_
                      refine e_iload_n dX11_outer_34 rfl rfl ?_
                      refine x_V1 (M' := mX11_loadOf) dX11_outer_35 ml_X11_337 ok_X11_loadOf (by decide) rfl im_X11_loadOf se_X11_loadOf (ct_X11_loadOf ‹_› ‹_› (by omega)) (Nat.le_of_ble_eq_true rfl) (by decide) (Nat.le_of_ble_eq_true rfl) ?_
                      refine e_aload_n dX11_outer_38 rfl rfl ?_
                      refine e_iload_n dX11_outer_39 rfl rfl ?_
                      refine x_V1 (M' := mX11_loadOf) dX11_outer_40 ml_X11_337 ok_X11_loadOf (by decide) rfl im_X11_loadOf se_X11_loadOf (ct_X11_loadOf ‹_› ‹_› (by omega)) (Nat.le_of_ble_eq_true rfl) (by decide) (Nat.le_of_ble_eq_true rfl) ?_
                      refine e_lcmp dX11_outer_43 ?_
                      first | ((with_reducible refine mk_ll ?_); refine m_if_le (tgt := 66) dX11_outer_44 (by decide) (by omega) (by omega) (fun h44 => ?_) (fun h44 => ?_)) | ((with_reducible refine mk_lc ?_); refine l_if_le (tgt := 66) dX11_outer_44 (by decide) (fun h44 => ?_) (fun h44 => ?_)) | ((with_reducible refine mk_n ?_); refine n_if_le (tgt := 66) dX11_outer_44 (by decide) (by omega) (fun h44 => ?_) (fun h44 => ?_)) | refine e_if_le (tgt := 66) dX11_outer_44 (by decide) (fun h44 => ?_) (fun h44 => ?_)
                      · try first | contradiction | omega
                        all_goals
                          first | refine n_inc dX11_outer_66 rfl (Nat.le_of_ble_eq_true rfl) rfl ?_ | refine e_iinc dX11_outer_66 rfl rfl (Nat.le_of_ble_eq_true rfl) rfl ?_
                          refine e_goto (tgt := 4) dX11_outer_69 (by decide) ?_
                          first | (rw [bst_f (c := fun s => decide (w (4 + s) ≠ 0)) (b := fun s q => decide (ldF w s < ldF w q)) (n := j) (by grind), hb] at ih; exact ih) | (rw [bst_0 (c := fun s => decide (w (4 + s) ≠ 0)) (b := fun s q => decide (ldF w s < ldF w q)) (n := j) (by grind) hb] at ih; exact ih) | (rw [bst_1 (c := fun s => decide (w (4 + s) ≠ 0)) (b := fun s q => decide (ldF w s < ldF w q)) (n := j) (by grind) hb (by grind)] at ih; exact ih) | (rw [bst_2 (c := fun s => decide (w (4 + s) ≠ 0)) (b := fun s q => decide (ldF w s < ldF w q)) (n := j) (by grind) hb (by grind)] at ih; exact ih)
                      · try first | contradiction | omega
                        all_goals
                          refine e_goto (tgt := 64) dX11_outer_47 (by decide) ?_
                          refine e_iload_n dX11_outer_64 rfl rfl ?_
                          refine e_istore_n dX11_outer_65 rfl (Nat.le_of_ble_eq_true rfl) rfl ?_
                          first | refine n_inc dX11_outer_66 rfl (Nat.le_of_ble_eq_true rfl) rfl ?_ | refine e_iinc dX11_outer_66 rfl rfl (Nat.le_of_ble_eq_true rfl) rfl ?_
                          refine e_goto (tgt := 4) dX11_outer_69 (by decide) ?_
                          first | (rw [bst_f (c := fun s => decide (w (4 + s) ≠ 0)) (b := fun s q => decide (ldF w s < ldF w q)) (n := j) (by grind), hb] at ih; exact ih) | (rw [bst_0 (c := fun s => decide (w (4 + s) ≠ 0)) (b := fun s q => decide (ldF w s < ldF w q)) (n := j) (by grind) hb] at ih; exact ih) | (rw [bst_1 (c := fun s => decide (w (4 + s) ≠ 0)) (b := fun s q => decide (ldF w s < ldF w q)) (n := j) (by grind) hb (by grind)] at ih; exact ih) | (rw [bst_2 (c := fun s => decide (w (4 + s) ≠ 0)) (b := fun s q => decide (ldF w s < ldF w q)) (n := j) (by grind) hb (by grind)] at ih; exact ih)
          · try first | contradiction | omega
            all_goals
              refine e_goto (tgt := 66) dX11_outer_21 (by decide) ?_
              first | refine n_inc dX11_outer_66 rfl (Nat.le_of_ble_eq_true rfl) rfl ?_ | refine e_iinc dX11_outer_66 rfl rfl (Nat.le_of_ble_eq_true rfl) rfl ?_
              refine e_goto (tgt := 4) dX11_outer_69 (by decide) ?_
              first | (rw [bst_f (c := fun s => decide (w (4 + s) ≠ 0)) (b := fun s q => decide (ldF w s < ldF w q)) (n := j) (by grind), hb] at ih; exact ih) | (rw [bst_0 (c := fun s => decide (w (4 + s) ≠ 0)) (b := fun s q => decide (ldF w s < ldF w q)) (n := j) (by grind) hb] at ih; exact ih) | (rw [bst_1 (c := fun s => decide (w (4 + s) ≠ 0)) (b := fun s q => decide (ldF w s < ldF w q)) (n := j) (by grind) hb (by grind)] at ih; exact ih) | (rw [bst_2 (c := fun s => decide (w (4 + s) ≠ 0)) (b := fun s q => decide (ldF w s < ldF w q)) (n := j) (by grind) hb (by grind)] at ih; exact ih)
    ) (by
    refine e_iload_n dX11_outer_4 rfl rfl ?_
    refine e_bipush (v := nI 6) dX11_outer_5 rfl ?_
    first | ((with_reducible refine mk_nn ?_); refine n_icmp_ge (tgt := 72) dX11_outer_7 (by decide) (by omega) (by omega) (fun h7 => ?_) (fun h7 => ?_)) | refine e_icmp_ge (tgt := 72) dX11_outer_7 (by decide) (fun h7 => ?_) (fun h7 => ?_)
    · try first | contradiction | omega
      all_goals
        refine e_iload_n dX11_outer_72 rfl rfl ?_
        refine e_ret (some _) rfl (r_int dX11_outer_73 rfl) ?_
        exact xq rfl rfl rfl rfl rfl rfl
    · try first | contradiction | omega
      all_goals
        refine e_aload_n dX11_outer_10 rfl rfl ?_
        refine e_getR dX11_outer_11 fl_X11_7 rfl (by assumption) ?_
        refine e_iconst (v := nI 4) dX11_outer_14 rfl ?_
        refine e_iload_n dX11_outer_15 rfl rfl ?_
        first | ((with_reducible refine mk_nn ?_); refine n_iadd dX11_outer_16 ?_) | refine e_iadd dX11_outer_16 ?_
        first | ((with_reducible refine mk_ldw ?_); refine e_ldw dX11_outer_17 (by omega) ?_) | refine e_iald _ dX11_outer_17 ⟨by decide, by decide⟩ rfl rfl (by simp only [lenK]; omega) ?_
        first | ((with_reducible refine mk_b ?_); refine b_if_ne (tgt := 24) dX11_outer_18 (by decide) (fun h18 => ?_) (fun h18 => ?_)) | ((with_reducible refine mk_ll ?_); refine m_if_ne (tgt := 24) dX11_outer_18 (by decide) (by omega) (by omega) (fun h18 => ?_) (fun h18 => ?_)) | ((with_reducible refine mk_lc ?_); refine l_if_ne (tgt := 24) dX11_outer_18 (by decide) (fun h18 => ?_) (fun h18 => ?_)) | ((with_reducible refine mk_n ?_); refine n_if_ne (tgt := 24) dX11_outer_18 (by decide) (by omega) (fun h18 => ?_) (fun h18 => ?_)) | refine e_if_ne (tgt := 24) dX11_outer_18 (by decide) (fun h18 => ?_) (fun h18 => ?_)
        · try first | contradiction | omega
          all_goals
            refine e_iload_n dX11_outer_24 rfl rfl ?_
            refine e_iconst (v := -1) dX11_outer_25 rfl ?_
            first | ((with_reducible refine mk_mo ?_); refine p_icmp_eq (tgt := 64) dX11_outer_26 (by decide) (fun h26 => ?_) (fun h26 => ?_)) | ((with_reducible refine mk_ms ?_); refine s_icmp_eq (tgt := 64) dX11_outer_26 (by decide) (by omega) (fun h26 => ?_) (fun h26 => ?_)) | ((with_reducible refine mk_mn ?_); refine q_icmp_eq (tgt := 64) dX11_outer_26 (by decide) (by omega) (fun h26 => ?_) (fun h26 => ?_)) | ((with_reducible refine mk_nn ?_); refine n_icmp_eq (tgt := 64) dX11_outer_26 (by decide) (by omega) (by omega) (fun h26 => ?_) (fun h26 => ?_)) | refine e_icmp_eq (tgt := 64) dX11_outer_26 (by decide) (fun h26 => ?_) (fun h26 => ?_)
            · try first | contradiction | omega
              all_goals
                refine e_iload_n dX11_outer_64 rfl rfl ?_
                refine e_istore_n dX11_outer_65 rfl (Nat.le_of_ble_eq_true rfl) rfl ?_
                first | refine n_inc dX11_outer_66 rfl (Nat.le_of_ble_eq_true rfl) rfl ?_ | refine e_iinc dX11_outer_66 rfl rfl (Nat.le_of_ble_eq_true rfl) rfl ?_
                refine e_goto (tgt := 4) dX11_outer_69 (by decide) ?_
                first | (rw [bst_f (c := fun s => decide (w (4 + s) ≠ 0)) (b := fun s q => decide (ldF w s < ldF w q)) (n := j) (by grind), hb] at ih; exact ih) | (rw [bst_0 (c := fun s => decide (w (4 + s) ≠ 0)) (b := fun s q => decide (ldF w s < ldF w q)) (n := j) (by grind) hb] at ih; exact ih) | (rw [bst_1 (c := fun s => decide (w (4 + s) ≠ 0)) (b := fun s q => decide (ldF w s < ldF w q)) (n := j) (by grind) hb (by grind)] at ih; exact ih) | (rw [bst_2 (c := fun s => decide (w (4 + s) ≠ 0)) (b := fun s q => decide (ldF w s < ldF w q)) (n := j) (by grind) hb (by grind)] at ih; exact ih)
            · try first | contradiction | omega
              all_goals
                refine e_iload_n dX11_outer_29 rfl rfl ?_
                first | ((with_reducible refine mk_b ?_); refine b_if_eq (tgt := 50) dX11_outer_30 (by decide) (fun h30 => ?_) (fun h30 => ?_)) | ((with_reducible refine mk_ll ?_); refine m_if_eq (tgt := 50) dX11_outer_30 (by decide) (by omega) (by omega) (fun h30 => ?_) (fun h30 => ?_)) | ((with_reducible refine mk_lc ?_); refine l_if_eq (tgt := 50) dX11_outer_30 (by decide) (fun h30 => ?_) (fun h30 => ?_)) | ((with_reducible refine mk_n ?_); refine n_if_eq (tgt := 50) dX11_outer_30 (by decide) (by omega) (fun h30 => ?_) (fun h30 => ?_)) | refine e_if_eq (tgt := 50) dX11_outer_30 (by decide) (fun h30 => ?_) (fun h30 => ?_)
                · try first | contradiction | omega
                  all_goals
                    refine e_aload_n dX11_outer_50 rfl rfl ?_
                    refine e_iload_n dX11_outer_51 rfl rfl ?_
                    refine x_V1 (M' := mX11_loadOf) dX11_outer_52 ml_X11_337 ok_X11_loadOf (by decide) rfl im_X11_loadOf se_X11_loadOf (ct_X11_loadOf ‹_› ‹_› (by omega)) (Nat.le_of_ble_eq_true rfl) (by decide) (Nat.le_of_ble_eq_true rfl) ?_
                    refine e_aload_n dX11_outer_55 rfl rfl ?_
                    refine e_iload_n dX11_outer_56 rfl rfl ?_
                    refine x_V1 (M' := mX11_loadOf) dX11_outer_57 ml_X11_337 ok_X11_loadOf (by decide) rfl im_X11_loadOf se_X11_loadOf (ct_X11_loadOf ‹_› ‹_› (by omega)) (Nat.le_of_ble_eq_true rfl) (by decide) (Nat.le_of_ble_eq_true rfl) ?_
                    refine e_lcmp dX11_outer_60 ?_
                    first | ((with_reducible refine mk_ll ?_); refine m_if_ge (tgt := 66) dX11_outer_61 (by decide) (by omega) (by omega) (fun h61 => ?_) (fun h61 => ?_)) | ((with_reducible refine mk_lc ?_); refine l_if_ge (tgt := 66) dX11_outer_61 (by decide) (fun h61 => ?_) (fun h61 => ?_)) | ((with_reducible refine mk_n ?_); refine n_if_ge (tgt := 66) dX11_outer_61 (by decide) (by omega) (fun h61 => ?_) (fun h61 => ?_)) | refine e_if_ge (tgt := 66) dX11_outer_61 (by decide) (fun h61 => ?_) (fun h61 => ?_)
                    · try first | contradiction | omega
                      all_goals
                        first | refine n_inc dX11_outer_66 rfl (Nat.le_of_ble_eq_true rfl) rfl ?_ | refine e_iinc dX11_outer_66 rfl rfl (Nat.le_of_ble_eq_true rfl) rfl ?_
                        refine e_goto (tgt := 4) dX11_outer_69 (by decide) ?_
                        first | (rw [bst_f (c := fun s => decide (w (4 + s) ≠ 0)) (b := fun s q => decide (ldF w s < ldF w q)) (n := j) (by grind), hb] at ih; exact ih) | (rw [bst_0 (c := fun s => decide (w (4 + s) ≠ 0)) (b := fun s q => decide (ldF w s < ldF w q)) (n := j) (by grind) hb] at ih; exact ih) | (rw [bst_1 (c := fun s => decide (w (4 + s) ≠ 0)) (b := fun s q => decide (ldF w s < ldF w q)) (n := j) (by grind) hb (by grind)] at ih; exact ih) | (rw [bst_2 (c := fun s => decide (w (4 + s) ≠ 0)) (b := fun s q => decide (ldF w s < ldF w q)) (n := j) (by grind) hb (by grind)] at ih; exact ih)
                    · try first | contradiction | omega
                      all_goals
                        refine e_iload_n dX11_outer_64 rfl rfl ?_
                        refine e_istore_n dX11_outer_65 rfl (Nat.le_of_ble_eq_true rfl) rfl ?_
                        first | refine n_inc dX11_outer_66 rfl (Nat.le_of_ble_eq_true rfl) rfl ?_ | refine e_iinc dX11_outer_66 rfl rfl (Nat.le_of_ble_eq_true rfl) rfl ?_
                        refine e_goto (tgt := 4) dX11_outer_69 (by decide) ?_
                        first | (rw [bst_f (c := fun s => decide (w (4 + s) ≠ 0)) (b := fun s q => decide (ldF w s < ldF w q)) (n := j) (by grind), hb] at ih; exact ih) | (rw [bst_0 (c := fun s => decide (w (4 + s) ≠ 0)) (b := fun s q => decide (ldF w s < ldF w q)) (n := j) (by grind) hb] at ih; exact ih) | (rw [bst_1 (c := fun s => decide (w (4 + s) ≠ 0)) (b := fun s q => decide (ldF w s < ldF w q)) (n := j) (by grind) hb (by grind)] at ih; exact ih) | (rw [bst_2 (c := fun s => decide (w (4 + s) ≠ 0)) (b := fun s q => decide (ldF w s < ldF w q)) (n := j) (by grind) hb (by grind)] at ih; exact ih)
                · try first | contradiction | omega
                  all_goals
                    refine e_aload_n dX11_outer_33 rfl rfl ?_
                    refine e_iload_n dX11_outer_34 rfl rfl ?_
                    refine x_V1 (M' := mX11_loadOf) dX11_outer_35 ml_X11_337 ok_X11_loadOf (by decide) rfl im_X11_loadOf se_X11_loadOf (ct_X11_loadOf ‹_› ‹_› (by omega)) (Nat.le_of_ble_eq_true rfl) (by decide) (Nat.le_of_ble_eq_true rfl) ?_
                    refine e_aload_n dX11_outer_38 rfl rfl ?_
                    refine e_iload_n dX11_outer_39 rfl rfl ?_
                    refine x_V1 (M' := mX11_loadOf) dX11_outer_40 ml_X11_337 ok_X11_loadOf (by decide) rfl im_X11_loadOf se_X11_loadOf (ct_X11_loadOf ‹_› ‹_› (by omega)) (Nat.le_of_ble_eq_true rfl) (by decide) (Nat.le_of_ble_eq_true rfl) ?_
                    refine e_lcmp dX11_outer_43 ?_
                    first | ((with_reducible refine mk_ll ?_); refine m_if_le (tgt := 66) dX11_outer_44 (by decide) (by omega) (by omega) (fun h44 => ?_) (fun h44 => ?_)) | ((with_reducible refine mk_lc ?_); refine l_if_le (tgt := 66) dX11_outer_44 (by decide) (fun h44 => ?_) (fun h44 => ?_)) | ((with_reducible refine mk_n ?_); refine n_if_le (tgt := 66) dX11_outer_44 (by decide) (by omega) (fun h44 => ?_) (fun h44 => ?_)) | refine e_if_le (tgt := 66) dX11_outer_44 (by decide) (fun h44 => ?_) (fun h44 => ?_)
                    · try first | contradiction | omega
                      all_goals
                        first | refine n_inc dX11_outer_66 rfl (Nat.le_of_ble_eq_true rfl) rfl ?_ | refine e_iinc dX11_outer_66 rfl rfl (Nat.le_of_ble_eq_true rfl) rfl ?_
                        refine e_goto (tgt := 4) dX11_outer_69 (by decide) ?_
                        first | (rw [bst_f (c := fun s => decide (w (4 + s) ≠ 0)) (b := fun s q => decide (ldF w s < ldF w q)) (n := j) (by grind), hb] at ih; exact ih) | (rw [bst_0 (c := fun s => decide (w (4 + s) ≠ 0)) (b := fun s q => decide (ldF w s < ldF w q)) (n := j) (by grind) hb] at ih; exact ih) | (rw [bst_1 (c := fun s => decide (w (4 + s) ≠ 0)) (b := fun s q => decide (ldF w s < ldF w q)) (n := j) (by grind) hb (by grind)] at ih; exact ih) | (rw [bst_2 (c := fun s => decide (w (4 + s) ≠ 0)) (b := fun s q => decide (ldF w s < ldF w q)) (n := j) (by grind) hb (by grind)] at ih; exact ih)
                    · try first | contradiction | omega
                      all_goals
                        refine e_goto (tgt := 64) dX11_outer_47 (by decide) ?_
                        refine e_iload_n dX11_outer_64 rfl rfl ?_
                        refine e_istore_n dX11_outer_65 rfl (Nat.le_of_ble_eq_true rfl) rfl ?_
                        first | refine n_inc dX11_outer_66 rfl (Nat.le_of_ble_eq_true rfl) rfl ?_ | refine e_iinc dX11_outer_66 rfl rfl (Nat.le_of_ble_eq_true rfl) rfl ?_
                        refine e_goto (tgt := 4) dX11_outer_69 (by decide) ?_
                        first | (rw [bst_f (c := fun s => decide (w (4 + s) ≠ 0)) (b := fun s q => decide (ldF w s < ldF w q)) (n := j) (by grind), hb] at ih; exact ih) | (rw [bst_0 (c := fun s => decide (w (4 + s) ≠ 0)) (b := fun s q => decide (ldF w s < ldF w q)) (n := j) (by grind) hb] at ih; exact ih) | (rw [bst_1 (c := fun s => decide (w (4 + s) ≠ 0)) (b := fun s q => decide (ldF w s < ldF w q)) (n := j) (by grind) hb (by grind)] at ih; exact ih) | (rw [bst_2 (c := fun s => decide (w (4 + s) ≠ 0)) (b := fun s q => decide (ldF w s < ldF w q)) (n := j) (by grind) hb (by grind)] at ih; exact ih)
        · try first | contradiction | omega
          all_goals
            refine e_goto (tgt := 66) dX11_outer_21 (by decide) ?_
            first | refine n_inc dX11_outer_66 rfl (Nat.le_of_ble_eq_true rfl) rfl ?_ | refine e_iinc dX11_outer_66 rfl rfl (Nat.le_of_ble_eq_true rfl) rfl ?_
            refine e_goto (tgt := 4) dX11_outer_69 (by decide) ?_
            first | (rw [bst_f (c := fun s => decide (w (4 + s) ≠ 0)) (b := fun s q => decide (ldF w s < ldF w q)) (n := j) (by grind), hb] at ih; exact ih) | (rw [bst_0 (c := fun s => decide (w (4 + s) ≠ 0)) (b := fun s q => decide (ldF w s < ldF w q)) (n := j) (by grind) hb] at ih; exact ih) | (rw [bst_1 (c := fun s => decide (w (4 + s) ≠ 0)) (b := fun s q => decide (ldF w s < ldF w q)) (n := j) (by grind) hb (by grind)] at ih; exact ih) | (rw [bst_2 (c := fun s => decide (w (4 + s) ≠ 0)) (b := fun s q => decide (ldF w s < ldF w q)) (n := j) (by grind) hb (by grind)] at ih; exact ih)
    )
  refine e_iconst (v := -1) dX11_outer_0 rfl ?_
  refine e_istore_n dX11_outer_1 rfl (Nat.le_of_ble_eq_true rfl) rfl ?_
  refine e_iconst (v := nI 0) dX11_outer_2 rfl ?_
  refine e_istore_n dX11_outer_3 rfl (Nat.le_of_ble_eq_true rfl) rfl ?_
  exact key 0 (by omega)
theorem ct_outerBut1 {fi : FI} {fr : FR} {ai : FI} {ar : FR} {N : Nat} {w : Nat → Nat} (sm : SM fr) (iv : Inv w) {u : Nat} (hu6 : u < 2147483648) : CP mX11_outerBut 3 0 0 [.ref (rf 11 80), .int (nI u), .int (nI 1)] fi fr (mW ai w) ar N (xQ (some (.int (oI (obH w u)))) fi fr (mW ai w) ar N) := by
  obtain ⟨sW, sA, sK, sU, sC, sKC, sT, sCl⟩ := id sm
  have h1 := iv_n iv
  have h3 := iv_mm iv
  change EV mX11_outerBut 3 0 0 0 [some (.ref (rf 11 80)), some (.int (nI u)), some (.int (nI 1)), none, none] [] fi fr (mW ai w) ar N (xQ (some (.int (oI (obH w u)))) fi fr (mW ai w) ar N)
  have key := ev_up (P := (fun j => EV mX11_outerBut 3 0 0 5 [some (.ref (rf 11 80)), some (.int (nI u)), some (.int (nI 1)), some (.int (oI (bst (fun s => decide (w (4 + s) ≠ 0) && decide (s ≠ u)) (fun s q => decide (ldF w q < ldF w s)) j))), some (.int (nI j))] [] fi fr (mW ai w) ar N (xQ (some (.int (oI (obH w u)))) fi fr (mW ai w) ar N))) (6) (fun j hj ih => by
    have hu := iv_up iv hj
    have hld := ldF_le iv j
    cases hb : bst (fun s => decide (w (4 + s) ≠ 0) && decide (s ≠ u)) (fun s q => decide (ldF w q < ldF w s)) j with
    | none =>
      refine e_iload dX11_outerBut_5 rfl ?_
      refine e_bipush (v := nI 6) dX11_outerBut_7 rfl ?_
      first | ((with_reducible refine mk_nn ?_); refine n_icmp_ge (tgt := 84) dX11_outerBut_9 (by decide) (by omega) (by omega) (fun h9 => ?_) (fun h9 => ?_)) | refine e_icmp_ge (tgt := 84) dX11_outerBut_9 (by decide) (fun h9 => ?_) (fun h9 => ?_)
      · try first | contradiction | omega
        all_goals
          refine e_iload_n dX11_outerBut_84 rfl rfl ?_
          refine e_ret (some _) rfl (r_int dX11_outerBut_85 rfl) ?_
          exact xq (by first | rfl | simp_all [bI_t, bI_f]) rfl rfl rfl rfl rfl
      · try first | contradiction | omega
        all_goals
          refine e_aload_n dX11_outerBut_12 rfl rfl ?_
          refine e_getR dX11_outerBut_13 fl_X11_7 rfl (by assumption) ?_
          refine e_iconst (v := nI 4) dX11_outerBut_16 rfl ?_
          refine e_iload dX11_outerBut_17 rfl ?_
          first | ((with_reducible refine mk_nn ?_); refine n_iadd dX11_outerBut_19 ?_) | refine e_iadd dX11_outerBut_19 ?_
          first | ((with_reducible refine mk_ldw ?_); refine e_ldw dX11_outerBut_20 (by omega) ?_) | refine e_iald _ dX11_outerBut_20 ⟨by decide, by decide⟩ rfl rfl (by simp only [lenK]; omega) ?_
          first | ((with_reducible refine mk_b ?_); refine b_if_eq (tgt := 78) dX11_outerBut_21 (by decide) (fun h21 => ?_) (fun h21 => ?_)) | ((with_reducible refine mk_ll ?_); refine m_if_eq (tgt := 78) dX11_outerBut_21 (by decide) (by omega) (by omega) (fun h21 => ?_) (fun h21 => ?_)) | ((with_reducible refine mk_lc ?_); refine l_if_eq (tgt := 78) dX11_outerBut_21 (by decide) (fun h21 => ?_) (fun h21 => ?_)) | ((with_reducible refine mk_n ?_); refine n_if_eq (tgt := 78) dX11_outerBut_21 (by decide) (by omega) (fun h21 => ?_) (fun h21 => ?_)) | refine e_if_eq (tgt := 78) dX11_outerBut_21 (by decide) (fun h21 => ?_) (fun h21 => ?_)
          · try first | contradiction | omega
            all_goals
              first | refine n_inc dX11_outerBut_78 rfl (Nat.le_of_ble_eq_true rfl) rfl ?_ | refine e_iinc dX11_outerBut_78 rfl rfl (Nat.le_of_ble_eq_true rfl) rfl ?_
              refine e_goto (tgt := 5) dX11_outerBut_81 (by decide) ?_
              first | (rw [bst_f (c := fun s => decide (w (4 + s) ≠ 0) && decide (s ≠ u)) (b := fun s q => decide (ldF w q < ldF w s)) (n := j) (by grind), hb] at ih; exact ih) | (rw [bst_0 (c := fun s => decide (w (4 + s) ≠ 0) && decide (s ≠ u)) (b := fun s q => decide (ldF w q < ldF w s)) (n := j) (by grind) hb] at ih; exact ih)
          · try first | contradiction | omega
            all_goals
              refine e_iload dX11_outerBut_24 rfl ?_
              refine e_iload_n dX11_outerBut_26 rfl rfl ?_
              first | ((with_reducible refine mk_mo ?_); refine p_icmp_ne (tgt := 33) dX11_outerBut_27 (by decide) (fun h27 => ?_) (fun h27 => ?_)) | ((with_reducible refine mk_ms ?_); refine s_icmp_ne (tgt := 33) dX11_outerBut_27 (by decide) (by omega) (fun h27 => ?_) (fun h27 => ?_)) | ((with_reducible refine mk_mn ?_); refine q_icmp_ne (tgt := 33) dX11_outerBut_27 (by decide) (by omega) (fun h27 => ?_) (fun h27 => ?_)) | ((with_reducible refine mk_nn ?_); refine n_icmp_ne (tgt := 33) dX11_outerBut_27 (by decide) (by omega) (by omega) (fun h27 => ?_) (fun h27 => ?_)) | refine e_icmp_ne (tgt := 33) dX11_outerBut_27 (by decide) (fun h27 => ?_) (fun h27 => ?_)
              · try first | contradiction | omega
                all_goals
                  refine e_iload_n dX11_outerBut_33 rfl rfl ?_
                  refine e_iconst (v := -1) dX11_outerBut_34 rfl ?_
                  first | ((with_reducible refine mk_mo ?_); refine p_icmp_eq (tgt := 75) dX11_outerBut_35 (by decide) (fun h35 => ?_) (fun h35 => ?_)) | ((with_reducible refine mk_ms ?_); refine s_icmp_eq (tgt := 75) dX11_outerBut_35 (by decide) (by omega) (fun h35 => ?_) (fun h35 => ?_)) | ((with_reducible refine mk_mn ?_); refine q_icmp_eq (tgt := 75) dX11_outerBut_35 (by decide) (by omega) (fun h35 => ?_) (fun h35 => ?_)) | ((with_reducible refine mk_nn ?_); refine n_icmp_eq (tgt := 75) dX11_outerBut_35 (by decide) (by omega) (by omega) (fun h35 => ?_) (fun h35 => ?_)) | refine e_icmp_eq (tgt := 75) dX11_outerBut_35 (by decide) (fun h35 => ?_) (fun h35 => ?_)
                  · try first | contradiction | omega
                    all_goals
                      refine e_iload dX11_outerBut_75 rfl ?_
                      refine e_istore_n dX11_outerBut_77 rfl (Nat.le_of_ble_eq_true rfl) rfl ?_
                      first | refine n_inc dX11_outerBut_78 rfl (Nat.le_of_ble_eq_true rfl) rfl ?_ | refine e_iinc dX11_outerBut_78 rfl rfl (Nat.le_of_ble_eq_true rfl) rfl ?_
                      refine e_goto (tgt := 5) dX11_outerBut_81 (by decide) ?_
                      first | (rw [bst_f (c := fun s => decide (w (4 + s) ≠ 0) && decide (s ≠ u)) (b := fun s q => decide (ldF w q < ldF w s)) (n := j) (by grind), hb] at ih; exact ih) | (rw [bst_0 (c := fun s => decide (w (4 + s) ≠ 0) && decide (s ≠ u)) (b := fun s q => decide (ldF w q < ldF w s)) (n := j) (by grind) hb] at ih; exact ih)
                  · try first | contradiction | omega
                    all_goals
                      refine e_iload_n dX11_outerBut_38 rfl rfl ?_
                      first | ((with_reducible refine mk_b ?_); refine b_if_eq (tgt := 60) dX11_outerBut_39 (by decide) (fun h39 => ?_) (fun h39 => ?_)) | ((with_reducible refine mk_ll ?_); refine m_if_eq (tgt := 60) dX11_outerBut_39 (by decide) (by omega) (by omega) (fun h39 => ?_) (fun h39 => ?_)) | ((with_reducible refine mk_lc ?_); refine l_if_eq (tgt := 60) dX11_outerBut_39 (by decide) (fun h39 => ?_) (fun h39 => ?_)) | ((with_reducible refine mk_n ?_); refine n_if_eq (tgt := 60) dX11_outerBut_39 (by decide) (by omega) (fun h39 => ?_) (fun h39 => ?_)) | refine e_if_eq (tgt := 60) dX11_outerBut_39 (by decide) (fun h39 => ?_) (fun h39 => ?_)
                      · try first | contradiction | omega
                        all_goals
                          refine e_aload_n dX11_outerBut_60 rfl rfl ?_
                          refine e_iload dX11_outerBut_61 rfl ?_
                          refine x_V1 (M' := mX11_loadOf) dX11_outerBut_63 ml_X11_337 ok_X11_loadOf (by decide) rfl im_X11_loadOf se_X11_loadOf (ct_X11_loadOf ‹_› ‹_› (by omega)) (Nat.le_of_ble_eq_true rfl) (by decide) (Nat.le_of_ble_eq_true rfl) ?_
                          refine e_aload_n dX11_outerBut_66 rfl rfl ?_
                          refine e_iload_n dX11_outerBut_67 rfl rfl ?_
                          refine x_V1 (M' := mX11_loadOf) dX11_outerBut_68 ml_X11_337 ok_X11_loadOf (by decide) rfl im_X11_loadOf se_X11_loadOf (ct_X11_loadOf ‹_› ‹_› (by omega)) (Nat.le_of_ble_eq_true rfl) (by decide) (Nat.le_of_ble_eq_true rfl) ?_
                          refine e_lcmp dX11_outerBut_71 ?_
                          first | ((with_reducible refine mk_ll ?_); refine m_if_ge (tgt := 78) dX11_outerBut_72 (by decide) (by omega) (by omega) (fun h72 => ?_) (fun h72 => ?_)) | ((with_reducible refine mk_lc ?_); refine l_if_ge (tgt := 78) dX11_outerBut_72 (by decide) (fun h72 => ?_) (fun h72 => ?_)) | ((with_reducible refine mk_n ?_); refine n_if_ge (tgt := 78) dX11_outerBut_72 (by decide) (by omega) (fun h72 => ?_) (fun h72 => ?_)) | refine e_if_ge (tgt := 78) dX11_outerBut_72 (by decide) (fun h72 => ?_) (fun h72 => ?_)
                          · try first | contradiction | omega
                            all_goals
                              first | refine n_inc dX11_outerBut_78 rfl (Nat.le_of_ble_eq_true rfl) rfl ?_ | refine e_iinc dX11_outerBut_78 rfl rfl (Nat.le_of_ble_eq_true rfl) rfl ?_
                              refine e_goto (tgt := 5) dX11_outerBut_81 (by decide) ?_
                              first | (rw [bst_f (c := fun s => decide (w (4 + s) ≠ 0) && decide (s ≠ u)) (b := fun s q => decide (ldF w q < ldF w s)) (n := j) (by grind), hb] at ih; exact ih) | (rw [bst_0 (c := fun s => decide (w (4 + s) ≠ 0) && decide (s ≠ u)) (b := fun s q => decide (ldF w q < ldF w s)) (n := j) (by grind) hb] at ih; exact ih)
                          · try first | contradiction | omega
                            all_goals
                              refine e_iload dX11_outerBut_75 rfl ?_
                              refine e_istore_n dX11_outerBut_77 rfl (Nat.le_of_ble_eq_true rfl) rfl ?_
                              first | refine n_inc dX11_outerBut_78 rfl (Nat.le_of_ble_eq_true rfl) rfl ?_ | refine e_iinc dX11_outerBut_78 rfl rfl (Nat.le_of_ble_eq_true rfl) rfl ?_
                              refine e_goto (tgt := 5) dX11_outerBut_81 (by decide) ?_
                              first | (rw [bst_f (c := fun s => decide (w (4 + s) ≠ 0) && decide (s ≠ u)) (b := fun s q => decide (ldF w q < ldF w s)) (n := j) (by grind), hb] at ih; exact ih) | (rw [bst_0 (c := fun s => decide (w (4 + s) ≠ 0) && decide (s ≠ u)) (b := fun s q => decide (ldF w q < ldF w s)) (n := j) (by grind) hb] at ih; exact ih)
                      · try first | contradiction | omega
                        all_goals
                          refine e_aload_n dX11_outerBut_42 rfl rfl ?_
                          refine e_iload dX11_outerBut_43 rfl ?_
                          refine x_V1 (M' := mX11_loadOf) dX11_outerBut_45 ml_X11_337 ok_X11_loadOf (by decide) rfl im_X11_loadOf se_X11_loadOf (ct_X11_loadOf ‹_› ‹_› (by omega)) (Nat.le_of_ble_eq_true rfl) (by decide) (Nat.le_of_ble_eq_true rfl) ?_
                          refine e_aload_n dX11_outerBut_48 rfl rfl ?_
                          refine e_iload_n dX11_outerBut_49 rfl rfl ?_
                          refine x_V1 (M' := mX11_loadOf) dX11_outerBut_50 ml_X11_337 ok_X11_loadOf (by decide) rfl im_X11_loadOf se_X11_loadOf (ct_X11_loadOf ‹_› ‹_› (by omega)) (Nat.le_of_ble_eq_true rfl) (by decide) (Nat.le_of_ble_eq_true rfl) ?_
                          refine e_lcmp dX11_outerBut_53 ?_
                          first | ((with_reducible refine mk_ll ?_); refine m_if_le (tgt := 78) dX11_outerBut_54 (by decide) (by omega) (by omega) (fun h54 => ?_) (fun h54 => ?_)) | ((with_reducible refine mk_lc ?_); refine l_if_le (tgt := 78) dX11_outerBut_54 (by decide) (fun h54 => ?_) (fun h54 => ?_)) | ((with_reducible refine mk_n ?_); refine n_if_le (tgt := 78) dX11_outerBut_54 (by decide) (by omega) (fun h54 => ?_) (fun h54 => ?_)) | refine e_if_le (tgt := 78) dX11_outerBut_54 (by decide) (fun h54 => ?_) (fun h54 => ?_)
                          · try first | contradiction | omega
                            all_goals
                              first | refine n_inc dX11_outerBut_78 rfl (Nat.le_of_ble_eq_true rfl) rfl ?_ | refine e_iinc dX11_outerBut_78 rfl rfl (Nat.le_of_ble_eq_true rfl) rfl ?_
                              refine e_goto (tgt := 5) dX11_outerBut_81 (by decide) ?_
                              first | (rw [bst_f (c := fun s => decide (w (4 + s) ≠ 0) && decide (s ≠ u)) (b := fun s q => decide (ldF w q < ldF w s)) (n := j) (by grind), hb] at ih; exact ih) | (rw [bst_0 (c := fun s => decide (w (4 + s) ≠ 0) && decide (s ≠ u)) (b := fun s q => decide (ldF w q < ldF w s)) (n := j) (by grind) hb] at ih; exact ih)
                          · try first | contradiction | omega
                            all_goals
                              refine e_goto (tgt := 75) dX11_outerBut_57 (by decide) ?_
                              refine e_iload dX11_outerBut_75 rfl ?_
                              refine e_istore_n dX11_outerBut_77 rfl (Nat.le_of_ble_eq_true rfl) rfl ?_
                              first | refine n_inc dX11_outerBut_78 rfl (Nat.le_of_ble_eq_true rfl) rfl ?_ | refine e_iinc dX11_outerBut_78 rfl rfl (Nat.le_of_ble_eq_true rfl) rfl ?_
                              refine e_goto (tgt := 5) dX11_outerBut_81 (by decide) ?_
                              first | (rw [bst_f (c := fun s => decide (w (4 + s) ≠ 0) && decide (s ≠ u)) (b := fun s q => decide (ldF w q < ldF w s)) (n := j) (by grind), hb] at ih; exact ih) | (rw [bst_0 (c := fun s => decide (w (4 + s) ≠ 0) && decide (s ≠ u)) (b := fun s q => decide (ldF w q < ldF w s)) (n := j) (by grind) hb] at ih; exact ih)
              · try first | contradiction | omega
                all_goals
                  refine e_goto (tgt := 78) dX11_outerBut_30 (by decide) ?_
                  first | refine n_inc dX11_outerBut_78 rfl (Nat.le_of_ble_eq_true rfl) rfl ?_ | refine e_iinc dX11_outerBut_78 rfl rfl (Nat.le_of_ble_eq_true rfl) rfl ?_
                  refine e_goto (tgt := 5) dX11_outerBut_81 (by decide) ?_
                  first | (rw [bst_f (c := fun s => decide (w (4 + s) ≠ 0) && decide (s ≠ u)) (b := fun s q => decide (ldF w q < ldF w s)) (n := j) (by grind), hb] at ih; exact ih) | (rw [bst_0 (c := fun s => decide (w (4 + s) ≠ 0) && decide (s ≠ u)) (b := fun s q => decide (ldF w q < ldF w s)) (n := j) (by grind) hb] at ih; exact ih)
    | some q =>
      have hq := (bst_in hb).1
      have hqc := (bst_in hb).2
      rw [oI_s]
      have hld2 := ldF_le iv q
      refine e_iload dX11_outerBut_5 rfl ?_
      refine e_bipush (v := nI 6) dX11_outerBut_7 rfl ?_
      first | ((with_reducible refine mk_nn ?_); refine n_icmp_ge (tgt := 84) dX11_outerBut_9 (by decide) (by omega) (by omega) (fun h9 => ?_) (fun h9 => ?_)) | refine e_icmp_ge (tgt := 84) dX11_outerBut_9 (by decide) (fun h9 => ?_) (fun h9 => ?_)
      · try first | contradiction | omega
        all_goals
          refine e_iload_n dX11_outerBut_84 rfl rfl ?_
          refine e_ret (some _) rfl (r_int dX11_outerBut_85 rfl) ?_
          exact xq (by first | rfl | simp_all [bI_t, bI_f]) rfl rfl rfl rfl rfl
      · try first | contradiction | omega
        all_goals
          refine e_aload_n dX11_outerBut_12 rfl rfl ?_
          refine e_getR dX11_outerBut_13 fl_X11_7 rfl (by assumption) ?_
          refine e_iconst (v := nI 4) dX11_outerBut_16 rfl ?_
          refine e_iload dX11_outerBut_17 rfl ?_
          first | ((with_reducible refine mk_nn ?_); refine n_iadd dX11_outerBut_19 ?_) | refine e_iadd dX11_outerBut_19 ?_
          first | ((with_reducible refine mk_ldw ?_); refine e_ldw dX11_outerBut_20 (by omega) ?_) | refine e_iald _ dX11_outerBut_20 ⟨by decide, by decide⟩ rfl rfl (by simp only [lenK]; omega) ?_
          first | ((with_reducible refine mk_b ?_); refine b_if_eq (tgt := 78) dX11_outerBut_21 (by decide) (fun h21 => ?_) (fun h21 => ?_)) | ((with_reducible refine mk_ll ?_); refine m_if_eq (tgt := 78) dX11_outerBut_21 (by decide) (by omega) (by omega) (fun h21 => ?_) (fun h21 => ?_)) | ((with_reducible refine mk_lc ?_); refine l_if_eq (tgt := 78) dX11_outerBut_21 (by decide) (fun h21 => ?_) (fun h21 => ?_)) | ((with_reducible refine mk_n ?_); refine n_if_eq (tgt := 78) dX11_outerBut_21 (by decide) (by omega) (fun h21 => ?_) (fun h21 => ?_)) | refine e_if_eq (tgt := 78) dX11_outerBut_21 (by decide) (fun h21 => ?_) (fun h21 => ?_)
          · try first | contradiction | omega
            all_goals
              first | refine n_inc dX11_outerBut_78 rfl (Nat.le_of_ble_eq_true rfl) rfl ?_ | refine e_iinc dX11_outerBut_78 rfl rfl (Nat.le_of_ble_eq_true rfl) rfl ?_
              refine e_goto (tgt := 5) dX11_outerBut_81 (by decide) ?_
              first | (rw [bst_f (c := fun s => decide (w (4 + s) ≠ 0) && decide (s ≠ u)) (b := fun s q => decide (ldF w q < ldF w s)) (n := j) (by grind), hb] at ih; exact ih) | (rw [bst_0 (c := fun s => decide (w (4 + s) ≠ 0) && decide (s ≠ u)) (b := fun s q => decide (ldF w q < ldF w s)) (n := j) (by grind) hb] at ih; exact ih) | (rw [bst_1 (c := fun s => decide (w (4 + s) ≠ 0) && decide (s ≠ u)) (b := fun s q => decide (ldF w q < ldF w s)) (n := j) (by grind) hb (by grind)] at ih; exact ih) | (rw [bst_2 (c := fun s => decide (w (4 + s) ≠ 0) && decide (s ≠ u)) (b := fun s q => decide (ldF w q < ldF w s)) (n := j) (by grind) hb (by grind)] at ih; exact ih)
          · try first | contradiction | omega
            all_goals
              refine e_iload dX11_outerBut_24 rfl ?_
              refine e_iload_n dX11_outerBut_26 rfl rfl ?_
              first | ((with_reducible refine mk_mo ?_); refine p_icmp_ne (tgt := 33) dX11_outerBut_27 (by decide) (fun h27 => ?_) (fun h27 => ?_)) | ((with_reducible refine mk_ms ?_); refine s_icmp_ne (tgt := 33) dX11_outerBut_27 (by decide) (by omega) (fun h27 => ?_) (fun h27 => ?_)) | ((with_reducible refine mk_mn ?_); refine q_icmp_ne (tgt := 33) dX11_outerBut_27 (by decide) (by omega) (fun h27 => ?_) (fun h27 => ?_)) | ((with_reducible refine mk_nn ?_); refine n_icmp_ne (tgt := 33) dX11_outerBut_27 (by decide) (by omega) (by omega) (fun h27 => ?_) (fun h27 => ?_)) | refine e_icmp_ne (tgt := 33) dX11_outerBut_27 (by decide) (fun h27 => ?_) (fun h27 => ?_)
              · try first | contradiction | omega
                all_goals
                  refine e_iload_n dX11_outerBut_33 rfl rfl ?_
                  refine e_iconst (v := -1) dX11_outerBut_34 rfl ?_
                  first | ((with_reducible refine mk_mo ?_); refine p_icmp_eq (tgt := 75) dX11_outerBut_35 (by decide) (fun h35 => ?_) (fun h35 => ?_)) | ((with_reducible refine mk_ms ?_); refine s_icmp_eq (tgt := 75) dX11_outerBut_35 (by decide) (by omega) (fun h35 => ?_) (fun h35 => ?_)) | ((with_reducible refine mk_mn ?_); refine q_icmp_eq (tgt := 75) dX11_outerBut_35 (by decide) (by omega) (fun h35 => ?_) (fun h35 => ?_)) | ((with_reducible refine mk_nn ?_); refine n_icmp_eq (tgt := 75) dX11_outerBut_35 (by decide) (by omega) (by omega) (fun h35 => ?_) (fun h35 => ?_)) | refine e_icmp_eq (tgt := 75) dX11_outerBut_35 (by decide) (fun h35 => ?_) (fun h35 => ?_)
                  · try first | contradiction | omega
                    all_goals
                      refine e_iload dX11_outerBut_75 rfl ?_
                      refine e_istore_n dX11_outerBut_77 rfl (Nat.le_of_ble_eq_true rfl) rfl ?_
                      first | refine n_inc dX11_outerBut_78 rfl (Nat.le_of_ble_eq_true rfl) rfl ?_ | refine e_iinc dX11_outerBut_78 rfl rfl (Nat.le_of_ble_eq_true rfl) rfl ?_
                      refine e_goto (tgt := 5) dX11_outerBut_81 (by decide) ?_
                      first | (rw [bst_f (c := fun s => decide (w (4 + s) ≠ 0) && decide (s ≠ u)) (b := fun s q => decide (ldF w q < ldF w s)) (n := j) (by grind), hb] at ih; exact ih) | (rw [bst_0 (c := fun s => decide (w (4 + s) ≠ 0) && decide (s ≠ u)) (b := fun s q => decide (ldF w q < ldF w s)) (n := j) (by grind) hb] at ih; exact ih) | (rw [bst_1 (c := fun s => decide (w (4 + s) ≠ 0) && decide (s ≠ u)) (b := fun s q => decide (ldF w q < ldF w s)) (n := j) (by grind) hb (by grind)] at ih; exact ih) | (rw [bst_2 (c := fun s => decide (w (4 + s) ≠ 0) && decide (s ≠ u)) (b := fun s q => decide (ldF w q < ldF w s)) (n := j) (by grind) hb (by grind)] at ih; exact ih)
                  · try first | contradiction | omega
                    all_goals
                      refine e_iload_n dX11_outerBut_38 rfl rfl ?_
                      first | ((with_reducible refine mk_b ?_); refine b_if_eq (tgt := 60) dX11_outerBut_39 (by decide) (fun h39 => ?_) (fun h39 => ?_)) | ((with_reducible refine mk_ll ?_); refine m_if_eq (tgt := 60) dX11_outerBut_39 (by decide) (by omega) (by omega) (fun h39 => ?_) (fun h39 => ?_)) | ((with_reducible refine mk_lc ?_); refine l_if_eq (tgt := 60) dX11_outerBut_39 (by decide) (fun h39 => ?_) (fun h39 => ?_)) | ((with_reducible refine mk_n ?_); refine n_if_eq (tgt := 60) dX11_outerBut_39 (by decide) (by omega) (fun h39 => ?_) (fun h39 => ?_)) | refine e_if_eq (tgt := 60) dX11_outerBut_39 (by decide) (fun h39 => ?_) (fun h39 => ?_)
                      · try first | contradiction | omega
                        all_goals
                          refine e_aload_n dX11_outerBut_60 rfl rfl ?_
                          refine e_iload dX11_outerBut_61 rfl ?_
                          refine x_V1 (M' := mX11_loadOf) dX11_outerBut_63 ml_X11_337 ok_X11_loadOf (by decide) rfl im_X11_loadOf se_X11_loadOf (ct_X11_loadOf ‹_› ‹_› (by omega)) (Nat.le_of_ble_eq_true rfl) (by decide) (Nat.le_of_ble_eq_true rfl) ?_
                          refine e_aload_n dX11_outerBut_66 rfl rfl ?_
                          refine e_iload_n dX11_outerBut_67 rfl rfl ?_
                          refine x_V1 (M' := mX11_loadOf) dX11_outerBut_68 ml_X11_337 ok_X11_loadOf (by decide) rfl im_X11_loadOf se_X11_loadOf (ct_X11_loadOf ‹_› ‹_› (by omega)) (Nat.le_of_ble_eq_true rfl) (by decide) (Nat.le_of_ble_eq_true rfl) ?_
                          refine e_lcmp dX11_outerBut_71 ?_
                          first | ((with_reducible refine mk_ll ?_); refine m_if_ge (tgt := 78) dX11_outerBut_72 (by decide) (by omega) (by omega) (fun h72 => ?_) (fun h72 => ?_)) | ((with_reducible refine mk_lc ?_); refine l_if_ge (tgt := 78) dX11_outerBut_72 (by decide) (fun h72 => ?_) (fun h72 => ?_)) | ((with_reducible refine mk_n ?_); refine n_if_ge (tgt := 78) dX11_outerBut_72 (by decide) (by omega) (fun h72 => ?_) (fun h72 => ?_)) | refine e_if_ge (tgt := 78) dX11_outerBut_72 (by decide) (fun h72 => ?_) (fun h72 => ?_)
                          · try first | contradiction | omega
                            all_goals
                              first | refine n_inc dX11_outerBut_78 rfl (Nat.le_of_ble_eq_true rfl) rfl ?_ | refine e_iinc dX11_outerBut_78 rfl rfl (Nat.le_of_ble_eq_true rfl) rfl ?_
                              refine e_goto (tgt := 5) dX11_outerBut_81 (by decide) ?_
                              first | (rw [bst_f (c := fun s => decide (w (4 + s) ≠ 0) && decide (s ≠ u)) (b := fun s q => decide (ldF w q < ldF w s)) (n := j) (by grind), hb] at ih; exact ih) | (rw [bst_0 (c := fun s => decide (w (4 + s) ≠ 0) && decide (s ≠ u)) (b := fun s q => decide (ldF w q < ldF w s)) (n := j) (by grind) hb] at ih; exact ih) | (rw [bst_1 (c := fun s => decide (w (4 + s) ≠ 0) && decide (s ≠ u)) (b := fun s q => decide (ldF w q < ldF w s)) (n := j) (by grind) hb (by grind)] at ih; exact ih) | (rw [bst_2 (c := fun s => decide (w (4 + s) ≠ 0) && decide (s ≠ u)) (b := fun s q => decide (ldF w q < ldF w s)) (n := j) (by grind) hb (by grind)] at ih; exact ih)
                          · try first | contradiction | omega
                            all_goals
                              refine e_iload dX11_outerBut_75 rfl ?_
                              refine e_istore_n dX11_outerBut_77 rfl (Nat.le_of_ble_eq_true rfl) rfl ?_
                              first | refine n_inc dX11_outerBut_78 rfl (Nat.le_of_ble_eq_true rfl) rfl ?_ | refine e_iinc dX11_outerBut_78 rfl rfl (Nat.le_of_ble_eq_true rfl) rfl ?_
                              refine e_goto (tgt := 5) dX11_outerBut_81 (by decide) ?_
                              first | (rw [bst_f (c := fun s => decide (w (4 + s) ≠ 0) && decide (s ≠ u)) (b := fun s q => decide (ldF w q < ldF w s)) (n := j) (by grind), hb] at ih; exact ih) | (rw [bst_0 (c := fun s => decide (w (4 + s) ≠ 0) && decide (s ≠ u)) (b := fun s q => decide (ldF w q < ldF w s)) (n := j) (by grind) hb] at ih; exact ih) | (rw [bst_1 (c := fun s => decide (w (4 + s) ≠ 0) && decide (s ≠ u)) (b := fun s q => decide (ldF w q < ldF w s)) (n := j) (by grind) hb (by grind)] at ih; exact ih) | (rw [bst_2 (c := fun s => decide (w (4 + s) ≠ 0) && decide (s ≠ u)) (b := fun s q => decide (ldF w q < ldF w s)) (n := j) (by grind) hb (by grind)] at ih; exact ih)
                      · try first | contradiction | omega
                        all_goals
                          refine e_aload_n dX11_outerBut_42 rfl rfl ?_
                          refine e_iload dX11_outerBut_43 rfl ?_
                          refine x_V1 (M' := mX11_loadOf) dX11_outerBut_45 ml_X11_337 ok_X11_loadOf (by decide) rfl im_X11_loadOf se_X11_loadOf (ct_X11_loadOf ‹_› ‹_› (by omega)) (Nat.le_of_ble_eq_true rfl) (by decide) (Nat.le_of_ble_eq_true rfl) ?_
                          refine e_aload_n dX11_outerBut_48 rfl rfl ?_
                          refine e_iload_n dX11_outerBut_49 rfl rfl ?_
                          refine x_V1 (M' := mX11_loadOf) dX11_outerBut_50 ml_X11_337 ok_X11_loadOf (by decide) rfl im_X11_loadOf se_X11_loadOf (ct_X11_loadOf ‹_› ‹_› (by omega)) (Nat.le_of_ble_eq_true rfl) (by decide) (Nat.le_of_ble_eq_true rfl) ?_
                          refine e_lcmp dX11_outerBut_53 ?_
                          first | ((with_reducible refine mk_ll ?_); refine m_if_le (tgt := 78) dX11_outerBut_54 (by decide) (by omega) (by omega) (fun h54 => ?_) (fun h54 => ?_)) | ((with_reducible refine mk_lc ?_); refine l_if_le (tgt := 78) dX11_outerBut_54 (by decide) (fun h54 => ?_) (fun h54 => ?_)) | ((with_reducible refine mk_n ?_); refine n_if_le (tgt := 78) dX11_outerBut_54 (by decide) (by omega) (fun h54 => ?_) (fun h54 => ?_)) | refine e_if_le (tgt := 78) dX11_outerBut_54 (by decide) (fun h54 => ?_) (fun h54 => ?_)
                          · try first | contradiction | omega
                            all_goals
                              first | refine n_inc dX11_outerBut_78 rfl (Nat.le_of_ble_eq_true rfl) rfl ?_ | refine e_iinc dX11_outerBut_78 rfl rfl (Nat.le_of_ble_eq_true rfl) rfl ?_
                              refine e_goto (tgt := 5) dX11_outerBut_81 (by decide) ?_
                              first | (rw [bst_f (c := fun s => decide (w (4 + s) ≠ 0) && decide (s ≠ u)) (b := fun s q => decide (ldF w q < ldF w s)) (n := j) (by grind), hb] at ih; exact ih) | (rw [bst_0 (c := fun s => decide (w (4 + s) ≠ 0) && decide (s ≠ u)) (b := fun s q => decide (ldF w q < ldF w s)) (n := j) (by grind) hb] at ih; exact ih) | (rw [bst_1 (c := fun s => decide (w (4 + s) ≠ 0) && decide (s ≠ u)) (b := fun s q => decide (ldF w q < ldF w s)) (n := j) (by grind) hb (by grind)] at ih; exact ih) | (rw [bst_2 (c := fun s => decide (w (4 + s) ≠ 0) && decide (s ≠ u)) (b := fun s q => decide (ldF w q < ldF w s)) (n := j) (by grind) hb (by grind)] at ih; exact ih)
                          · try first | contradiction | omega
                            all_goals
                              refine e_goto (tgt := 75) dX11_outerBut_57 (by decide) ?_
                              refine e_iload dX11_outerBut_75 rfl ?_
                              refine e_istore_n dX11_outerBut_77 rfl (Nat.le_of_ble_eq_true rfl) rfl ?_
                              first | refine n_inc dX11_outerBut_78 rfl (Nat.le_of_ble_eq_true rfl) rfl ?_ | refine e_iinc dX11_outerBut_78 rfl rfl (Nat.le_of_ble_eq_true rfl) rfl ?_
                              refine e_goto (tgt := 5) dX11_outerBut_81 (by decide) ?_
                              first | (rw [bst_f (c := fun s => decide (w (4 + s) ≠ 0) && decide (s ≠ u)) (b := fun s q => decide (ldF w q < ldF w s)) (n := j) (by grind), hb] at ih; exact ih) | (rw [bst_0 (c := fun s => decide (w (4 + s) ≠ 0) && decide (s ≠ u)) (b := fun s q => decide (ldF w q < ldF w s)) (n := j) (by grind) hb] at ih; exact ih) | (rw [bst_1 (c := fun s => decide (w (4 + s) ≠ 0) && decide (s ≠ u)) (b := fun s q => decide (ldF w q < ldF w s)) (n := j) (by grind) hb (by grind)] at ih; exact ih) | (rw [bst_2 (c := fun s => decide (w (4 + s) ≠ 0) && decide (s ≠ u)) (b := fun s q => decide (ldF w q < ldF w s)) (n := j) (by grind) hb (by grind)] at ih; exact ih)
              · try first | contradiction | omega
                all_goals
                  refine e_goto (tgt := 78) dX11_outerBut_30 (by decide) ?_
                  first | refine n_inc dX11_outerBut_78 rfl (Nat.le_of_ble_eq_true rfl) rfl ?_ | refine e_iinc dX11_outerBut_78 rfl rfl (Nat.le_of_ble_eq_true rfl) rfl ?_
                  refine e_goto (tgt := 5) dX11_outerBut_81 (by decide) ?_
                  first | (rw [bst_f (c := fun s => decide (w (4 + s) ≠ 0) && decide (s ≠ u)) (b := fun s q => decide (ldF w q < ldF w s)) (n := j) (by grind), hb] at ih; exact ih) | (rw [bst_0 (c := fun s => decide (w (4 + s) ≠ 0) && decide (s ≠ u)) (b := fun s q => decide (ldF w q < ldF w s)) (n := j) (by grind) hb] at ih; exact ih) | (rw [bst_1 (c := fun s => decide (w (4 + s) ≠ 0) && decide (s ≠ u)) (b := fun s q => decide (ldF w q < ldF w s)) (n := j) (by grind) hb (by grind)] at ih; exact ih) | (rw [bst_2 (c := fun s => decide (w (4 + s) ≠ 0) && decide (s ≠ u)) (b := fun s q => decide (ldF w q < ldF w s)) (n := j) (by grind) hb (by grind)] at ih; exact ih)
    ) (by
    refine e_iload dX11_outerBut_5 rfl ?_
    refine e_bipush (v := nI 6) dX11_outerBut_7 rfl ?_
    first | ((with_reducible refine mk_nn ?_); refine n_icmp_ge (tgt := 84) dX11_outerBut_9 (by decide) (by omega) (by omega) (fun h9 => ?_) (fun h9 => ?_)) | refine e_icmp_ge (tgt := 84) dX11_outerBut_9 (by decide) (fun h9 => ?_) (fun h9 => ?_)
    · try first | contradiction | omega
      all_goals
        refine e_iload_n dX11_outerBut_84 rfl rfl ?_
        refine e_ret (some _) rfl (r_int dX11_outerBut_85 rfl) ?_
        exact xq rfl rfl rfl rfl rfl rfl
    · try first | contradiction | omega
      all_goals
        refine e_aload_n dX11_outerBut_12 rfl rfl ?_
        refine e_getR dX11_outerBut_13 fl_X11_7 rfl (by assumption) ?_
        refine e_iconst (v := nI 4) dX11_outerBut_16 rfl ?_
        refine e_iload dX11_outerBut_17 rfl ?_
        first | ((with_reducible refine mk_nn ?_); refine n_iadd dX11_outerBut_19 ?_) | refine e_iadd dX11_outerBut_19 ?_
        first | ((with_reducible refine mk_ldw ?_); refine e_ldw dX11_outerBut_20 (by omega) ?_) | refine e_iald _ dX11_outerBut_20 ⟨by decide, by decide⟩ rfl rfl (by simp only [lenK]; omega) ?_
        first | ((with_reducible refine mk_b ?_); refine b_if_eq (tgt := 78) dX11_outerBut_21 (by decide) (fun h21 => ?_) (fun h21 => ?_)) | ((with_reducible refine mk_ll ?_); refine m_if_eq (tgt := 78) dX11_outerBut_21 (by decide) (by omega) (by omega) (fun h21 => ?_) (fun h21 => ?_)) | ((with_reducible refine mk_lc ?_); refine l_if_eq (tgt := 78) dX11_outerBut_21 (by decide) (fun h21 => ?_) (fun h21 => ?_)) | ((with_reducible refine mk_n ?_); refine n_if_eq (tgt := 78) dX11_outerBut_21 (by decide) (by omega) (fun h21 => ?_) (fun h21 => ?_)) | refine e_if_eq (tgt := 78) dX11_outerBut_21 (by decide) (fun h21 => ?_) (fun h21 => ?_)
        · try first | contradiction | omega
          all_goals
            first | refine n_inc dX11_outerBut_78 rfl (Nat.le_of_ble_eq_true rfl) rfl ?_ | refine e_iinc dX11_outerBut_78 rfl rfl (Nat.le_of_ble_eq_true rfl) rfl ?_
            refine e_goto (tgt := 5) dX11_outerBut_81 (by decide) ?_
            first | (rw [bst_f (c := fun s => decide (w (4 + s) ≠ 0) && decide (s ≠ u)) (b := fun s q => decide (ldF w q < ldF w s)) (n := j) (by grind), hb] at ih; exact ih) | (rw [bst_0 (c := fun s => decide (w (4 + s) ≠ 0) && decide (s ≠ u)) (b := fun s q => decide (ldF w q < ldF w s)) (n := j) (by grind) hb] at ih; exact ih) | (rw [bst_1 (c := fun s => decide (w (4 + s) ≠ 0) && decide (s ≠ u)) (b := fun s q => decide (ldF w q < ldF w s)) (n := j) (by grind) hb (by grind)] at ih; exact ih) | (rw [bst_2 (c := fun s => decide (w (4 + s) ≠ 0) && decide (s ≠ u)) (b := fun s q => decide (ldF w q < ldF w s)) (n := j) (by grind) hb (by grind)] at ih; exact ih)
        · try first | contradiction | omega
          all_goals
            refine e_iload dX11_outerBut_24 rfl ?_
            refine e_iload_n dX11_outerBut_26 rfl rfl ?_
            first | ((with_reducible refine mk_mo ?_); refine p_icmp_ne (tgt := 33) dX11_outerBut_27 (by decide) (fun h27 => ?_) (fun h27 => ?_)) | ((with_reducible refine mk_ms ?_); refine s_icmp_ne (tgt := 33) dX11_outerBut_27 (by decide) (by omega) (fun h27 => ?_) (fun h27 => ?_)) | ((with_reducible refine mk_mn ?_); refine q_icmp_ne (tgt := 33) dX11_outerBut_27 (by decide) (by omega) (fun h27 => ?_) (fun h27 => ?_)) | ((with_reducible refine mk_nn ?_); refine n_icmp_ne (tgt := 33) dX11_outerBut_27 (by decide) (by omega) (by omega) (fun h27 => ?_) (fun h27 => ?_)) | refine e_icmp_ne (tgt := 33) dX11_outerBut_27 (by decide) (fun h27 => ?_) (fun h27 => ?_)
            · try first | contradiction | omega
              all_goals
                refine e_iload_n dX11_outerBut_33 rfl rfl ?_
                refine e_iconst (v := -1) dX11_outerBut_34 rfl ?_
                first | ((with_reducible refine mk_mo ?_); refine p_icmp_eq (tgt := 75) dX11_outerBut_35 (by decide) (fun h35 => ?_) (fun h35 => ?_)) | ((with_reducible refine mk_ms ?_); refine s_icmp_eq (tgt := 75) dX11_outerBut_35 (by decide) (by omega) (fun h35 => ?_) (fun h35 => ?_)) | ((with_reducible refine mk_mn ?_); refine q_icmp_eq (tgt := 75) dX11_outerBut_35 (by decide) (by omega) (fun h35 => ?_) (fun h35 => ?_)) | ((with_reducible refine mk_nn ?_); refine n_icmp_eq (tgt := 75) dX11_outerBut_35 (by decide) (by omega) (by omega) (fun h35 => ?_) (fun h35 => ?_)) | refine e_icmp_eq (tgt := 75) dX11_outerBut_35 (by decide) (fun h35 => ?_) (fun h35 => ?_)
                · try first | contradiction | omega
                  all_goals
                    refine e_iload dX11_outerBut_75 rfl ?_
                    refine e_istore_n dX11_outerBut_77 rfl (Nat.le_of_ble_eq_true rfl) rfl ?_
                    first | refine n_inc dX11_outerBut_78 rfl (Nat.le_of_ble_eq_true rfl) rfl ?_ | refine e_iinc dX11_outerBut_78 rfl rfl (Nat.le_of_ble_eq_true rfl) rfl ?_
                    refine e_goto (tgt := 5) dX11_outerBut_81 (by decide) ?_
                    first | (rw [bst_f (c := fun s => decide (w (4 + s) ≠ 0) && decide (s ≠ u)) (b := fun s q => decide (ldF w q < ldF w s)) (n := j) (by grind), hb] at ih; exact ih) | (rw [bst_0 (c := fun s => decide (w (4 + s) ≠ 0) && decide (s ≠ u)) (b := fun s q => decide (ldF w q < ldF w s)) (n := j) (by grind) hb] at ih; exact ih) | (rw [bst_1 (c := fun s => decide (w (4 + s) ≠ 0) && decide (s ≠ u)) (b := fun s q => decide (ldF w q < ldF w s)) (n := j) (by grind) hb (by grind)] at ih; exact ih) | (rw [bst_2 (c := fun s => decide (w (4 + s) ≠ 0) && decide (s ≠ u)) (b := fun s q => decide (ldF w q < ldF w s)) (n := j) (by grind) hb (by grind)] at ih; exact ih)
                · try first | contradiction | omega
                  all_goals
                    refine e_iload_n dX11_outerBut_38 rfl rfl ?_
                    first | ((with_reducible refine mk_b ?_); refine b_if_eq (tgt := 60) dX11_outerBut_39 (by decide) (fun h39 => ?_) (fun h39 => ?_)) | ((with_reducible refine mk_ll ?_); refine m_if_eq (tgt := 60) dX11_outerBut_39 (by decide) (by omega) (by omega) (fun h39 => ?_) (fun h39 => ?_)) | ((with_reducible refine mk_lc ?_); refine l_if_eq (tgt := 60) dX11_outerBut_39 (by decide) (fun h39 => ?_) (fun h39 => ?_)) | ((with_reducible refine mk_n ?_); refine n_if_eq (tgt := 60) dX11_outerBut_39 (by decide) (by omega) (fun h39 => ?_) (fun h39 => ?_)) | refine e_if_eq (tgt := 60) dX11_outerBut_39 (by decide) (fun h39 => ?_) (fun h39 => ?_)
                    · try first | contradiction | omega
                      all_goals
                        refine e_aload_n dX11_outerBut_60 rfl rfl ?_
                        refine e_iload dX11_outerBut_61 rfl ?_
                        refine x_V1 (M' := mX11_loadOf) dX11_outerBut_63 ml_X11_337 ok_X11_loadOf (by decide) rfl im_X11_loadOf se_X11_loadOf (ct_X11_loadOf ‹_› ‹_› (by omega)) (Nat.le_of_ble_eq_true rfl) (by decide) (Nat.le_of_ble_eq_true rfl) ?_
                        refine e_aload_n dX11_outerBut_66 rfl rfl ?_
                        refine e_iload_n dX11_outerBut_67 rfl rfl ?_
                        refine x_V1 (M' := mX11_loadOf) dX11_outerBut_68 ml_X11_337 ok_X11_loadOf (by decide) rfl im_X11_loadOf se_X11_loadOf (ct_X11_loadOf ‹_› ‹_› (by omega)) (Nat.le_of_ble_eq_true rfl) (by decide) (Nat.le_of_ble_eq_true rfl) ?_
                        refine e_lcmp dX11_outerBut_71 ?_
                        first | ((with_reducible refine mk_ll ?_); refine m_if_ge (tgt := 78) dX11_outerBut_72 (by decide) (by omega) (by omega) (fun h72 => ?_) (fun h72 => ?_)) | ((with_reducible refine mk_lc ?_); refine l_if_ge (tgt := 78) dX11_outerBut_72 (by decide) (fun h72 => ?_) (fun h72 => ?_)) | ((with_reducible refine mk_n ?_); refine n_if_ge (tgt := 78) dX11_outerBut_72 (by decide) (by omega) (fun h72 => ?_) (fun h72 => ?_)) | refine e_if_ge (tgt := 78) dX11_outerBut_72 (by decide) (fun h72 => ?_) (fun h72 => ?_)
                        · try first | contradiction | omega
                          all_goals
                            first | refine n_inc dX11_outerBut_78 rfl (Nat.le_of_ble_eq_true rfl) rfl ?_ | refine e_iinc dX11_outerBut_78 rfl rfl (Nat.le_of_ble_eq_true rfl) rfl ?_
                            refine e_goto (tgt := 5) dX11_outerBut_81 (by decide) ?_
                            first | (rw [bst_f (c := fun s => decide (w (4 + s) ≠ 0) && decide (s ≠ u)) (b := fun s q => decide (ldF w q < ldF w s)) (n := j) (by grind), hb] at ih; exact ih) | (rw [bst_0 (c := fun s => decide (w (4 + s) ≠ 0) && decide (s ≠ u)) (b := fun s q => decide (ldF w q < ldF w s)) (n := j) (by grind) hb] at ih; exact ih) | (rw [bst_1 (c := fun s => decide (w (4 + s) ≠ 0) && decide (s ≠ u)) (b := fun s q => decide (ldF w q < ldF w s)) (n := j) (by grind) hb (by grind)] at ih; exact ih) | (rw [bst_2 (c := fun s => decide (w (4 + s) ≠ 0) && decide (s ≠ u)) (b := fun s q => decide (ldF w q < ldF w s)) (n := j) (by grind) hb (by grind)] at ih; exact ih)
                        · try first | contradiction | omega
                          all_goals
                            refine e_iload dX11_outerBut_75 rfl ?_
                            refine e_istore_n dX11_outerBut_77 rfl (Nat.le_of_ble_eq_true rfl) rfl ?_
                            first | refine n_inc dX11_outerBut_78 rfl (Nat.le_of_ble_eq_true rfl) rfl ?_ | refine e_iinc dX11_outerBut_78 rfl rfl (Nat.le_of_ble_eq_true rfl) rfl ?_
                            refine e_goto (tgt := 5) dX11_outerBut_81 (by decide) ?_
                            first | (rw [bst_f (c := fun s => decide (w (4 + s) ≠ 0) && decide (s ≠ u)) (b := fun s q => decide (ldF w q < ldF w s)) (n := j) (by grind), hb] at ih; exact ih) | (rw [bst_0 (c := fun s => decide (w (4 + s) ≠ 0) && decide (s ≠ u)) (b := fun s q => decide (ldF w q < ldF w s)) (n := j) (by grind) hb] at ih; exact ih) | (rw [bst_1 (c := fun s => decide (w (4 + s) ≠ 0) && decide (s ≠ u)) (b := fun s q => decide (ldF w q < ldF w s)) (n := j) (by grind) hb (by grind)] at ih; exact ih) | (rw [bst_2 (c := fun s => decide (w (4 + s) ≠ 0) && decide (s ≠ u)) (b := fun s q => decide (ldF w q < ldF w s)) (n := j) (by grind) hb (by grind)] at ih; exact ih)
                    · try first | contradiction | omega
                      all_goals
                        refine e_aload_n dX11_outerBut_42 rfl rfl ?_
                        refine e_iload dX11_outerBut_43 rfl ?_
                        refine x_V1 (M' := mX11_loadOf) dX11_outerBut_45 ml_X11_337 ok_X11_loadOf (by decide) rfl im_X11_loadOf se_X11_loadOf (ct_X11_loadOf ‹_› ‹_› (by omega)) (Nat.le_of_ble_eq_true rfl) (by decide) (Nat.le_of_ble_eq_true rfl) ?_
                        refine e_aload_n dX11_outerBut_48 rfl rfl ?_
                        refine e_iload_n dX11_outerBut_49 rfl rfl ?_
                        refine x_V1 (M' := mX11_loadOf) dX11_outerBut_50 ml_X11_337 ok_X11_loadOf (by decide) rfl im_X11_loadOf se_X11_loadOf (ct_X11_loadOf ‹_› ‹_› (by omega)) (Nat.le_of_ble_eq_true rfl) (by decide) (Nat.le_of_ble_eq_true rfl) ?_
                        refine e_lcmp dX11_outerBut_53 ?_
                        first | ((with_reducible refine mk_ll ?_); refine m_if_le (tgt := 78) dX11_outerBut_54 (by decide) (by omega) (by omega) (fun h54 => ?_) (fun h54 => ?_)) | ((with_reducible refine mk_lc ?_); refine l_if_le (tgt := 78) dX11_outerBut_54 (by decide) (fun h54 => ?_) (fun h54 => ?_)) | ((with_reducible refine mk_n ?_); refine n_if_le (tgt := 78) dX11_outerBut_54 (by decide) (by omega) (fun h54 => ?_) (fun h54 => ?_)) | refine e_if_le (tgt := 78) dX11_outerBut_54 (by decide) (fun h54 => ?_) (fun h54 => ?_)
                        · try first | contradiction | omega
                          all_goals
                            first | refine n_inc dX11_outerBut_78 rfl (Nat.le_of_ble_eq_true rfl) rfl ?_ | refine e_iinc dX11_outerBut_78 rfl rfl (Nat.le_of_ble_eq_true rfl) rfl ?_
                            refine e_goto (tgt := 5) dX11_outerBut_81 (by decide) ?_
                            first | (rw [bst_f (c := fun s => decide (w (4 + s) ≠ 0) && decide (s ≠ u)) (b := fun s q => decide (ldF w q < ldF w s)) (n := j) (by grind), hb] at ih; exact ih) | (rw [bst_0 (c := fun s => decide (w (4 + s) ≠ 0) && decide (s ≠ u)) (b := fun s q => decide (ldF w q < ldF w s)) (n := j) (by grind) hb] at ih; exact ih) | (rw [bst_1 (c := fun s => decide (w (4 + s) ≠ 0) && decide (s ≠ u)) (b := fun s q => decide (ldF w q < ldF w s)) (n := j) (by grind) hb (by grind)] at ih; exact ih) | (rw [bst_2 (c := fun s => decide (w (4 + s) ≠ 0) && decide (s ≠ u)) (b := fun s q => decide (ldF w q < ldF w s)) (n := j) (by grind) hb (by grind)] at ih; exact ih)
                        · try first | contradiction | omega
                          all_goals
                            refine e_goto (tgt := 75) dX11_outerBut_57 (by decide) ?_
                            refine e_iload dX11_outerBut_75 rfl ?_
                            refine e_istore_n dX11_outerBut_77 rfl (Nat.le_of_ble_eq_true rfl) rfl ?_
                            first | refine n_inc dX11_outerBut_78 rfl (Nat.le_of_ble_eq_true rfl) rfl ?_ | refine e_iinc dX11_outerBut_78 rfl rfl (Nat.le_of_ble_eq_true rfl) rfl ?_
                            refine e_goto (tgt := 5) dX11_outerBut_81 (by decide) ?_
                            first | (rw [bst_f (c := fun s => decide (w (4 + s) ≠ 0) && decide (s ≠ u)) (b := fun s q => decide (ldF w q < ldF w s)) (n := j) (by grind), hb] at ih; exact ih) | (rw [bst_0 (c := fun s => decide (w (4 + s) ≠ 0) && decide (s ≠ u)) (b := fun s q => decide (ldF w q < ldF w s)) (n := j) (by grind) hb] at ih; exact ih) | (rw [bst_1 (c := fun s => decide (w (4 + s) ≠ 0) && decide (s ≠ u)) (b := fun s q => decide (ldF w q < ldF w s)) (n := j) (by grind) hb (by grind)] at ih; exact ih) | (rw [bst_2 (c := fun s => decide (w (4 + s) ≠ 0) && decide (s ≠ u)) (b := fun s q => decide (ldF w q < ldF w s)) (n := j) (by grind) hb (by grind)] at ih; exact ih)
            · try first | contradiction | omega
              all_goals
                refine e_goto (tgt := 78) dX11_outerBut_30 (by decide) ?_
                first | refine n_inc dX11_outerBut_78 rfl (Nat.le_of_ble_eq_true rfl) rfl ?_ | refine e_iinc dX11_outerBut_78 rfl rfl (Nat.le_of_ble_eq_true rfl) rfl ?_
                refine e_goto (tgt := 5) dX11_outerBut_81 (by decide) ?_
                first | (rw [bst_f (c := fun s => decide (w (4 + s) ≠ 0) && decide (s ≠ u)) (b := fun s q => decide (ldF w q < ldF w s)) (n := j) (by grind), hb] at ih; exact ih) | (rw [bst_0 (c := fun s => decide (w (4 + s) ≠ 0) && decide (s ≠ u)) (b := fun s q => decide (ldF w q < ldF w s)) (n := j) (by grind) hb] at ih; exact ih) | (rw [bst_1 (c := fun s => decide (w (4 + s) ≠ 0) && decide (s ≠ u)) (b := fun s q => decide (ldF w q < ldF w s)) (n := j) (by grind) hb (by grind)] at ih; exact ih) | (rw [bst_2 (c := fun s => decide (w (4 + s) ≠ 0) && decide (s ≠ u)) (b := fun s q => decide (ldF w q < ldF w s)) (n := j) (by grind) hb (by grind)] at ih; exact ih)
    )
  refine e_iconst (v := -1) dX11_outerBut_0 rfl ?_
  refine e_istore_n dX11_outerBut_1 rfl (Nat.le_of_ble_eq_true rfl) rfl ?_
  refine e_iconst (v := nI 0) dX11_outerBut_2 rfl ?_
  refine e_istore dX11_outerBut_3 (Nat.le_of_ble_eq_true rfl) rfl ?_
  exact key 0 (by omega)
theorem ct_outerBut0 {fi : FI} {fr : FR} {ai : FI} {ar : FR} {N : Nat} {w : Nat → Nat} (sm : SM fr) (iv : Inv w) {u : Nat} (hu6 : u < 2147483648) : CP mX11_outerBut 3 0 0 [.ref (rf 11 80), .int (nI u), .int (nI 0)] fi fr (mW ai w) ar N (xQ (some (.int (oI (obL w u)))) fi fr (mW ai w) ar N) := by
  obtain ⟨sW, sA, sK, sU, sC, sKC, sT, sCl⟩ := id sm
  have h1 := iv_n iv
  have h3 := iv_mm iv
  change EV mX11_outerBut 3 0 0 0 [some (.ref (rf 11 80)), some (.int (nI u)), some (.int (nI 0)), none, none] [] fi fr (mW ai w) ar N (xQ (some (.int (oI (obL w u)))) fi fr (mW ai w) ar N)
  have key := ev_up (P := (fun j => EV mX11_outerBut 3 0 0 5 [some (.ref (rf 11 80)), some (.int (nI u)), some (.int (nI 0)), some (.int (oI (bst (fun s => decide (w (4 + s) ≠ 0) && decide (s ≠ u)) (fun s q => decide (ldF w s < ldF w q)) j))), some (.int (nI j))] [] fi fr (mW ai w) ar N (xQ (some (.int (oI (obL w u)))) fi fr (mW ai w) ar N))) (6) (fun j hj ih => by
    have hu := iv_up iv hj
    have hld := ldF_le iv j
    cases hb : bst (fun s => decide (w (4 + s) ≠ 0) && decide (s ≠ u)) (fun s q => decide (ldF w s < ldF w q)) j with
    | none =>
      refine e_iload dX11_outerBut_5 rfl ?_
      refine e_bipush (v := nI 6) dX11_outerBut_7 rfl ?_
      first | ((with_reducible refine mk_nn ?_); refine n_icmp_ge (tgt := 84) dX11_outerBut_9 (by decide) (by omega) (by omega) (fun h9 => ?_) (fun h9 => ?_)) | refine e_icmp_ge (tgt := 84) dX11_outerBut_9 (by decide) (fun h9 => ?_) (fun h9 => ?_)
      · try first | contradiction | omega
        all_goals
          refine e_iload_n dX11_outerBut_84 rfl rfl ?_
          refine e_ret (some _) rfl (r_int dX11_outerBut_85 rfl) ?_
          exact xq (by first | rfl | simp_all [bI_t, bI_f]) rfl rfl rfl rfl rfl
      · try first | contradiction | omega
        all_goals
          refine e_aload_n dX11_outerBut_12 rfl rfl ?_
          refine e_getR dX11_outerBut_13 fl_X11_7 rfl (by assumption) ?_
          refine e_iconst (v := nI 4) dX11_outerBut_16 rfl ?_
          refine e_iload dX11_outerBut_17 rfl ?_
          first | ((with_reducible refine mk_nn ?_); refine n_iadd dX11_outerBut_19 ?_) | refine e_iadd dX11_outerBut_19 ?_
          first | ((with_reducible refine mk_ldw ?_); refine e_ldw dX11_outerBut_20 (by omega) ?_) | refine e_iald _ dX11_outerBut_20 ⟨by decide, by decide⟩ rfl rfl (by simp only [lenK]; omega) ?_
          first | ((with_reducible refine mk_b ?_); refine b_if_eq (tgt := 78) dX11_outerBut_21 (by decide) (fun h21 => ?_) (fun h21 => ?_)) | ((with_reducible refine mk_ll ?_); refine m_if_eq (tgt := 78) dX11_outerBut_21 (by decide) (by omega) (by omega) (fun h21 => ?_) (fun h21 => ?_)) | ((with_reducible refine mk_lc ?_); refine l_if_eq (tgt := 78) dX11_outerBut_21 (by decide) (fun h21 => ?_) (fun h21 => ?_)) | ((with_reducible refine mk_n ?_); refine n_if_eq (tgt := 78) dX11_outerBut_21 (by decide) (by omega) (fun h21 => ?_) (fun h21 => ?_)) | refine e_if_eq (tgt := 78) dX11_outerBut_21 (by decide) (fun h21 => ?_) (fun h21 => ?_)
          · try first | contradiction | omega
            all_goals
              first | refine n_inc dX11_outerBut_78 rfl (Nat.le_of_ble_eq_true rfl) rfl ?_ | refine e_iinc dX11_outerBut_78 rfl rfl (Nat.le_of_ble_eq_true rfl) rfl ?_
              refine e_goto (tgt := 5) dX11_outerBut_81 (by decide) ?_
              first | (rw [bst_f (c := fun s => decide (w (4 + s) ≠ 0) && decide (s ≠ u)) (b := fun s q => decide (ldF w s < ldF w q)) (n := j) (by grind), hb] at ih; exact ih) | (rw [bst_0 (c := fun s => decide (w (4 + s) ≠ 0) && decide (s ≠ u)) (b := fun s q => decide (ldF w s < ldF w q)) (n := j) (by grind) hb] at ih; exact ih)
          · try first | contradiction | omega
            all_goals
              refine e_iload dX11_outerBut_24 rfl ?_
              refine e_iload_n dX11_outerBut_26 rfl rfl ?_
              first | ((with_reducible refine mk_mo ?_); refine p_icmp_ne (tgt := 33) dX11_outerBut_27 (by decide) (fun h27 => ?_) (fun h27 => ?_)) | ((with_reducible refine mk_ms ?_); refine s_icmp_ne (tgt := 33) dX11_outerBut_27 (by decide) (by omega) (fun h27 => ?_) (fun h27 => ?_)) | ((with_reducible refine mk_mn ?_); refine q_icmp_ne (tgt := 33) dX11_outerBut_27 (by decide) (by omega) (fun h27 => ?_) (fun h27 => ?_)) | ((with_reducible refine mk_nn ?_); refine n_icmp_ne (tgt := 33) dX11_outerBut_27 (by decide) (by omega) (by omega) (fun h27 => ?_) (fun h27 => ?_)) | refine e_icmp_ne (tgt := 33) dX11_outerBut_27 (by decide) (fun h27 => ?_) (fun h27 => ?_)
              · try first | contradiction | omega
                all_goals
                  refine e_iload_n dX11_outerBut_33 rfl rfl ?_
                  refine e_iconst (v := -1) dX11_outerBut_34 rfl ?_
                  first | ((with_reducible refine mk_mo ?_); refine p_icmp_eq (tgt := 75) dX11_outerBut_35 (by decide) (fun h35 => ?_) (fun h35 => ?_)) | ((with_reducible refine mk_ms ?_); refine s_icmp_eq (tgt := 75) dX11_outerBut_35 (by decide) (by omega) (fun h35 => ?_) (fun h35 => ?_)) | ((with_reducible refine mk_mn ?_); refine q_icmp_eq (tgt := 75) dX11_outerBut_35 (by decide) (by omega) (fun h35 => ?_) (fun h35 => ?_)) | ((with_reducible refine mk_nn ?_); refine n_icmp_eq (tgt := 75) dX11_outerBut_35 (by decide) (by omega) (by omega) (fun h35 => ?_) (fun h35 => ?_)) | refine e_icmp_eq (tgt := 75) dX11_outerBut_35 (by decide) (fun h35 => ?_) (fun h35 => ?_)
                  · try first | contradiction | omega
                    all_goals
                      refine e_iload dX11_outerBut_75 rfl ?_
                      refine e_istore_n dX11_outerBut_77 rfl (Nat.le_of_ble_eq_true rfl) rfl ?_
                      first | refine n_inc dX11_outerBut_78 rfl (Nat.le_of_ble_eq_true rfl) rfl ?_ | refine e_iinc dX11_outerBut_78 rfl rfl (Nat.le_of_ble_eq_true rfl) rfl ?_
                      refine e_goto (tgt := 5) dX11_outerBut_81 (by decide) ?_
                      first | (rw [bst_f (c := fun s => decide (w (4 + s) ≠ 0) && decide (s ≠ u)) (b := fun s q => decide (ldF w s < ldF w q)) (n := j) (by grind), hb] at ih; exact ih) | (rw [bst_0 (c := fun s => decide (w (4 + s) ≠ 0) && decide (s ≠ u)) (b := fun s q => decide (ldF w s < ldF w q)) (n := j) (by grind) hb] at ih; exact ih)
                  · try first | contradiction | omega
                    all_goals
                      refine e_iload_n dX11_outerBut_38 rfl rfl ?_
                      first | ((with_reducible refine mk_b ?_); refine b_if_eq (tgt := 60) dX11_outerBut_39 (by decide) (fun h39 => ?_) (fun h39 => ?_)) | ((with_reducible refine mk_ll ?_); refine m_if_eq (tgt := 60) dX11_outerBut_39 (by decide) (by omega) (by omega) (fun h39 => ?_) (fun h39 => ?_)) | ((with_reducible refine mk_lc ?_); refine l_if_eq (tgt := 60) dX11_outerBut_39 (by decide) (fun h39 => ?_) (fun h39 => ?_)) | ((with_reducible refine mk_n ?_); refine n_if_eq (tgt := 60) dX11_outerBut_39 (by decide) (by omega) (fun h39 => ?_) (fun h39 => ?_)) | refine e_if_eq (tgt := 60) dX11_outerBut_39 (by decide) (fun h39 => ?_) (fun h39 => ?_)
                      · try first | contradiction | omega
                        all_goals
                          refine e_aload_n dX11_outerBut_60 rfl rfl ?_
                          refine e_iload dX11_outerBut_61 rfl ?_
                          refine x_V1 (M' := mX11_loadOf) dX11_outerBut_63 ml_X11_337 ok_X11_loadOf (by decide) rfl im_X11_loadOf se_X11_loadOf (ct_X11_loadOf ‹_› ‹_› (by omega)) (Nat.le_of_ble_eq_true rfl) (by decide) (Nat.le_of_ble_eq_true rfl) ?_
                          refine e_aload_n dX11_outerBut_66 rfl rfl ?_
                          refine e_iload_n dX11_outerBut_67 rfl rfl ?_
                          refine x_V1 (M' := mX11_loadOf) dX11_outerBut_68 ml_X11_337 ok_X11_loadOf (by decide) rfl im_X11_loadOf se_X11_loadOf (ct_X11_loadOf ‹_› ‹_› (by omega)) (Nat.le_of_ble_eq_true rfl) (by decide) (Nat.le_of_ble_eq_true rfl) ?_
                          refine e_lcmp dX11_outerBut_71 ?_
                          first | ((with_reducible refine mk_ll ?_); refine m_if_ge (tgt := 78) dX11_outerBut_72 (by decide) (by omega) (by omega) (fun h72 => ?_) (fun h72 => ?_)) | ((with_reducible refine mk_lc ?_); refine l_if_ge (tgt := 78) dX11_outerBut_72 (by decide) (fun h72 => ?_) (fun h72 => ?_)) | ((with_reducible refine mk_n ?_); refine n_if_ge (tgt := 78) dX11_outerBut_72 (by decide) (by omega) (fun h72 => ?_) (fun h72 => ?_)) | refine e_if_ge (tgt := 78) dX11_outerBut_72 (by decide) (fun h72 => ?_) (fun h72 => ?_)
                          · try first | contradiction | omega
                            all_goals
                              first | refine n_inc dX11_outerBut_78 rfl (Nat.le_of_ble_eq_true rfl) rfl ?_ | refine e_iinc dX11_outerBut_78 rfl rfl (Nat.le_of_ble_eq_true rfl) rfl ?_
                              refine e_goto (tgt := 5) dX11_outerBut_81 (by decide) ?_
                              first | (rw [bst_f (c := fun s => decide (w (4 + s) ≠ 0) && decide (s ≠ u)) (b := fun s q => decide (ldF w s < ldF w q)) (n := j) (by grind), hb] at ih; exact ih) | (rw [bst_0 (c := fun s => decide (w (4 + s) ≠ 0) && decide (s ≠ u)) (b := fun s q => decide (ldF w s < ldF w q)) (n := j) (by grind) hb] at ih; exact ih)
                          · try first | contradiction | omega
                            all_goals
                              refine e_iload dX11_outerBut_75 rfl ?_
                              refine e_istore_n dX11_outerBut_77 rfl (Nat.le_of_ble_eq_true rfl) rfl ?_
                              first | refine n_inc dX11_outerBut_78 rfl (Nat.le_of_ble_eq_true rfl) rfl ?_ | refine e_iinc dX11_outerBut_78 rfl rfl (Nat.le_of_ble_eq_true rfl) rfl ?_
                              refine e_goto (tgt := 5) dX11_outerBut_81 (by decide) ?_
                              first | (rw [bst_f (c := fun s => decide (w (4 + s) ≠ 0) && decide (s ≠ u)) (b := fun s q => decide (ldF w s < ldF w q)) (n := j) (by grind), hb] at ih; exact ih) | (rw [bst_0 (c := fun s => decide (w (4 + s) ≠ 0) && decide (s ≠ u)) (b := fun s q => decide (ldF w s < ldF w q)) (n := j) (by grind) hb] at ih; exact ih)
                      · try first | contradiction | omega
                        all_goals
                          refine e_aload_n dX11_outerBut_42 rfl rfl ?_
                          refine e_iload dX11_outerBut_43 rfl ?_
                          refine x_V1 (M' := mX11_loadOf) dX11_outerBut_45 ml_X11_337 ok_X11_loadOf (by decide) rfl im_X11_loadOf se_X11_loadOf (ct_X11_loadOf ‹_› ‹_› (by omega)) (Nat.le_of_ble_eq_true rfl) (by decide) (Nat.le_of_ble_eq_true rfl) ?_
                          refine e_aload_n dX11_outerBut_48 rfl rfl ?_
                          refine e_iload_n dX11_outerBut_49 rfl rfl ?_
                          refine x_V1 (M' := mX11_loadOf) dX11_outerBut_50 ml_X11_337 ok_X11_loadOf (by decide) rfl im_X11_loadOf se_X11_loadOf (ct_X11_loadOf ‹_› ‹_› (by omega)) (Nat.le_of_ble_eq_true rfl) (by decide) (Nat.le_of_ble_eq_true rfl) ?_
                          refine e_lcmp dX11_outerBut_53 ?_
                          first | ((with_reducible refine mk_ll ?_); refine m_if_le (tgt := 78) dX11_outerBut_54 (by decide) (by omega) (by omega) (fun h54 => ?_) (fun h54 => ?_)) | ((with_reducible refine mk_lc ?_); refine l_if_le (tgt := 78) dX11_outerBut_54 (by decide) (fun h54 => ?_) (fun h54 => ?_)) | ((with_reducible refine mk_n ?_); refine n_if_le (tgt := 78) dX11_outerBut_54 (by decide) (by omega) (fun h54 => ?_) (fun h54 => ?_)) | refine e_if_le (tgt := 78) dX11_outerBut_54 (by decide) (fun h54 => ?_) (fun h54 => ?_)
                          · try first | contradiction | omega
                            all_goals
                              first | refine n_inc dX11_outerBut_78 rfl (Nat.le_of_ble_eq_true rfl) rfl ?_ | refine e_iinc dX11_outerBut_78 rfl rfl (Nat.le_of_ble_eq_true rfl) rfl ?_
                              refine e_goto (tgt := 5) dX11_outerBut_81 (by decide) ?_
                              first | (rw [bst_f (c := fun s => decide (w (4 + s) ≠ 0) && decide (s ≠ u)) (b := fun s q => decide (ldF w s < ldF w q)) (n := j) (by grind), hb] at ih; exact ih) | (rw [bst_0 (c := fun s => decide (w (4 + s) ≠ 0) && decide (s ≠ u)) (b := fun s q => decide (ldF w s < ldF w q)) (n := j) (by grind) hb] at ih; exact ih)
                          · try first | contradiction | omega
                            all_goals
                              refine e_goto (tgt := 75) dX11_outerBut_57 (by decide) ?_
                              refine e_iload dX11_outerBut_75 rfl ?_
                              refine e_istore_n dX11_outerBut_77 rfl (Nat.le_of_ble_eq_true rfl) rfl ?_
                              first | refine n_inc dX11_outerBut_78 rfl (Nat.le_of_ble_eq_true rfl) rfl ?_ | refine e_iinc dX11_outerBut_78 rfl rfl (Nat.le_of_ble_eq_true rfl) rfl ?_
                              refine e_goto (tgt := 5) dX11_outerBut_81 (by decide) ?_
                              first | (rw [bst_f (c := fun s => decide (w (4 + s) ≠ 0) && decide (s ≠ u)) (b := fun s q => decide (ldF w s < ldF w q)) (n := j) (by grind), hb] at ih; exact ih) | (rw [bst_0 (c := fun s => decide (w (4 + s) ≠ 0) && decide (s ≠ u)) (b := fun s q => decide (ldF w s < ldF w q)) (n := j) (by grind) hb] at ih; exact ih)
              · try first | contradiction | omega
                all_goals
                  refine e_goto (tgt := 78) dX11_outerBut_30 (by decide) ?_
                  first | refine n_inc dX11_outerBut_78 rfl (Nat.le_of_ble_eq_true rfl) rfl ?_ | refine e_iinc dX11_outerBut_78 rfl rfl (Nat.le_of_ble_eq_true rfl) rfl ?_
                  refine e_goto (tgt := 5) dX11_outerBut_81 (by decide) ?_
                  first | (rw [bst_f (c := fun s => decide (w (4 + s) ≠ 0) && decide (s ≠ u)) (b := fun s q => decide (ldF w s < ldF w q)) (n := j) (by grind), hb] at ih; exact ih) | (rw [bst_0 (c := fun s => decide (w (4 + s) ≠ 0) && decide (s ≠ u)) (b := fun s q => decide (ldF w s < ldF w q)) (n := j) (by grind) hb] at ih; exact ih)
    | some q =>
      have hq := (bst_in hb).1
      have hqc := (bst_in hb).2
      rw [oI_s]
      have hld2 := ldF_le iv q
      refine e_iload dX11_outerBut_5 rfl ?_
      refine e_bipush (v := nI 6) dX11_outerBut_7 rfl ?_
      first | ((with_reducible refine mk_nn ?_); refine n_icmp_ge (tgt := 84) dX11_outerBut_9 (by decide) (by omega) (by omega) (fun h9 => ?_) (fun h9 => ?_)) | refine e_icmp_ge (tgt := 84) dX11_outerBut_9 (by decide) (fun h9 => ?_) (fun h9 => ?_)
      · try first | contradiction | omega
        all_goals
          refine e_iload_n dX11_outerBut_84 rfl rfl ?_
          refine e_ret (some _) rfl (r_int dX11_outerBut_85 rfl) ?_
          exact xq (by first | rfl | simp_all [bI_t, bI_f]) rfl rfl rfl rfl rfl
      · try first | contradiction | omega
        all_goals
          refine e_aload_n dX11_outerBut_12 rfl rfl ?_
          refine e_getR dX11_outerBut_13 fl_X11_7 rfl (by assumption) ?_
          refine e_iconst (v := nI 4) dX11_outerBut_16 rfl ?_
          refine e_iload dX11_outerBut_17 rfl ?_
          first | ((with_reducible refine mk_nn ?_); refine n_iadd dX11_outerBut_19 ?_) | refine e_iadd dX11_outerBut_19 ?_
          first | ((with_reducible refine mk_ldw ?_); refine e_ldw dX11_outerBut_20 (by omega) ?_) | refine e_iald _ dX11_outerBut_20 ⟨by decide, by decide⟩ rfl rfl (by simp only [lenK]; omega) ?_
          first | ((with_reducible refine mk_b ?_); refine b_if_eq (tgt := 78) dX11_outerBut_21 (by decide) (fun h21 => ?_) (fun h21 => ?_)) | ((with_reducible refine mk_ll ?_); refine m_if_eq (tgt := 78) dX11_outerBut_21 (by decide) (by omega) (by omega) (fun h21 => ?_) (fun h21 => ?_)) | ((with_reducible refine mk_lc ?_); refine l_if_eq (tgt := 78) dX11_outerBut_21 (by decide) (fun h21 => ?_) (fun h21 => ?_)) | ((with_reducible refine mk_n ?_); refine n_if_eq (tgt := 78) dX11_outerBut_21 (by decide) (by omega) (fun h21 => ?_) (fun h21 => ?_)) | refine e_if_eq (tgt := 78) dX11_outerBut_21 (by decide) (fun h21 => ?_) (fun h21 => ?_)
          · try first | contradiction | omega
            all_goals
              first | refine n_inc dX11_outerBut_78 rfl (Nat.le_of_ble_eq_true rfl) rfl ?_ | refine e_iinc dX11_outerBut_78 rfl rfl (Nat.le_of_ble_eq_true rfl) rfl ?_
              refine e_goto (tgt := 5) dX11_outerBut_81 (by decide) ?_
              first | (rw [bst_f (c := fun s => decide (w (4 + s) ≠ 0) && decide (s ≠ u)) (b := fun s q => decide (ldF w s < ldF w q)) (n := j) (by grind), hb] at ih; exact ih) | (rw [bst_0 (c := fun s => decide (w (4 + s) ≠ 0) && decide (s ≠ u)) (b := fun s q => decide (ldF w s < ldF w q)) (n := j) (by grind) hb] at ih; exact ih) | (rw [bst_1 (c := fun s => decide (w (4 + s) ≠ 0) && decide (s ≠ u)) (b := fun s q => decide (ldF w s < ldF w q)) (n := j) (by grind) hb (by grind)] at ih; exact ih) | (rw [bst_2 (c := fun s => decide (w (4 + s) ≠ 0) && decide (s ≠ u)) (b := fun s q => decide (ldF w s < ldF w q)) (n := j) (by grind) hb (by grind)] at ih; exact ih)
          · try first | contradiction | omega
            all_goals
              refine e_iload dX11_outerBut_24 rfl ?_
              refine e_iload_n dX11_outerBut_26 rfl rfl ?_
              first | ((with_reducible refine mk_mo ?_); refine p_icmp_ne (tgt := 33) dX11_outerBut_27 (by decide) (fun h27 => ?_) (fun h27 => ?_)) | ((with_reducible refine mk_ms ?_); refine s_icmp_ne (tgt := 33) dX11_outerBut_27 (by decide) (by omega) (fun h27 => ?_) (fun h27 => ?_)) | ((with_reducible refine mk_mn ?_); refine q_icmp_ne (tgt := 33) dX11_outerBut_27 (by decide) (by omega) (fun h27 => ?_) (fun h27 => ?_)) | ((with_reducible refine mk_nn ?_); refine n_icmp_ne (tgt := 33) dX11_outerBut_27 (by decide) (by omega) (by omega) (fun h27 => ?_) (fun h27 => ?_)) | refine e_icmp_ne (tgt := 33) dX11_outerBut_27 (by decide) (fun h27 => ?_) (fun h27 => ?_)
              · try first | contradiction | omega
                all_goals
                  refine e_iload_n dX11_outerBut_33 rfl rfl ?_
                  refine e_iconst (v := -1) dX11_outerBut_34 rfl ?_
                  first | ((with_reducible refine mk_mo ?_); refine p_icmp_eq (tgt := 75) dX11_outerBut_35 (by decide) (fun h35 => ?_) (fun h35 => ?_)) | ((with_reducible refine mk_ms ?_); refine s_icmp_eq (tgt := 75) dX11_outerBut_35 (by decide) (by omega) (fun h35 => ?_) (fun h35 => ?_)) | ((with_reducible refine mk_mn ?_); refine q_icmp_eq (tgt := 75) dX11_outerBut_35 (by decide) (by omega) (fun h35 => ?_) (fun h35 => ?_)) | ((with_reducible refine mk_nn ?_); refine n_icmp_eq (tgt := 75) dX11_outerBut_35 (by decide) (by omega) (by omega) (fun h35 => ?_) (fun h35 => ?_)) | refine e_icmp_eq (tgt := 75) dX11_outerBut_35 (by decide) (fun h35 => ?_) (fun h35 => ?_)
                  · try first | contradiction | omega
                    all_goals
                      refine e_iload dX11_outerBut_75 rfl ?_
                      refine e_istore_n dX11_outerBut_77 rfl (Nat.le_of_ble_eq_true rfl) rfl ?_
                      first | refine n_inc dX11_outerBut_78 rfl (Nat.le_of_ble_eq_true rfl) rfl ?_ | refine e_iinc dX11_outerBut_78 rfl rfl (Nat.le_of_ble_eq_true rfl) rfl ?_
                      refine e_goto (tgt := 5) dX11_outerBut_81 (by decide) ?_
                      first | (rw [bst_f (c := fun s => decide (w (4 + s) ≠ 0) && decide (s ≠ u)) (b := fun s q => decide (ldF w s < ldF w q)) (n := j) (by grind), hb] at ih; exact ih) | (rw [bst_0 (c := fun s => decide (w (4 + s) ≠ 0) && decide (s ≠ u)) (b := fun s q => decide (ldF w s < ldF w q)) (n := j) (by grind) hb] at ih; exact ih) | (rw [bst_1 (c := fun s => decide (w (4 + s) ≠ 0) && decide (s ≠ u)) (b := fun s q => decide (ldF w s < ldF w q)) (n := j) (by grind) hb (by grind)] at ih; exact ih) | (rw [bst_2 (c := fun s => decide (w (4 + s) ≠ 0) && decide (s ≠ u)) (b := fun s q => decide (ldF w s < ldF w q)) (n := j) (by grind) hb (by grind)] at ih; exact ih)
                  · try first | contradiction | omega
                    all_goals
                      refine e_iload_n dX11_outerBut_38 rfl rfl ?_
                      first | ((with_reducible refine mk_b ?_); refine b_if_eq (tgt := 60) dX11_outerBut_39 (by decide) (fun h39 => ?_) (fun h39 => ?_)) | ((with_reducible refine mk_ll ?_); refine m_if_eq (tgt := 60) dX11_outerBut_39 (by decide) (by omega) (by omega) (fun h39 => ?_) (fun h39 => ?_)) | ((with_reducible refine mk_lc ?_); refine l_if_eq (tgt := 60) dX11_outerBut_39 (by decide) (fun h39 => ?_) (fun h39 => ?_)) | ((with_reducible refine mk_n ?_); refine n_if_eq (tgt := 60) dX11_outerBut_39 (by decide) (by omega) (fun h39 => ?_) (fun h39 => ?_)) | refine e_if_eq (tgt := 60) dX11_outerBut_39 (by decide) (fun h39 => ?_) (fun h39 => ?_)
                      · try first | contradiction | omega
                        all_goals
                          refine e_aload_n dX11_outerBut_60 rfl rfl ?_
                          refine e_iload dX11_outerBut_61 rfl ?_
                          refine x_V1 (M' := mX11_loadOf) dX11_outerBut_63 ml_X11_337 ok_X11_loadOf (by decide) rfl im_X11_loadOf se_X11_loadOf (ct_X11_loadOf ‹_› ‹_› (by omega)) (Nat.le_of_ble_eq_true rfl) (by decide) (Nat.le_of_ble_eq_true rfl) ?_
                          refine e_aload_n dX11_outerBut_66 rfl rfl ?_
                          refine e_iload_n dX11_outerBut_67 rfl rfl ?_
                          refine x_V1 (M' := mX11_loadOf) dX11_outerBut_68 ml_X11_337 ok_X11_loadOf (by decide) rfl im_X11_loadOf se_X11_loadOf (ct_X11_loadOf ‹_› ‹_› (by omega)) (Nat.le_of_ble_eq_true rfl) (by decide) (Nat.le_of_ble_eq_true rfl) ?_
                          refine e_lcmp dX11_outerBut_71 ?_
                          first | ((with_reducible refine mk_ll ?_); refine m_if_ge (tgt := 78) dX11_outerBut_72 (by decide) (by omega) (by omega) (fun h72 => ?_) (fun h72 => ?_)) | ((with_reducible refine mk_lc ?_); refine l_if_ge (tgt := 78) dX11_outerBut_72 (by decide) (fun h72 => ?_) (fun h72 => ?_)) | ((with_reducible refine mk_n ?_); refine n_if_ge (tgt := 78) dX11_outerBut_72 (by decide) (by omega) (fun h72 => ?_) (fun h72 => ?_)) | refine e_if_ge (tgt := 78) dX11_outerBut_72 (by decide) (fun h72 => ?_) (fun h72 => ?_)
                          · try first | contradiction | omega
                            all_goals
                              first | refine n_inc dX11_outerBut_78 rfl (Nat.le_of_ble_eq_true rfl) rfl ?_ | refine e_iinc dX11_outerBut_78 rfl rfl (Nat.le_of_ble_eq_true rfl) rfl ?_
                              refine e_goto (tgt := 5) dX11_outerBut_81 (by decide) ?_
                              first | (rw [bst_f (c := fun s => decide (w (4 + s) ≠ 0) && decide (s ≠ u)) (b := fun s q => decide (ldF w s < ldF w q)) (n := j) (by grind), hb] at ih; exact ih) | (rw [bst_0 (c := fun s => decide (w (4 + s) ≠ 0) && decide (s ≠ u)) (b := fun s q => decide (ldF w s < ldF w q)) (n := j) (by grind) hb] at ih; exact ih) | (rw [bst_1 (c := fun s => decide (w (4 + s) ≠ 0) && decide (s ≠ u)) (b := fun s q => decide (ldF w s < ldF w q)) (n := j) (by grind) hb (by grind)] at ih; exact ih) | (rw [bst_2 (c := fun s => decide (w (4 + s) ≠ 0) && decide (s ≠ u)) (b := fun s q => decide (ldF w s < ldF w q)) (n := j) (by grind) hb (by grind)] at ih; exact ih)
                          · try first | contradiction | omega
                            all_goals
                              refine e_iload dX11_outerBut_75 rfl ?_
                              refine e_istore_n dX11_outerBut_77 rfl (Nat.le_of_ble_eq_true rfl) rfl ?_
                              first | refine n_inc dX11_outerBut_78 rfl (Nat.le_of_ble_eq_true rfl) rfl ?_ | refine e_iinc dX11_outerBut_78 rfl rfl (Nat.le_of_ble_eq_true rfl) rfl ?_
                              refine e_goto (tgt := 5) dX11_outerBut_81 (by decide) ?_
                              first | (rw [bst_f (c := fun s => decide (w (4 + s) ≠ 0) && decide (s ≠ u)) (b := fun s q => decide (ldF w s < ldF w q)) (n := j) (by grind), hb] at ih; exact ih) | (rw [bst_0 (c := fun s => decide (w (4 + s) ≠ 0) && decide (s ≠ u)) (b := fun s q => decide (ldF w s < ldF w q)) (n := j) (by grind) hb] at ih; exact ih) | (rw [bst_1 (c := fun s => decide (w (4 + s) ≠ 0) && decide (s ≠ u)) (b := fun s q => decide (ldF w s < ldF w q)) (n := j) (by grind) hb (by grind)] at ih; exact ih) | (rw [bst_2 (c := fun s => decide (w (4 + s) ≠ 0) && decide (s ≠ u)) (b := fun s q => decide (ldF w s < ldF w q)) (n := j) (by grind) hb (by grind)] at ih; exact ih)
                      · try first | contradiction | omega
                        all_goals
                          refine e_aload_n dX11_outerBut_42 rfl rfl ?_
                          refine e_iload dX11_outerBut_43 rfl ?_
                          refine x_V1 (M' := mX11_loadOf) dX11_outerBut_45 ml_X11_337 ok_X11_loadOf (by decide) rfl im_X11_loadOf se_X11_loadOf (ct_X11_loadOf ‹_› ‹_› (by omega)) (Nat.le_of_ble_eq_true rfl) (by decide) (Nat.le_of_ble_eq_true rfl) ?_
                          refine e_aload_n dX11_outerBut_48 rfl rfl ?_
                          refine e_iload_n dX11_outerBut_49 rfl rfl ?_
                          refine x_V1 (M' := mX11_loadOf) dX11_outerBut_50 ml_X11_337 ok_X11_loadOf (by decide) rfl im_X11_loadOf se_X11_loadOf (ct_X11_loadOf ‹_› ‹_› (by omega)) (Nat.le_of_ble_eq_true rfl) (by decide) (Nat.le_of_ble_eq_true rfl) ?_
                          refine e_lcmp dX11_outerBut_53 ?_
                          first | ((with_reducible refine mk_ll ?_); refine m_if_le (tgt := 78) dX11_outerBut_54 (by decide) (by omega) (by omega) (fun h54 => ?_) (fun h54 => ?_)) | ((with_reducible refine mk_lc ?_); refine l_if_le (tgt := 78) dX11_outerBut_54 (by decide) (fun h54 => ?_) (fun h54 => ?_)) | ((with_reducible refine mk_n ?_); refine n_if_le (tgt := 78) dX11_outerBut_54 (by decide) (by omega) (fun h54 => ?_) (fun h54 => ?_)) | refine e_if_le (tgt := 78) dX11_outerBut_54 (by decide) (fun h54 => ?_) (fun h54 => ?_)
                          · try first | contradiction | omega
                            all_goals
                              first | refine n_inc dX11_outerBut_78 rfl (Nat.le_of_ble_eq_true rfl) rfl ?_ | refine e_iinc dX11_outerBut_78 rfl rfl (Nat.le_of_ble_eq_true rfl) rfl ?_
                              refine e_goto (tgt := 5) dX11_outerBut_81 (by decide) ?_
                              first | (rw [bst_f (c := fun s => decide (w (4 + s) ≠ 0) && decide (s ≠ u)) (b := fun s q => decide (ldF w s < ldF w q)) (n := j) (by grind), hb] at ih; exact ih) | (rw [bst_0 (c := fun s => decide (w (4 + s) ≠ 0) && decide (s ≠ u)) (b := fun s q => decide (ldF w s < ldF w q)) (n := j) (by grind) hb] at ih; exact ih) | (rw [bst_1 (c := fun s => decide (w (4 + s) ≠ 0) && decide (s ≠ u)) (b := fun s q => decide (ldF w s < ldF w q)) (n := j) (by grind) hb (by grind)] at ih; exact ih) | (rw [bst_2 (c := fun s => decide (w (4 + s) ≠ 0) && decide (s ≠ u)) (b := fun s q => decide (ldF w s < ldF w q)) (n := j) (by grind) hb (by grind)] at ih; exact ih)
                          · try first | contradiction | omega
                            all_goals
                              refine e_goto (tgt := 75) dX11_outerBut_57 (by decide) ?_
                              refine e_iload dX11_outerBut_75 rfl ?_
                              refine e_istore_n dX11_outerBut_77 rfl (Nat.le_of_ble_eq_true rfl) rfl ?_
                              first | refine n_inc dX11_outerBut_78 rfl (Nat.le_of_ble_eq_true rfl) rfl ?_ | refine e_iinc dX11_outerBut_78 rfl rfl (Nat.le_of_ble_eq_true rfl) rfl ?_
                              refine e_goto (tgt := 5) dX11_outerBut_81 (by decide) ?_
                              first | (rw [bst_f (c := fun s => decide (w (4 + s) ≠ 0) && decide (s ≠ u)) (b := fun s q => decide (ldF w s < ldF w q)) (n := j) (by grind), hb] at ih; exact ih) | (rw [bst_0 (c := fun s => decide (w (4 + s) ≠ 0) && decide (s ≠ u)) (b := fun s q => decide (ldF w s < ldF w q)) (n := j) (by grind) hb] at ih; exact ih) | (rw [bst_1 (c := fun s => decide (w (4 + s) ≠ 0) && decide (s ≠ u)) (b := fun s q => decide (ldF w s < ldF w q)) (n := j) (by grind) hb (by grind)] at ih; exact ih) | (rw [bst_2 (c := fun s => decide (w (4 + s) ≠ 0) && decide (s ≠ u)) (b := fun s q => decide (ldF w s < ldF w q)) (n := j) (by grind) hb (by grind)] at ih; exact ih)
              · try first | contradiction | omega
                all_goals
                  refine e_goto (tgt := 78) dX11_outerBut_30 (by decide) ?_
                  first | refine n_inc dX11_outerBut_78 rfl (Nat.le_of_ble_eq_true rfl) rfl ?_ | refine e_iinc dX11_outerBut_78 rfl rfl (Nat.le_of_ble_eq_true rfl) rfl ?_
                  refine e_goto (tgt := 5) dX11_outerBut_81 (by decide) ?_
                  first | (rw [bst_f (c := fun s => decide (w (4 + s) ≠ 0) && decide (s ≠ u)) (b := fun s q => decide (ldF w s < ldF w q)) (n := j) (by grind), hb] at ih; exact ih) | (rw [bst_0 (c := fun s => decide (w (4 + s) ≠ 0) && decide (s ≠ u)) (b := fun s q => decide (ldF w s < ldF w q)) (n := j) (by grind) hb] at ih; exact ih) | (rw [bst_1 (c := fun s => decide (w (4 + s) ≠ 0) && decide (s ≠ u)) (b := fun s q => decide (ldF w s < ldF w q)) (n := j) (by grind) hb (by grind)] at ih; exact ih) | (rw [bst_2 (c := fun s => decide (w (4 + s) ≠ 0) && decide (s ≠ u)) (b := fun s q => decide (ldF w s < ldF w q)) (n := j) (by grind) hb (by grind)] at ih; exact ih)
    ) (by
    refine e_iload dX11_outerBut_5 rfl ?_
    refine e_bipush (v := nI 6) dX11_outerBut_7 rfl ?_
    first | ((with_reducible refine mk_nn ?_); refine n_icmp_ge (tgt := 84) dX11_outerBut_9 (by decide) (by omega) (by omega) (fun h9 => ?_) (fun h9 => ?_)) | refine e_icmp_ge (tgt := 84) dX11_outerBut_9 (by decide) (fun h9 => ?_) (fun h9 => ?_)
    · try first | contradiction | omega
      all_goals
        refine e_iload_n dX11_outerBut_84 rfl rfl ?_
        refine e_ret (some _) rfl (r_int dX11_outerBut_85 rfl) ?_
        exact xq rfl rfl rfl rfl rfl rfl
    · try first | contradiction | omega
      all_goals
        refine e_aload_n dX11_outerBut_12 rfl rfl ?_
        refine e_getR dX11_outerBut_13 fl_X11_7 rfl (by assumption) ?_
        refine e_iconst (v := nI 4) dX11_outerBut_16 rfl ?_
        refine e_iload dX11_outerBut_17 rfl ?_
        first | ((with_reducible refine mk_nn ?_); refine n_iadd dX11_outerBut_19 ?_) | refine e_iadd dX11_outerBut_19 ?_
        first | ((with_reducible refine mk_ldw ?_); refine e_ldw dX11_outerBut_20 (by omega) ?_) | refine e_iald _ dX11_outerBut_20 ⟨by decide, by decide⟩ rfl rfl (by simp only [lenK]; omega) ?_
        first | ((with_reducible refine mk_b ?_); refine b_if_eq (tgt := 78) dX11_outerBut_21 (by decide) (fun h21 => ?_) (fun h21 => ?_)) | ((with_reducible refine mk_ll ?_); refine m_if_eq (tgt := 78) dX11_outerBut_21 (by decide) (by omega) (by omega) (fun h21 => ?_) (fun h21 => ?_)) | ((with_reducible refine mk_lc ?_); refine l_if_eq (tgt := 78) dX11_outerBut_21 (by decide) (fun h21 => ?_) (fun h21 => ?_)) | ((with_reducible refine mk_n ?_); refine n_if_eq (tgt := 78) dX11_outerBut_21 (by decide) (by omega) (fun h21 => ?_) (fun h21 => ?_)) | refine e_if_eq (tgt := 78) dX11_outerBut_21 (by decide) (fun h21 => ?_) (fun h21 => ?_)
        · try first | contradiction | omega
          all_goals
            first | refine n_inc dX11_outerBut_78 rfl (Nat.le_of_ble_eq_true rfl) rfl ?_ | refine e_iinc dX11_outerBut_78 rfl rfl (Nat.le_of_ble_eq_true rfl) rfl ?_
            refine e_goto (tgt := 5) dX11_outerBut_81 (by decide) ?_
            first | (rw [bst_f (c := fun s => decide (w (4 + s) ≠ 0) && decide (s ≠ u)) (b := fun s q => decide (ldF w s < ldF w q)) (n := j) (by grind), hb] at ih; exact ih) | (rw [bst_0 (c := fun s => decide (w (4 + s) ≠ 0) && decide (s ≠ u)) (b := fun s q => decide (ldF w s < ldF w q)) (n := j) (by grind) hb] at ih; exact ih) | (rw [bst_1 (c := fun s => decide (w (4 + s) ≠ 0) && decide (s ≠ u)) (b := fun s q => decide (ldF w s < ldF w q)) (n := j) (by grind) hb (by grind)] at ih; exact ih) | (rw [bst_2 (c := fun s => decide (w (4 + s) ≠ 0) && decide (s ≠ u)) (b := fun s q => decide (ldF w s < ldF w q)) (n := j) (by grind) hb (by grind)] at ih; exact ih)
        · try first | contradiction | omega
          all_goals
            refine e_iload dX11_outerBut_24 rfl ?_
            refine e_iload_n dX11_outerBut_26 rfl rfl ?_
            first | ((with_reducible refine mk_mo ?_); refine p_icmp_ne (tgt := 33) dX11_outerBut_27 (by decide) (fun h27 => ?_) (fun h27 => ?_)) | ((with_reducible refine mk_ms ?_); refine s_icmp_ne (tgt := 33) dX11_outerBut_27 (by decide) (by omega) (fun h27 => ?_) (fun h27 => ?_)) | ((with_reducible refine mk_mn ?_); refine q_icmp_ne (tgt := 33) dX11_outerBut_27 (by decide) (by omega) (fun h27 => ?_) (fun h27 => ?_)) | ((with_reducible refine mk_nn ?_); refine n_icmp_ne (tgt := 33) dX11_outerBut_27 (by decide) (by omega) (by omega) (fun h27 => ?_) (fun h27 => ?_)) | refine e_icmp_ne (tgt := 33) dX11_outerBut_27 (by decide) (fun h27 => ?_) (fun h27 => ?_)
            · try first | contradiction | omega
              all_goals
                refine e_iload_n dX11_outerBut_33 rfl rfl ?_
                refine e_iconst (v := -1) dX11_outerBut_34 rfl ?_
                first | ((with_reducible refine mk_mo ?_); refine p_icmp_eq (tgt := 75) dX11_outerBut_35 (by decide) (fun h35 => ?_) (fun h35 => ?_)) | ((with_reducible refine mk_ms ?_); refine s_icmp_eq (tgt := 75) dX11_outerBut_35 (by decide) (by omega) (fun h35 => ?_) (fun h35 => ?_)) | ((with_reducible refine mk_mn ?_); refine q_icmp_eq (tgt := 75) dX11_outerBut_35 (by decide) (by omega) (fun h35 => ?_) (fun h35 => ?_)) | ((with_reducible refine mk_nn ?_); refine n_icmp_eq (tgt := 75) dX11_outerBut_35 (by decide) (by omega) (by omega) (fun h35 => ?_) (fun h35 => ?_)) | refine e_icmp_eq (tgt := 75) dX11_outerBut_35 (by decide) (fun h35 => ?_) (fun h35 => ?_)
                · try first | contradiction | omega
                  all_goals
                    refine e_iload dX11_outerBut_75 rfl ?_
                    refine e_istore_n dX11_outerBut_77 rfl (Nat.le_of_ble_eq_true rfl) rfl ?_
                    first | refine n_inc dX11_outerBut_78 rfl (Nat.le_of_ble_eq_true rfl) rfl ?_ | refine e_iinc dX11_outerBut_78 rfl rfl (Nat.le_of_ble_eq_true rfl) rfl ?_
                    refine e_goto (tgt := 5) dX11_outerBut_81 (by decide) ?_
                    first | (rw [bst_f (c := fun s => decide (w (4 + s) ≠ 0) && decide (s ≠ u)) (b := fun s q => decide (ldF w s < ldF w q)) (n := j) (by grind), hb] at ih; exact ih) | (rw [bst_0 (c := fun s => decide (w (4 + s) ≠ 0) && decide (s ≠ u)) (b := fun s q => decide (ldF w s < ldF w q)) (n := j) (by grind) hb] at ih; exact ih) | (rw [bst_1 (c := fun s => decide (w (4 + s) ≠ 0) && decide (s ≠ u)) (b := fun s q => decide (ldF w s < ldF w q)) (n := j) (by grind) hb (by grind)] at ih; exact ih) | (rw [bst_2 (c := fun s => decide (w (4 + s) ≠ 0) && decide (s ≠ u)) (b := fun s q => decide (ldF w s < ldF w q)) (n := j) (by grind) hb (by grind)] at ih; exact ih)
                · try first | contradiction | omega
                  all_goals
                    refine e_iload_n dX11_outerBut_38 rfl rfl ?_
                    first | ((with_reducible refine mk_b ?_); refine b_if_eq (tgt := 60) dX11_outerBut_39 (by decide) (fun h39 => ?_) (fun h39 => ?_)) | ((with_reducible refine mk_ll ?_); refine m_if_eq (tgt := 60) dX11_outerBut_39 (by decide) (by omega) (by omega) (fun h39 => ?_) (fun h39 => ?_)) | ((with_reducible refine mk_lc ?_); refine l_if_eq (tgt := 60) dX11_outerBut_39 (by decide) (fun h39 => ?_) (fun h39 => ?_)) | ((with_reducible refine mk_n ?_); refine n_if_eq (tgt := 60) dX11_outerBut_39 (by decide) (by omega) (fun h39 => ?_) (fun h39 => ?_)) | refine e_if_eq (tgt := 60) dX11_outerBut_39 (by decide) (fun h39 => ?_) (fun h39 => ?_)
                    · try first | contradiction | omega
                      all_goals
                        refine e_aload_n dX11_outerBut_60 rfl rfl ?_
                        refine e_iload dX11_outerBut_61 rfl ?_
                        refine x_V1 (M' := mX11_loadOf) dX11_outerBut_63 ml_X11_337 ok_X11_loadOf (by decide) rfl im_X11_loadOf se_X11_loadOf (ct_X11_loadOf ‹_› ‹_› (by omega)) (Nat.le_of_ble_eq_true rfl) (by decide) (Nat.le_of_ble_eq_true rfl) ?_
                        refine e_aload_n dX11_outerBut_66 rfl rfl ?_
                        refine e_iload_n dX11_outerBut_67 rfl rfl ?_
                        refine x_V1 (M' := mX11_loadOf) dX11_outerBut_68 ml_X11_337 ok_X11_loadOf (by decide) rfl im_X11_loadOf se_X11_loadOf (ct_X11_loadOf ‹_› ‹_› (by omega)) (Nat.le_of_ble_eq_true rfl) (by decide) (Nat.le_of_ble_eq_true rfl) ?_
                        refine e_lcmp dX11_outerBut_71 ?_
                        first | ((with_reducible refine mk_ll ?_); refine m_if_ge (tgt := 78) dX11_outerBut_72 (by decide) (by omega) (by omega) (fun h72 => ?_) (fun h72 => ?_)) | ((with_reducible refine mk_lc ?_); refine l_if_ge (tgt := 78) dX11_outerBut_72 (by decide) (fun h72 => ?_) (fun h72 => ?_)) | ((with_reducible refine mk_n ?_); refine n_if_ge (tgt := 78) dX11_outerBut_72 (by decide) (by omega) (fun h72 => ?_) (fun h72 => ?_)) | refine e_if_ge (tgt := 78) dX11_outerBut_72 (by decide) (fun h72 => ?_) (fun h72 => ?_)
                        · try first | contradiction | omega
                          all_goals
                            first | refine n_inc dX11_outerBut_78 rfl (Nat.le_of_ble_eq_true rfl) rfl ?_ | refine e_iinc dX11_outerBut_78 rfl rfl (Nat.le_of_ble_eq_true rfl) rfl ?_
                            refine e_goto (tgt := 5) dX11_outerBut_81 (by decide) ?_
                            first | (rw [bst_f (c := fun s => decide (w (4 + s) ≠ 0) && decide (s ≠ u)) (b := fun s q => decide (ldF w s < ldF w q)) (n := j) (by grind), hb] at ih; exact ih) | (rw [bst_0 (c := fun s => decide (w (4 + s) ≠ 0) && decide (s ≠ u)) (b := fun s q => decide (ldF w s < ldF w q)) (n := j) (by grind) hb] at ih; exact ih) | (rw [bst_1 (c := fun s => decide (w (4 + s) ≠ 0) && decide (s ≠ u)) (b := fun s q => decide (ldF w s < ldF w q)) (n := j) (by grind) hb (by grind)] at ih; exact ih) | (rw [bst_2 (c := fun s => decide (w (4 + s) ≠ 0) && decide (s ≠ u)) (b := fun s q => decide (ldF w s < ldF w q)) (n := j) (by grind) hb (by grind)] at ih; exact ih)
                        · try first | contradiction | omega
                          all_goals
                            refine e_iload dX11_outerBut_75 rfl ?_
                            refine e_istore_n dX11_outerBut_77 rfl (Nat.le_of_ble_eq_true rfl) rfl ?_
                            first | refine n_inc dX11_outerBut_78 rfl (Nat.le_of_ble_eq_true rfl) rfl ?_ | refine e_iinc dX11_outerBut_78 rfl rfl (Nat.le_of_ble_eq_true rfl) rfl ?_
                            refine e_goto (tgt := 5) dX11_outerBut_81 (by decide) ?_
                            first | (rw [bst_f (c := fun s => decide (w (4 + s) ≠ 0) && decide (s ≠ u)) (b := fun s q => decide (ldF w s < ldF w q)) (n := j) (by grind), hb] at ih; exact ih) | (rw [bst_0 (c := fun s => decide (w (4 + s) ≠ 0) && decide (s ≠ u)) (b := fun s q => decide (ldF w s < ldF w q)) (n := j) (by grind) hb] at ih; exact ih) | (rw [bst_1 (c := fun s => decide (w (4 + s) ≠ 0) && decide (s ≠ u)) (b := fun s q => decide (ldF w s < ldF w q)) (n := j) (by grind) hb (by grind)] at ih; exact ih) | (rw [bst_2 (c := fun s => decide (w (4 + s) ≠ 0) && decide (s ≠ u)) (b := fun s q => decide (ldF w s < ldF w q)) (n := j) (by grind) hb (by grind)] at ih; exact ih)
                    · try first | contradiction | omega
                      all_goals
                        refine e_aload_n dX11_outerBut_42 rfl rfl ?_
                        refine e_iload dX11_outerBut_43 rfl ?_
                        refine x_V1 (M' := mX11_loadOf) dX11_outerBut_45 ml_X11_337 ok_X11_loadOf (by decide) rfl im_X11_loadOf se_X11_loadOf (ct_X11_loadOf ‹_› ‹_› (by omega)) (Nat.le_of_ble_eq_true rfl) (by decide) (Nat.le_of_ble_eq_true rfl) ?_
                        refine e_aload_n dX11_outerBut_48 rfl rfl ?_
                        refine e_iload_n dX11_outerBut_49 rfl rfl ?_
                        refine x_V1 (M' := mX11_loadOf) dX11_outerBut_50 ml_X11_337 ok_X11_loadOf (by decide) rfl im_X11_loadOf se_X11_loadOf (ct_X11_loadOf ‹_› ‹_› (by omega)) (Nat.le_of_ble_eq_true rfl) (by decide) (Nat.le_of_ble_eq_true rfl) ?_
                        refine e_lcmp dX11_outerBut_53 ?_
                        first | ((with_reducible refine mk_ll ?_); refine m_if_le (tgt := 78) dX11_outerBut_54 (by decide) (by omega) (by omega) (fun h54 => ?_) (fun h54 => ?_)) | ((with_reducible refine mk_lc ?_); refine l_if_le (tgt := 78) dX11_outerBut_54 (by decide) (fun h54 => ?_) (fun h54 => ?_)) | ((with_reducible refine mk_n ?_); refine n_if_le (tgt := 78) dX11_outerBut_54 (by decide) (by omega) (fun h54 => ?_) (fun h54 => ?_)) | refine e_if_le (tgt := 78) dX11_outerBut_54 (by decide) (fun h54 => ?_) (fun h54 => ?_)
                        · try first | contradiction | omega
                          all_goals
                            first | refine n_inc dX11_outerBut_78 rfl (Nat.le_of_ble_eq_true rfl) rfl ?_ | refine e_iinc dX11_outerBut_78 rfl rfl (Nat.le_of_ble_eq_true rfl) rfl ?_
                            refine e_goto (tgt := 5) dX11_outerBut_81 (by decide) ?_
                            first | (rw [bst_f (c := fun s => decide (w (4 + s) ≠ 0) && decide (s ≠ u)) (b := fun s q => decide (ldF w s < ldF w q)) (n := j) (by grind), hb] at ih; exact ih) | (rw [bst_0 (c := fun s => decide (w (4 + s) ≠ 0) && decide (s ≠ u)) (b := fun s q => decide (ldF w s < ldF w q)) (n := j) (by grind) hb] at ih; exact ih) | (rw [bst_1 (c := fun s => decide (w (4 + s) ≠ 0) && decide (s ≠ u)) (b := fun s q => decide (ldF w s < ldF w q)) (n := j) (by grind) hb (by grind)] at ih; exact ih) | (rw [bst_2 (c := fun s => decide (w (4 + s) ≠ 0) && decide (s ≠ u)) (b := fun s q => decide (ldF w s < ldF w q)) (n := j) (by grind) hb (by grind)] at ih; exact ih)
                        · try first | contradiction | omega
                          all_goals
                            refine e_goto (tgt := 75) dX11_outerBut_57 (by decide) ?_
                            refine e_iload dX11_outerBut_75 rfl ?_
                            refine e_istore_n dX11_outerBut_77 rfl (Nat.le_of_ble_eq_true rfl) rfl ?_
                            first | refine n_inc dX11_outerBut_78 rfl (Nat.le_of_ble_eq_true rfl) rfl ?_ | refine e_iinc dX11_outerBut_78 rfl rfl (Nat.le_of_ble_eq_true rfl) rfl ?_
                            refine e_goto (tgt := 5) dX11_outerBut_81 (by decide) ?_
                            first | (rw [bst_f (c := fun s => decide (w (4 + s) ≠ 0) && decide (s ≠ u)) (b := fun s q => decide (ldF w s < ldF w q)) (n := j) (by grind), hb] at ih; exact ih) | (rw [bst_0 (c := fun s => decide (w (4 + s) ≠ 0) && decide (s ≠ u)) (b := fun s q => decide (ldF w s < ldF w q)) (n := j) (by grind) hb] at ih; exact ih) | (rw [bst_1 (c := fun s => decide (w (4 + s) ≠ 0) && decide (s ≠ u)) (b := fun s q => decide (ldF w s < ldF w q)) (n := j) (by grind) hb (by grind)] at ih; exact ih) | (rw [bst_2 (c := fun s => decide (w (4 + s) ≠ 0) && decide (s ≠ u)) (b := fun s q => decide (ldF w s < ldF w q)) (n := j) (by grind) hb (by grind)] at ih; exact ih)
            · try first | contradiction | omega
              all_goals
                refine e_goto (tgt := 78) dX11_outerBut_30 (by decide) ?_
                first | refine n_inc dX11_outerBut_78 rfl (Nat.le_of_ble_eq_true rfl) rfl ?_ | refine e_iinc dX11_outerBut_78 rfl rfl (Nat.le_of_ble_eq_true rfl) rfl ?_
                refine e_goto (tgt := 5) dX11_outerBut_81 (by decide) ?_
                first | (rw [bst_f (c := fun s => decide (w (4 + s) ≠ 0) && decide (s ≠ u)) (b := fun s q => decide (ldF w s < ldF w q)) (n := j) (by grind), hb] at ih; exact ih) | (rw [bst_0 (c := fun s => decide (w (4 + s) ≠ 0) && decide (s ≠ u)) (b := fun s q => decide (ldF w s < ldF w q)) (n := j) (by grind) hb] at ih; exact ih) | (rw [bst_1 (c := fun s => decide (w (4 + s) ≠ 0) && decide (s ≠ u)) (b := fun s q => decide (ldF w s < ldF w q)) (n := j) (by grind) hb (by grind)] at ih; exact ih) | (rw [bst_2 (c := fun s => decide (w (4 + s) ≠ 0) && decide (s ≠ u)) (b := fun s q => decide (ldF w s < ldF w q)) (n := j) (by grind) hb (by grind)] at ih; exact ih)
    )
  refine e_iconst (v := -1) dX11_outerBut_0 rfl ?_
  refine e_istore_n dX11_outerBut_1 rfl (Nat.le_of_ble_eq_true rfl) rfl ?_
  refine e_iconst (v := nI 0) dX11_outerBut_2 rfl ?_
  refine e_istore dX11_outerBut_3 (Nat.le_of_ble_eq_true rfl) rfl ?_
  exact key 0 (by omega)
