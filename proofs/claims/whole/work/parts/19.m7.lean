theorem ub_ok : ∀ s, s < 6 → ∀ b, b < 2 → ∀ x, x < 64 → x < 2 ^ s → nI x ||| (nI b <<< (nI s &&& 31)) = nI (x + b * 2 ^ s) := by decide +kernel
def ubF (w : Nat → Nat) (n : Nat) : Nat := rs (fun s => w (4 + s) * 2 ^ s) 0 n
theorem ubF_s (w : Nat → Nat) (n : Nat) : ubF w (n + 1) = ubF w n + w (4 + n) * 2 ^ n := by unfold ubF; rw [rs_s, Nat.zero_add]
theorem ubF_lt {w : Nat → Nat} (h : Inv w) : ∀ n, n ≤ 6 → ubF w n < 2 ^ n
  | 0, _ => by show 0 < 1; decide
  | n + 1, hn => by
    rw [ubF_s]
    have h1 := ubF_lt h n (by omega)
    have h2 := iv_up h (s := n) (by omega)
    have h3 : w (4 + n) * 2 ^ n ≤ 1 * 2 ^ n := Nat.mul_le_mul_right _ h2
    rw [Nat.pow_succ]
    omega
theorem ot_some {w : Nat → Nat} {h : Nat} (hh : otH w = some h) : ∃ l, otL w = some l ∧ l < 6 ∧ h < 6 ∧ ldF w l ≤ ldF w h ∧ w (4 + h) ≠ 0 ∧ w (4 + l) ≠ 0 := by
  have h1 := bst_in hh
  cases hl : otL w with
  | none =>
    have h2 := bst_no hl h h1.1
    have h3 := h1.2
    exact absurd (h2.symm.trans h3) (by decide)
  | some l =>
    have h2 := bst_in hl
    exact ⟨l, rfl, h2.1, h1.1, bst_mn hl h h1.1 h1.2, of_decide_eq_true h1.2, of_decide_eq_true h2.2⟩
def hvN (w : Nat → Nat) (k : Nat) : Nat := cnt (fun q => decide (w (106 + k) < w (106 + q)) || (decide (w (106 + q) = w (106 + k)) && decide (q < k))) 1000
def tI (o : Option Nat) (f : Nat → Nat) : Int32 := match o with
  | none => -1
  | some i => nI (f i)
def lowR (w : Nat → Nat) (x : Int32) : Int32 := if inR x 1000 then nI (w (10 + spW w x.toNatClampNeg)) else -1
def wgtR (w : Nat → Nat) (x : Int32) : Int64 := if inR x (w 1) then lN (wtF w x.toNatClampNeg) else -1
def midR (w : Nat → Nat) (x : Int32) : Int32 := if inR x (w 1) then oI (mdO w x.toNatClampNeg) else -1
def loaR (w : Nat → Nat) (x : Int32) : Int64 := if inR x 6 then lN (ldF w x.toNatClampNeg) else -1
def stoR (w : Nat → Nat) (x y : Int32) : Int32 := if inR x 6 ∧ inR y 1000 then nI (w (1106 + 1000 * x.toNatClampNeg + y.toNatClampNeg)) else -1
def serS (w : Nat → Nat) (s : Nat) (y : Int32) : Int32 := if y.toInt = 0 then nI (w (4 + s)) else if y.toInt = 1 then nI (cnt (fun i => decide (w (42 + i) = s)) (w 1)) else if y.toInt = 2 then nI (cnt (fun k => decide (0 < w (1106 + 1000 * s + k))) 1000) else if y.toInt = 3 then nI (cnt (fun m => goB w m && decide (w (7694 + 72 * m + 3) = s)) (w 3)) else if y.toInt = 4 then nI (cnt (fun m => goB w m && decide (w (7694 + 72 * m + 4) = s)) (w 3)) else -1
def serR (w : Nat → Nat) (x y : Int32) : Int32 := if inR x 6 then serS w x.toNatClampNeg y else -1
def spaS (w : Nat → Nat) (i : Nat) (y : Int32) : Int32 := if y.toInt = 0 then nI (w (10 + i)) else if y.toInt = 1 then nI (enF w i) else if y.toInt = 2 then nI (w (42 + i)) else if y.toInt = 3 then nI (w (74 + i)) else if y.toInt = 4 then oI (mvL w (w (10 + i))) else if y.toInt = 5 then bI (fzS w i) else if y.toInt = 6 then nI (viF w i) else -1
def spaR (w : Nat → Nat) (x y : Int32) : Int32 := if x = -1 then nI (w 1) else if inR x (w 1) then spaS w x.toNatClampNeg y else -1
def cliR (w : Nat → Nat) (x y : Int32) : Int32 := if inR x 6 ∧ inR y 6 then (if y.toNatClampNeg = 0 then nI (w (7106 + 98 * x.toNatClampNeg + 0)) else if y.toNatClampNeg = 1 then nI (cnt (fun j => decide (anF w x.toNatClampNeg (w (7106 + 98 * x.toNatClampNeg + 2 + j)) = 3)) (w (7106 + 98 * x.toNatClampNeg + 1))) else nI (w (8573 + 4 * x.toNatClampNeg + y.toNatClampNeg - 2))) else -1
def mofR (w : Nat → Nat) (x y : Int32) : Int32 := if inR x (w 3) ∧ inR y 12 then nI (w (7694 + 72 * x.toNatClampNeg + y.toNatClampNeg)) else -1
def traR (w : Nat → Nat) (x y : Int32) : Int32 := if inR x (w 3) ∧ inR y (w (7694 + 72 * x.toNatClampNeg + 6)) then nI (w (7694 + 72 * x.toNatClampNeg + 12 + y.toNatClampNeg)) else -1
def couR (w : Nat → Nat) (x : Int32) : Int32 := if inR x 15 then nI (w (8558 + x.toNatClampNeg)) else -1
theorem inR_f {x : Int32} {n : Nat} (h : inR x n = false) : ¬ (0 ≤ x.toInt ∧ x.toInt < n) := of_decide_eq_false h
theorem ct_X11_evenOf {fi : FI} {fr : FR} {ai : FI} {ar : FR} {N : Nat} {w : Nat → Nat} (sm : SM fr) (iv : Inv w)  : CP mX11_evenOf 4 0 0 [.ref (rf 11 80)] fi fr (mW ai w) ar N (xQ (some (.long (oL (evF w)))) fi fr (mW ai w) ar N) := by
  obtain ⟨sW, sA, sK, sU, sC, sKC, sT, sCl⟩ := id sm
  have h1 := iv_n iv
  have h3 := iv_mm iv
  change EV mX11_evenOf 4 0 0 0 [some (.ref (rf 11 80)), none] [] fi fr (mW ai w) ar N (xQ (some (.long (oL (evF w)))) fi fr (mW ai w) ar N)
  cases hH : otH w with
  | none =>
    have e : evF w = none := by unfold evF; rw [hH]
    rw [e]
    refine e_aload_n dX11_evenOf_0 rfl rfl ?_
    refine e_iconst (v := nI 1) dX11_evenOf_1 rfl ?_
    refine x_V1 (M' := mX11_outer) dX11_evenOf_2 ml_X11_354 ok_X11_outer (by decide) rfl im_X11_outer se_X11_outer (ct_outer1 ‹_› ‹_›) (Nat.le_of_ble_eq_true rfl) (by decide) (Nat.le_of_ble_eq_true rfl) ?_
    rw [hH]
    refine e_istore_n dX11_evenOf_5 rfl (Nat.le_of_ble_eq_true rfl) rfl ?_
    refine e_iload_n dX11_evenOf_6 rfl rfl ?_
    refine e_iconst (v := -1) dX11_evenOf_7 rfl ?_
    first | ((with_reducible refine mk_mo ?_); refine p_icmp_ne (tgt := 17) dX11_evenOf_8 (by decide) (fun h8 => ?_) (fun h8 => ?_)) | ((with_reducible refine mk_ms ?_); refine s_icmp_ne (tgt := 17) dX11_evenOf_8 (by decide) (by omega) (fun h8 => ?_) (fun h8 => ?_)) | ((with_reducible refine mk_mn ?_); refine q_icmp_ne (tgt := 17) dX11_evenOf_8 (by decide) (by omega) (fun h8 => ?_) (fun h8 => ?_)) | ((with_reducible refine mk_nn ?_); refine n_icmp_ne (tgt := 17) dX11_evenOf_8 (by decide) (by omega) (by omega) (fun h8 => ?_) (fun h8 => ?_)) | refine e_icmp_ne (tgt := 17) dX11_evenOf_8 (by decide) (fun h8 => ?_) (fun h8 => ?_)
    · try first | contradiction | omega
      all_goals
        refine e_aload_n dX11_evenOf_17 rfl rfl ?_
        refine e_iload_n dX11_evenOf_18 rfl rfl ?_
        refine x_V1 (M' := mX11_loadOf) dX11_evenOf_19 ml_X11_337 ok_X11_loadOf (by decide) rfl im_X11_loadOf se_X11_loadOf (ct_X11_loadOf ‹_› ‹_› (by omega)) (Nat.le_of_ble_eq_true rfl) (by decide) (Nat.le_of_ble_eq_true rfl) ?_
        refine e_aload_n dX11_evenOf_22 rfl rfl ?_
        refine e_aload_n dX11_evenOf_23 rfl rfl ?_
        refine e_iconst (v := nI 0) dX11_evenOf_24 rfl ?_
        refine x_V1 (M' := mX11_outer) dX11_evenOf_25 ml_X11_354 ok_X11_outer (by decide) rfl im_X11_outer se_X11_outer (ct_outer0 ‹_› ‹_›) (Nat.le_of_ble_eq_true rfl) (by decide) (Nat.le_of_ble_eq_true rfl) ?_
        refine x_V1 (M' := mX11_loadOf) dX11_evenOf_28 ml_X11_337 ok_X11_loadOf (by decide) rfl im_X11_loadOf se_X11_loadOf (ct_X11_loadOf ‹_› ‹_› (by omega)) (Nat.le_of_ble_eq_true rfl) (by decide) (Nat.le_of_ble_eq_true rfl) ?_
        first | ((with_reducible refine mk_LL ?_); refine n_lsub dX11_evenOf_31 (by omega) ?_) | refine e_lsub dX11_evenOf_31 ?_
        refine e_ret (some _) rfl (r_long dX11_evenOf_32 rfl) ?_
        exact xq (by first | rfl | simp_all [bI_t, bI_f]) rfl rfl rfl rfl rfl
    · try first | contradiction | omega
      all_goals
        refine e_ldc2 dX11_evenOf_11 co_X11_326 ?_
        refine e_goto (tgt := 32) dX11_evenOf_14 (by decide) ?_
        refine e_ret (some _) rfl (r_long dX11_evenOf_32 rfl) ?_
        exact xq (by first | rfl | simp_all [bI_t, bI_f]) rfl rfl rfl rfl rfl
  | some hh =>
    obtain ⟨l, hl, hl6, hh6, hle, -⟩ := ot_some hH
    have e : evF w = some (ldF w hh - ldF w l) := by unfold evF; rw [hH, hl]
    rw [e]
    refine e_aload_n dX11_evenOf_0 rfl rfl ?_
    refine e_iconst (v := nI 1) dX11_evenOf_1 rfl ?_
    refine x_V1 (M' := mX11_outer) dX11_evenOf_2 ml_X11_354 ok_X11_outer (by decide) rfl im_X11_outer se_X11_outer (ct_outer1 ‹_› ‹_›) (Nat.le_of_ble_eq_true rfl) (by decide) (Nat.le_of_ble_eq_true rfl) ?_
    rw [hH]
    refine e_istore_n dX11_evenOf_5 rfl (Nat.le_of_ble_eq_true rfl) rfl ?_
    refine e_iload_n dX11_evenOf_6 rfl rfl ?_
    refine e_iconst (v := -1) dX11_evenOf_7 rfl ?_
    first | ((with_reducible refine mk_mo ?_); refine p_icmp_ne (tgt := 17) dX11_evenOf_8 (by decide) (fun h8 => ?_) (fun h8 => ?_)) | ((with_reducible refine mk_ms ?_); refine s_icmp_ne (tgt := 17) dX11_evenOf_8 (by decide) (by omega) (fun h8 => ?_) (fun h8 => ?_)) | ((with_reducible refine mk_mn ?_); refine q_icmp_ne (tgt := 17) dX11_evenOf_8 (by decide) (by omega) (fun h8 => ?_) (fun h8 => ?_)) | ((with_reducible refine mk_nn ?_); refine n_icmp_ne (tgt := 17) dX11_evenOf_8 (by decide) (by omega) (by omega) (fun h8 => ?_) (fun h8 => ?_)) | refine e_icmp_ne (tgt := 17) dX11_evenOf_8 (by decide) (fun h8 => ?_) (fun h8 => ?_)
    · try first | contradiction | omega
      all_goals
        refine e_aload_n dX11_evenOf_17 rfl rfl ?_
        refine e_iload_n dX11_evenOf_18 rfl rfl ?_
        refine x_V1 (M' := mX11_loadOf) dX11_evenOf_19 ml_X11_337 ok_X11_loadOf (by decide) rfl im_X11_loadOf se_X11_loadOf (ct_X11_loadOf ‹_› ‹_› (by omega)) (Nat.le_of_ble_eq_true rfl) (by decide) (Nat.le_of_ble_eq_true rfl) ?_
        refine e_aload_n dX11_evenOf_22 rfl rfl ?_
        refine e_aload_n dX11_evenOf_23 rfl rfl ?_
        refine e_iconst (v := nI 0) dX11_evenOf_24 rfl ?_
        refine x_V1 (M' := mX11_outer) dX11_evenOf_25 ml_X11_354 ok_X11_outer (by decide) rfl im_X11_outer se_X11_outer (ct_outer0 ‹_› ‹_›) (Nat.le_of_ble_eq_true rfl) (by decide) (Nat.le_of_ble_eq_true rfl) ?_
        rw [hl]
        refine x_V1 (M' := mX11_loadOf) dX11_evenOf_28 ml_X11_337 ok_X11_loadOf (by decide) rfl im_X11_loadOf se_X11_loadOf (ct_X11_loadOf ‹_› ‹_› (by omega)) (Nat.le_of_ble_eq_true rfl) (by decide) (Nat.le_of_ble_eq_true rfl) ?_
        first | ((with_reducible refine mk_LL ?_); refine n_lsub dX11_evenOf_31 (by omega) ?_) | refine e_lsub dX11_evenOf_31 ?_
        refine e_ret (some _) rfl (r_long dX11_evenOf_32 rfl) ?_
        exact xq (by first | rfl | simp_all [bI_t, bI_f]) rfl rfl rfl rfl rfl
    · try first | contradiction | omega
      all_goals
        refine e_ldc2 dX11_evenOf_11 co_X11_326 ?_
        refine e_goto (tgt := 32) dX11_evenOf_14 (by decide) ?_
        refine e_ret (some _) rfl (r_long dX11_evenOf_32 rfl) ?_
        exact xq (by first | rfl | simp_all [bI_t, bI_f]) rfl rfl rfl rfl rfl
theorem ct_X11_even {fi : FI} {fr : FR} {ai : FI} {ar : FR} {N : Nat} {w : Nat → Nat} (sm : SM fr) (iv : Inv w)  : CP mX11_even 5 0 0 [.ref (rf 11 80)] fi fr (mW ai w) ar N (xQ (some (.long (oL (evF w)))) fi fr (mW ai w) ar N) := by
  obtain ⟨sW, sA, sK, sU, sC, sKC, sT, sCl⟩ := id sm
  have h1 := iv_n iv
  have h3 := iv_mm iv
  change EV mX11_even 5 0 0 0 [some (.ref (rf 11 80))] [] fi fr (mW ai w) ar N (xQ (some (.long (oL (evF w)))) fi fr (mW ai w) ar N)
  refine e_aload_n dX11_even_0 rfl rfl ?_
  refine x_V0 (M' := mX11_evenOf) dX11_even_1 ml_X11_358 ok_X11_evenOf (by decide) rfl im_X11_evenOf se_X11_evenOf (ct_X11_evenOf ‹_› ‹_›) (Nat.le_of_ble_eq_true rfl) (by decide) (Nat.le_of_ble_eq_true rfl) ?_
  refine e_ret (some _) rfl (r_long dX11_even_4 rfl) ?_
  exact xq (by first | rfl | simp_all [bI_t, bI_f]) rfl rfl rfl rfl rfl
theorem ct_X11_heavier {fi : FI} {fr : FR} {ai : FI} {ar : FR} {N : Nat} {w : Nat → Nat} (sm : SM fr) (iv : Inv w) {k : Nat} (hk : k < 1000) : CP mX11_heavier 0 0 0 [.ref (rf 11 80), .int (nI k)] fi fr (mW ai w) ar N (xQ (some (.int (nI (hvN w k)))) fi fr (mW ai w) ar N) := by
  obtain ⟨sW, sA, sK, sU, sC, sKC, sT, sCl⟩ := id sm
  have h1 := iv_n iv
  have h3 := iv_mm iv
  have hwk := iv_wt iv hk
  change EV mX11_heavier 0 0 0 0 [some (.ref (rf 11 80)), some (.int (nI k)), none, none] [] fi fr (mW ai w) ar N (xQ (some (.int (nI (hvN w k)))) fi fr (mW ai w) ar N)
  have key := ev_up (P := (fun j => EV mX11_heavier 0 0 0 4 [some (.ref (rf 11 80)), some (.int (nI k)), some (.int (nI (cnt (fun q => decide (w (106 + k) < w (106 + q)) || (decide (w (106 + q) = w (106 + k)) && decide (q < k))) j))), some (.int (nI j))] [] fi fr (mW ai w) ar N (xQ (some (.int (nI (hvN w k)))) fi fr (mW ai w) ar N))) (1000) (fun j hj ih => by
    have hwj := iv_wt iv hj
    refine e_iload_n dX11_heavier_4 rfl rfl ?_
    refine e_sipush (v := nI 1000) dX11_heavier_5 rfl ?_
    first | ((with_reducible refine mk_nn ?_); refine n_icmp_ge (tgt := 72) dX11_heavier_8 (by decide) (by omega) (by omega) (fun h8 => ?_) (fun h8 => ?_)) | refine e_icmp_ge (tgt := 72) dX11_heavier_8 (by decide) (fun h8 => ?_) (fun h8 => ?_)
    · try first | contradiction | omega
      all_goals
        refine e_iload_n dX11_heavier_72 rfl rfl ?_
        refine e_ret (some _) rfl (r_int dX11_heavier_73 rfl) ?_
        exact xq (by first | rfl | simp_all [bI_t, bI_f]) rfl rfl rfl rfl rfl
    · try first | contradiction | omega
      all_goals
        refine e_iload_n dX11_heavier_11 rfl rfl ?_
        refine e_aload_n dX11_heavier_12 rfl rfl ?_
        refine e_getR dX11_heavier_13 fl_X11_7 rfl (by assumption) ?_
        refine e_bipush (v := nI 106) dX11_heavier_16 rfl ?_
        refine e_iload_n dX11_heavier_18 rfl rfl ?_
        first | ((with_reducible refine mk_nn ?_); refine n_iadd dX11_heavier_19 ?_) | refine e_iadd dX11_heavier_19 ?_
        first | ((with_reducible refine mk_ldw ?_); refine e_ldw dX11_heavier_20 (by omega) ?_) | refine e_iald _ dX11_heavier_20 ⟨by decide, by decide⟩ rfl rfl (by simp only [lenK]; omega) ?_
        refine e_aload_n dX11_heavier_21 rfl rfl ?_
        refine e_getR dX11_heavier_22 fl_X11_7 rfl (by assumption) ?_
        refine e_bipush (v := nI 106) dX11_heavier_25 rfl ?_
        refine e_iload_n dX11_heavier_27 rfl rfl ?_
        first | ((with_reducible refine mk_nn ?_); refine n_iadd dX11_heavier_28 ?_) | refine e_iadd dX11_heavier_28 ?_
        first | ((with_reducible refine mk_ldw ?_); refine e_ldw dX11_heavier_29 (by omega) ?_) | refine e_iald _ dX11_heavier_29 ⟨by decide, by decide⟩ rfl rfl (by simp only [lenK]; omega) ?_
        first | ((with_reducible refine mk_nn ?_); refine n_icmp_gt (tgt := 59) dX11_heavier_30 (by decide) (by omega) (by omega) (fun h30 => ?_) (fun h30 => ?_)) | refine e_icmp_gt (tgt := 59) dX11_heavier_30 (by decide) (fun h30 => ?_) (fun h30 => ?_)
        · try first | contradiction | omega
          all_goals
            refine e_iconst (v := nI 1) dX11_heavier_59 rfl ?_
            refine e_goto (tgt := 64) dX11_heavier_60 (by decide) ?_
            first | ((with_reducible refine mk_nn ?_); refine n_iadd dX11_heavier_64 ?_) | refine e_iadd dX11_heavier_64 ?_
            refine e_istore_n dX11_heavier_65 rfl (Nat.le_of_ble_eq_true rfl) rfl ?_
            first | refine n_inc dX11_heavier_66 rfl (Nat.le_of_ble_eq_true rfl) rfl ?_ | refine e_iinc dX11_heavier_66 rfl rfl (Nat.le_of_ble_eq_true rfl) rfl ?_
            refine e_goto (tgt := 4) dX11_heavier_69 (by decide) ?_
            first | (rw [cnt_t (n := j) (p := fun q => decide (w (106 + k) < w (106 + q)) || (decide (w (106 + q) = w (106 + k)) && decide (q < k))) (by grind)] at ih; exact ih) | (rw [cnt_f (n := j) (p := fun q => decide (w (106 + k) < w (106 + q)) || (decide (w (106 + q) = w (106 + k)) && decide (q < k))) (by grind)] at ih; exact ih)
        · try first | contradiction | omega
          all_goals
            refine e_aload_n dX11_heavier_33 rfl rfl ?_
            refine e_getR dX11_heavier_34 fl_X11_7 rfl (by assumption) ?_
            refine e_bipush (v := nI 106) dX11_heavier_37 rfl ?_
            refine e_iload_n dX11_heavier_39 rfl rfl ?_
            first | ((with_reducible refine mk_nn ?_); refine n_iadd dX11_heavier_40 ?_) | refine e_iadd dX11_heavier_40 ?_
            first | ((with_reducible refine mk_ldw ?_); refine e_ldw dX11_heavier_41 (by omega) ?_) | refine e_iald _ dX11_heavier_41 ⟨by decide, by decide⟩ rfl rfl (by simp only [lenK]; omega) ?_
            refine e_aload_n dX11_heavier_42 rfl rfl ?_
            refine e_getR dX11_heavier_43 fl_X11_7 rfl (by assumption) ?_
            refine e_bipush (v := nI 106) dX11_heavier_46 rfl ?_
            refine e_iload_n dX11_heavier_48 rfl rfl ?_
            first | ((with_reducible refine mk_nn ?_); refine n_iadd dX11_heavier_49 ?_) | refine e_iadd dX11_heavier_49 ?_
            first | ((with_reducible refine mk_ldw ?_); refine e_ldw dX11_heavier_50 (by omega) ?_) | refine e_iald _ dX11_heavier_50 ⟨by decide, by decide⟩ rfl rfl (by simp only [lenK]; omega) ?_
            first | ((with_reducible refine mk_mo ?_); refine p_icmp_ne (tgt := 63) dX11_heavier_51 (by decide) (fun h51 => ?_) (fun h51 => ?_)) | ((with_reducible refine mk_ms ?_); refine s_icmp_ne (tgt := 63) dX11_heavier_51 (by decide) (by omega) (fun h51 => ?_) (fun h51 => ?_)) | ((with_reducible refine mk_mn ?_); refine q_icmp_ne (tgt := 63) dX11_heavier_51 (by decide) (by omega) (fun h51 => ?_) (fun h51 => ?_)) | ((with_reducible refine mk_nn ?_); refine n_icmp_ne (tgt := 63) dX11_heavier_51 (by decide) (by omega) (by omega) (fun h51 => ?_) (fun h51 => ?_)) | refine e_icmp_ne (tgt := 63) dX11_heavier_51 (by decide) (fun h51 => ?_) (fun h51 => ?_)
            · try first | contradiction | omega
              all_goals
                refine e_iconst (v := nI 0) dX11_heavier_63 rfl ?_
                first | ((with_reducible refine mk_nn ?_); refine n_iadd dX11_heavier_64 ?_) | refine e_iadd dX11_heavier_64 ?_
                refine e_istore_n dX11_heavier_65 rfl (Nat.le_of_ble_eq_true rfl) rfl ?_
                first | refine n_inc dX11_heavier_66 rfl (Nat.le_of_ble_eq_true rfl) rfl ?_ | refine e_iinc dX11_heavier_66 rfl rfl (Nat.le_of_ble_eq_true rfl) rfl ?_
                refine e_goto (tgt := 4) dX11_heavier_69 (by decide) ?_
                first | (rw [cnt_t (n := j) (p := fun q => decide (w (106 + k) < w (106 + q)) || (decide (w (106 + q) = w (106 + k)) && decide (q < k))) (by grind)] at ih; exact ih) | (rw [cnt_f (n := j) (p := fun q => decide (w (106 + k) < w (106 + q)) || (decide (w (106 + q) = w (106 + k)) && decide (q < k))) (by grind)] at ih; exact ih)
            · try first | contradiction | omega
              all_goals
                refine e_iload_n dX11_heavier_54 rfl rfl ?_
                refine e_iload_n dX11_heavier_55 rfl rfl ?_
                first | ((with_reducible refine mk_nn ?_); refine n_icmp_ge (tgt := 63) dX11_heavier_56 (by decide) (by omega) (by omega) (fun h56 => ?_) (fun h56 => ?_)) | refine e_icmp_ge (tgt := 63) dX11_heavier_56 (by decide) (fun h56 => ?_) (fun h56 => ?_)
                · try first | contradiction | omega
                  all_goals
                    refine e_iconst (v := nI 0) dX11_heavier_63 rfl ?_
                    first | ((with_reducible refine mk_nn ?_); refine n_iadd dX11_heavier_64 ?_) | refine e_iadd dX11_heavier_64 ?_
                    refine e_istore_n dX11_heavier_65 rfl (Nat.le_of_ble_eq_true rfl) rfl ?_
                    first | refine n_inc dX11_heavier_66 rfl (Nat.le_of_ble_eq_true rfl) rfl ?_ | refine e_iinc dX11_heavier_66 rfl rfl (Nat.le_of_ble_eq_true rfl) rfl ?_
                    refine e_goto (tgt := 4) dX11_heavier_69 (by decide) ?_
                    first | (rw [cnt_t (n := j) (p := fun q => decide (w (106 + k) < w (106 + q)) || (decide (w (106 + q) = w (106 + k)) && decide (q < k))) (by grind)] at ih; exact ih) | (rw [cnt_f (n := j) (p := fun q => decide (w (106 + k) < w (106 + q)) || (decide (w (106 + q) = w (106 + k)) && decide (q < k))) (by grind)] at ih; exact ih)
                · try first | contradiction | omega
                  all_goals
                    refine e_iconst (v := nI 1) dX11_heavier_59 rfl ?_
                    refine e_goto (tgt := 64) dX11_heavier_60 (by decide) ?_
                    first | ((with_reducible refine mk_nn ?_); refine n_iadd dX11_heavier_64 ?_) | refine e_iadd dX11_heavier_64 ?_
                    refine e_istore_n dX11_heavier_65 rfl (Nat.le_of_ble_eq_true rfl) rfl ?_
                    first | refine n_inc dX11_heavier_66 rfl (Nat.le_of_ble_eq_true rfl) rfl ?_ | refine e_iinc dX11_heavier_66 rfl rfl (Nat.le_of_ble_eq_true rfl) rfl ?_
                    refine e_goto (tgt := 4) dX11_heavier_69 (by decide) ?_
                    first | (rw [cnt_t (n := j) (p := fun q => decide (w (106 + k) < w (106 + q)) || (decide (w (106 + q) = w (106 + k)) && decide (q < k))) (by grind)] at ih; exact ih) | (rw [cnt_f (n := j) (p := fun q => decide (w (106 + k) < w (106 + q)) || (decide (w (106 + q) = w (106 + k)) && decide (q < k))) (by grind)] at ih; exact ih)
    ) (by
    refine e_iload_n dX11_heavier_4 rfl rfl ?_
    refine e_sipush (v := nI 1000) dX11_heavier_5 rfl ?_
    first | ((with_reducible refine mk_nn ?_); refine n_icmp_ge (tgt := 72) dX11_heavier_8 (by decide) (by omega) (by omega) (fun h8 => ?_) (fun h8 => ?_)) | refine e_icmp_ge (tgt := 72) dX11_heavier_8 (by decide) (fun h8 => ?_) (fun h8 => ?_)
    · try first | contradiction | omega
      all_goals
        refine e_iload_n dX11_heavier_72 rfl rfl ?_
        refine e_ret (some _) rfl (r_int dX11_heavier_73 rfl) ?_
        exact xq rfl rfl rfl rfl rfl rfl
    · try first | contradiction | omega
      all_goals
        refine e_iload_n dX11_heavier_11 rfl rfl ?_
        refine e_aload_n dX11_heavier_12 rfl rfl ?_
        refine e_getR dX11_heavier_13 fl_X11_7 rfl (by assumption) ?_
        refine e_bipush (v := nI 106) dX11_heavier_16 rfl ?_
        refine e_iload_n dX11_heavier_18 rfl rfl ?_
        first | ((with_reducible refine mk_nn ?_); refine n_iadd dX11_heavier_19 ?_) | refine e_iadd dX11_heavier_19 ?_
        first | ((with_reducible refine mk_ldw ?_); refine e_ldw dX11_heavier_20 (by omega) ?_) | refine e_iald _ dX11_heavier_20 ⟨by decide, by decide⟩ rfl rfl (by simp only [lenK]; omega) ?_
        refine e_aload_n dX11_heavier_21 rfl rfl ?_
        refine e_getR dX11_heavier_22 fl_X11_7 rfl (by assumption) ?_
        refine e_bipush (v := nI 106) dX11_heavier_25 rfl ?_
        refine e_iload_n dX11_heavier_27 rfl rfl ?_
        first | ((with_reducible refine mk_nn ?_); refine n_iadd dX11_heavier_28 ?_) | refine e_iadd dX11_heavier_28 ?_
        first | ((with_reducible refine mk_ldw ?_); refine e_ldw dX11_heavier_29 (by omega) ?_) | refine e_iald _ dX11_heavier_29 ⟨by decide, by decide⟩ rfl rfl (by simp only [lenK]; omega) ?_
        first | ((with_reducible refine mk_nn ?_); refine n_icmp_gt (tgt := 59) dX11_heavier_30 (by decide) (by omega) (by omega) (fun h30 => ?_) (fun h30 => ?_)) | refine e_icmp_gt (tgt := 59) dX11_heavier_30 (by decide) (fun h30 => ?_) (fun h30 => ?_)
        · try first | contradiction | omega
          all_goals
            refine e_iconst (v := nI 1) dX11_heavier_59 rfl ?_
            refine e_goto (tgt := 64) dX11_heavier_60 (by decide) ?_
            first | ((with_reducible refine mk_nn ?_); refine n_iadd dX11_heavier_64 ?_) | refine e_iadd dX11_heavier_64 ?_
            refine e_istore_n dX11_heavier_65 rfl (Nat.le_of_ble_eq_true rfl) rfl ?_
            first | refine n_inc dX11_heavier_66 rfl (Nat.le_of_ble_eq_true rfl) rfl ?_ | refine e_iinc dX11_heavier_66 rfl rfl (Nat.le_of_ble_eq_true rfl) rfl ?_
            refine e_goto (tgt := 4) dX11_heavier_69 (by decide) ?_
            first | (rw [cnt_t (n := j) (p := fun q => decide (w (106 + k) < w (106 + q)) || (decide (w (106 + q) = w (106 + k)) && decide (q < k))) (by grind)] at ih; exact ih) | (rw [cnt_f (n := j) (p := fun q => decide (w (106 + k) < w (106 + q)) || (decide (w (106 + q) = w (106 + k)) && decide (q < k))) (by grind)] at ih; exact ih)
        · try first | contradiction | omega
          all_goals
            refine e_aload_n dX11_heavier_33 rfl rfl ?_
            refine e_getR dX11_heavier_34 fl_X11_7 rfl (by assumption) ?_
            refine e_bipush (v := nI 106) dX11_heavier_37 rfl ?_
            refine e_iload_n dX11_heavier_39 rfl rfl ?_
            first | ((with_reducible refine mk_nn ?_); refine n_iadd dX11_heavier_40 ?_) | refine e_iadd dX11_heavier_40 ?_
            first | ((with_reducible refine mk_ldw ?_); refine e_ldw dX11_heavier_41 (by omega) ?_) | refine e_iald _ dX11_heavier_41 ⟨by decide, by decide⟩ rfl rfl (by simp only [lenK]; omega) ?_
            refine e_aload_n dX11_heavier_42 rfl rfl ?_
            refine e_getR dX11_heavier_43 fl_X11_7 rfl (by assumption) ?_
            refine e_bipush (v := nI 106) dX11_heavier_46 rfl ?_
            refine e_iload_n dX11_heavier_48 rfl rfl ?_
            first | ((with_reducible refine mk_nn ?_); refine n_iadd dX11_heavier_49 ?_) | refine e_iadd dX11_heavier_49 ?_
            first | ((with_reducible refine mk_ldw ?_); refine e_ldw dX11_heavier_50 (by omega) ?_) | refine e_iald _ dX11_heavier_50 ⟨by decide, by decide⟩ rfl rfl (by simp only [lenK]; omega) ?_
            first | ((with_reducible refine mk_mo ?_); refine p_icmp_ne (tgt := 63) dX11_heavier_51 (by decide) (fun h51 => ?_) (fun h51 => ?_)) | ((with_reducible refine mk_ms ?_); refine s_icmp_ne (tgt := 63) dX11_heavier_51 (by decide) (by omega) (fun h51 => ?_) (fun h51 => ?_)) | ((with_reducible refine mk_mn ?_); refine q_icmp_ne (tgt := 63) dX11_heavier_51 (by decide) (by omega) (fun h51 => ?_) (fun h51 => ?_)) | ((with_reducible refine mk_nn ?_); refine n_icmp_ne (tgt := 63) dX11_heavier_51 (by decide) (by omega) (by omega) (fun h51 => ?_) (fun h51 => ?_)) | refine e_icmp_ne (tgt := 63) dX11_heavier_51 (by decide) (fun h51 => ?_) (fun h51 => ?_)
            · try first | contradiction | omega
              all_goals
                refine e_iconst (v := nI 0) dX11_heavier_63 rfl ?_
                first | ((with_reducible refine mk_nn ?_); refine n_iadd dX11_heavier_64 ?_) | refine e_iadd dX11_heavier_64 ?_
                refine e_istore_n dX11_heavier_65 rfl (Nat.le_of_ble_eq_true rfl) rfl ?_
                first | refine n_inc dX11_heavier_66 rfl (Nat.le_of_ble_eq_true rfl) rfl ?_ | refine e_iinc dX11_heavier_66 rfl rfl (Nat.le_of_ble_eq_true rfl) rfl ?_
                refine e_goto (tgt := 4) dX11_heavier_69 (by decide) ?_
                first | (rw [cnt_t (n := j) (p := fun q => decide (w (106 + k) < w (106 + q)) || (decide (w (106 + q) = w (106 + k)) && decide (q < k))) (by grind)] at ih; exact ih) | (rw [cnt_f (n := j) (p := fun q => decide (w (106 + k) < w (106 + q)) || (decide (w (106 + q) = w (106 + k)) && decide (q < k))) (by grind)] at ih; exact ih)
            · try first | contradiction | omega
              all_goals
                refine e_iload_n dX11_heavier_54 rfl rfl ?_
                refine e_iload_n dX11_heavier_55 rfl rfl ?_
                first | ((with_reducible refine mk_nn ?_); refine n_icmp_ge (tgt := 63) dX11_heavier_56 (by decide) (by omega) (by omega) (fun h56 => ?_) (fun h56 => ?_)) | refine e_icmp_ge (tgt := 63) dX11_heavier_56 (by decide) (fun h56 => ?_) (fun h56 => ?_)
                · try first | contradiction | omega
                  all_goals
                    refine e_iconst (v := nI 0) dX11_heavier_63 rfl ?_
                    first | ((with_reducible refine mk_nn ?_); refine n_iadd dX11_heavier_64 ?_) | refine e_iadd dX11_heavier_64 ?_
                    refine e_istore_n dX11_heavier_65 rfl (Nat.le_of_ble_eq_true rfl) rfl ?_
                    first | refine n_inc dX11_heavier_66 rfl (Nat.le_of_ble_eq_true rfl) rfl ?_ | refine e_iinc dX11_heavier_66 rfl rfl (Nat.le_of_ble_eq_true rfl) rfl ?_
                    refine e_goto (tgt := 4) dX11_heavier_69 (by decide) ?_
                    first | (rw [cnt_t (n := j) (p := fun q => decide (w (106 + k) < w (106 + q)) || (decide (w (106 + q) = w (106 + k)) && decide (q < k))) (by grind)] at ih; exact ih) | (rw [cnt_f (n := j) (p := fun q => decide (w (106 + k) < w (106 + q)) || (decide (w (106 + q) = w (106 + k)) && decide (q < k))) (by grind)] at ih; exact ih)
                · try first | contradiction | omega
                  all_goals
                    refine e_iconst (v := nI 1) dX11_heavier_59 rfl ?_
                    refine e_goto (tgt := 64) dX11_heavier_60 (by decide) ?_
                    first | ((with_reducible refine mk_nn ?_); refine n_iadd dX11_heavier_64 ?_) | refine e_iadd dX11_heavier_64 ?_
                    refine e_istore_n dX11_heavier_65 rfl (Nat.le_of_ble_eq_true rfl) rfl ?_
                    first | refine n_inc dX11_heavier_66 rfl (Nat.le_of_ble_eq_true rfl) rfl ?_ | refine e_iinc dX11_heavier_66 rfl rfl (Nat.le_of_ble_eq_true rfl) rfl ?_
                    refine e_goto (tgt := 4) dX11_heavier_69 (by decide) ?_
                    first | (rw [cnt_t (n := j) (p := fun q => decide (w (106 + k) < w (106 + q)) || (decide (w (106 + q) = w (106 + k)) && decide (q < k))) (by grind)] at ih; exact ih) | (rw [cnt_f (n := j) (p := fun q => decide (w (106 + k) < w (106 + q)) || (decide (w (106 + q) = w (106 + k)) && decide (q < k))) (by grind)] at ih; exact ih)
    )
  refine e_iconst (v := nI 0) dX11_heavier_0 rfl ?_
  refine e_istore_n dX11_heavier_1 rfl (Nat.le_of_ble_eq_true rfl) rfl ?_
  refine e_iconst (v := nI 0) dX11_heavier_2 rfl ?_
  refine e_istore_n dX11_heavier_3 rfl (Nat.le_of_ble_eq_true rfl) rfl ?_
  exact key 0 (by omega)
theorem ct_X11_upOnes {fi : FI} {fr : FR} {ai : FI} {ar : FR} {N : Nat} {w : Nat → Nat} (sm : SM fr) (iv : Inv w)  : CP mX11_upOnes 0 0 0 [.ref (rf 11 80)] fi fr (mW ai w) ar N (xQ (some (.int (nI (ubF w 6)))) fi fr (mW ai w) ar N) := by
  obtain ⟨sW, sA, sK, sU, sC, sKC, sT, sCl⟩ := id sm
  have h1 := iv_n iv
  have h3 := iv_mm iv
  change EV mX11_upOnes 0 0 0 0 [some (.ref (rf 11 80)), none, none] [] fi fr (mW ai w) ar N (xQ (some (.int (nI (ubF w 6)))) fi fr (mW ai w) ar N)
  have key := ev_up (P := (fun j => EV mX11_upOnes 0 0 0 4 [some (.ref (rf 11 80)), some (.int (nI (ubF w j))), some (.int (nI j))] [] fi fr (mW ai w) ar N (xQ (some (.int (nI (ubF w 6)))) fi fr (mW ai w) ar N))) (6) (fun j hj ih => by
    have hu := iv_up iv hj
    have hl := ubF_lt iv j (by omega)
    have hp : 2 ^ j ≤ 2 ^ 5 := Nat.pow_le_pow_right (by decide) (by omega)
    refine e_iload_n dX11_upOnes_4 rfl rfl ?_
    refine e_bipush (v := nI 6) dX11_upOnes_5 rfl ?_
    first | ((with_reducible refine mk_nn ?_); refine n_icmp_ge (tgt := 29) dX11_upOnes_7 (by decide) (by omega) (by omega) (fun h7 => ?_) (fun h7 => ?_)) | refine e_icmp_ge (tgt := 29) dX11_upOnes_7 (by decide) (fun h7 => ?_) (fun h7 => ?_)
    · try first | contradiction | omega
      all_goals
        refine e_iload_n dX11_upOnes_29 rfl rfl ?_
        refine e_ret (some _) rfl (r_int dX11_upOnes_30 rfl) ?_
        exact xq (by first | rfl | simp_all [bI_t, bI_f]) rfl rfl rfl rfl rfl
    · try first | contradiction | omega
      all_goals
        refine e_iload_n dX11_upOnes_10 rfl rfl ?_
        refine e_aload_n dX11_upOnes_11 rfl rfl ?_
        refine e_getR dX11_upOnes_12 fl_X11_7 rfl (by assumption) ?_
        refine e_iconst (v := nI 4) dX11_upOnes_15 rfl ?_
        refine e_iload_n dX11_upOnes_16 rfl rfl ?_
        first | ((with_reducible refine mk_nn ?_); refine n_iadd dX11_upOnes_17 ?_) | refine e_iadd dX11_upOnes_17 ?_
        first | ((with_reducible refine mk_ldw ?_); refine e_ldw dX11_upOnes_18 (by omega) ?_) | refine e_iald _ dX11_upOnes_18 ⟨by decide, by decide⟩ rfl rfl (by simp only [lenK]; omega) ?_
        refine e_iload_n dX11_upOnes_19 rfl rfl ?_
        refine e_ishl dX11_upOnes_20 ?_
        refine e_ior dX11_upOnes_21 ?_
        refine e_istore_n dX11_upOnes_22 rfl (Nat.le_of_ble_eq_true rfl) rfl ?_
        first | refine n_inc dX11_upOnes_23 rfl (Nat.le_of_ble_eq_true rfl) rfl ?_ | refine e_iinc dX11_upOnes_23 rfl rfl (Nat.le_of_ble_eq_true rfl) rfl ?_
        refine e_goto (tgt := 4) dX11_upOnes_26 (by decide) ?_
        rw [ubF_s] at ih
        rw [ub_ok j hj _ (by omega) _ (by omega) hl]
        exact ih
    ) (by
    refine e_iload_n dX11_upOnes_4 rfl rfl ?_
    refine e_bipush (v := nI 6) dX11_upOnes_5 rfl ?_
    first | ((with_reducible refine mk_nn ?_); refine n_icmp_ge (tgt := 29) dX11_upOnes_7 (by decide) (by omega) (by omega) (fun h7 => ?_) (fun h7 => ?_)) | refine e_icmp_ge (tgt := 29) dX11_upOnes_7 (by decide) (fun h7 => ?_) (fun h7 => ?_)
    · try first | contradiction | omega
      all_goals
        refine e_iload_n dX11_upOnes_29 rfl rfl ?_
        refine e_ret (some _) rfl (r_int dX11_upOnes_30 rfl) ?_
        exact xq rfl rfl rfl rfl rfl rfl
    · try first | contradiction | omega
      all_goals
        refine e_iload_n dX11_upOnes_10 rfl rfl ?_
        refine e_aload_n dX11_upOnes_11 rfl rfl ?_
        refine e_getR dX11_upOnes_12 fl_X11_7 rfl (by assumption) ?_
        refine e_iconst (v := nI 4) dX11_upOnes_15 rfl ?_
        refine e_iload_n dX11_upOnes_16 rfl rfl ?_
        first | ((with_reducible refine mk_nn ?_); refine n_iadd dX11_upOnes_17 ?_) | refine e_iadd dX11_upOnes_17 ?_
        first | ((with_reducible refine mk_ldw ?_); refine e_ldw dX11_upOnes_18 (by omega) ?_) | refine e_iald _ dX11_upOnes_18 ⟨by decide, by decide⟩ rfl rfl (by simp only [lenK]; omega) ?_
        refine e_iload_n dX11_upOnes_19 rfl rfl ?_
        refine e_ishl dX11_upOnes_20 ?_
        refine e_ior dX11_upOnes_21 ?_
        refine e_istore_n dX11_upOnes_22 rfl (Nat.le_of_ble_eq_true rfl) rfl ?_
        first | refine n_inc dX11_upOnes_23 rfl (Nat.le_of_ble_eq_true rfl) rfl ?_ | refine e_iinc dX11_upOnes_23 rfl rfl (Nat.le_of_ble_eq_true rfl) rfl ?_
        refine e_goto (tgt := 4) dX11_upOnes_26 (by decide) ?_
        rw [ubF_s] at ih
        rw [ub_ok j hj _ (by omega) _ (by omega) hl]
        exact ih
    )
  refine e_iconst (v := nI 0) dX11_upOnes_0 rfl ?_
  refine e_istore_n dX11_upOnes_1 rfl (Nat.le_of_ble_eq_true rfl) rfl ?_
  refine e_iconst (v := nI 0) dX11_upOnes_2 rfl ?_
  refine e_istore_n dX11_upOnes_3 rfl (Nat.le_of_ble_eq_true rfl) rfl ?_
  exact key 0 (by omega)
theorem ct_X11_lowOf {fi : FI} {fr : FR} {ai : FI} {ar : FR} {N : Nat} {w : Nat → Nat} (sm : SM fr) (iv : Inv w) (y0 : Int32) : CP mX11_lowOf 2 0 0 [.ref (rf 11 80), .int y0] fi fr (mW ai w) ar N (xQ (some (.int (lowR w y0))) fi fr (mW ai w) ar N) := by
  obtain ⟨sW, sA, sK, sU, sC, sKC, sT, sCl⟩ := id sm
  have h1 := iv_n iv
  have h3 := iv_mm iv
  change EV mX11_lowOf 2 0 0 0 [some (.ref (rf 11 80)), some (.int y0)] [] fi fr (mW ai w) ar N (xQ (some (.int (lowR w y0))) fi fr (mW ai w) ar N)
  cases hx : inR y0 (1000) with
  | false =>
    have hx2 := inR_f hx
    refine e_iload_n dX11_lowOf_0 rfl rfl ?_
    refine x_S1 (M' := mX11_isKey) dX11_lowOf_1 ml_X11_54 ok_X11_isKey rfl sc_X11_isKey (ct_X11_isKey _) (Nat.le_of_ble_eq_true rfl) (by decide) (Nat.le_of_ble_eq_true rfl) ?_
    rw [hx]
    first | ((with_reducible refine mk_b ?_); refine b_if_eq (tgt := 23) dX11_lowOf_4 (by decide) (fun h4 => ?_) (fun h4 => ?_)) | ((with_reducible refine mk_ll ?_); refine m_if_eq (tgt := 23) dX11_lowOf_4 (by decide) (by omega) (by omega) (fun h4 => ?_) (fun h4 => ?_)) | ((with_reducible refine mk_lc ?_); refine l_if_eq (tgt := 23) dX11_lowOf_4 (by decide) (fun h4 => ?_) (fun h4 => ?_)) | ((with_reducible refine mk_n ?_); refine n_if_eq (tgt := 23) dX11_lowOf_4 (by decide) (by omega) (fun h4 => ?_) (fun h4 => ?_)) | refine e_if_eq (tgt := 23) dX11_lowOf_4 (by decide) (fun h4 => ?_) (fun h4 => ?_)
    · try first | contradiction | omega | (simp only [decide_eq_true_eq, decide_eq_false_iff_not] at h4; omega)
      all_goals
        refine e_iconst (v := -1) dX11_lowOf_23 rfl ?_
        refine e_ret (some _) rfl (r_int dX11_lowOf_24 rfl) ?_
        refine xq ?_ rfl rfl rfl rfl rfl
        unfold lowR
        rw [hx]
        rfl
    · try first | contradiction | omega | (simp only [decide_eq_true_eq, decide_eq_false_iff_not] at h4; omega)
      all_goals
        refine e_aload_n dX11_lowOf_7 rfl rfl ?_
        refine e_getR dX11_lowOf_8 fl_X11_7 rfl (by assumption) ?_
        refine e_bipush (v := nI 10) dX11_lowOf_11 rfl ?_
        refine e_aload_n dX11_lowOf_13 rfl rfl ?_
        refine e_iload_n dX11_lowOf_14 rfl rfl ?_
        refine x_V1 (M' := mX11_spanWith) dX11_lowOf_15 ml_X11_58 ok_X11_spanWith (by decide) rfl im_X11_spanWith se_X11_spanWith (ct_X11_spanWith ‹_› ‹_› (by omega)) (Nat.le_of_ble_eq_true rfl) (by decide) (Nat.le_of_ble_eq_true rfl) ?_
        first | ((with_reducible refine mk_nn ?_); refine n_iadd dX11_lowOf_18 ?_) | refine e_iadd dX11_lowOf_18 ?_
        first | ((with_reducible refine mk_ldw ?_); refine e_ldw dX11_lowOf_19 (by omega) ?_) | refine e_iald _ dX11_lowOf_19 ⟨by decide, by decide⟩ rfl rfl (by simp only [lenK]; omega) ?_
        refine e_goto (tgt := 24) dX11_lowOf_20 (by decide) ?_
        refine e_ret (some _) rfl (r_int dX11_lowOf_24 rfl) ?_
        refine xq ?_ rfl rfl rfl rfl rfl
        unfold lowR
        rw [hx]
        rfl
  | true =>
    obtain ⟨a, ha, ha2, rfl⟩ := inR_ex hx
    have hcl : (nI a).toNatClampNeg = a := nI_clamp ha2
    have hs := spW_lt iv a
    refine e_iload_n dX11_lowOf_0 rfl rfl ?_
    refine x_S1 (M' := mX11_isKey) dX11_lowOf_1 ml_X11_54 ok_X11_isKey rfl sc_X11_isKey (ct_X11_isKey _) (Nat.le_of_ble_eq_true rfl) (by decide) (Nat.le_of_ble_eq_true rfl) ?_
    rw [hx]
    first | ((with_reducible refine mk_b ?_); refine b_if_eq (tgt := 23) dX11_lowOf_4 (by decide) (fun h4 => ?_) (fun h4 => ?_)) | ((with_reducible refine mk_ll ?_); refine m_if_eq (tgt := 23) dX11_lowOf_4 (by decide) (by omega) (by omega) (fun h4 => ?_) (fun h4 => ?_)) | ((with_reducible refine mk_lc ?_); refine l_if_eq (tgt := 23) dX11_lowOf_4 (by decide) (fun h4 => ?_) (fun h4 => ?_)) | ((with_reducible refine mk_n ?_); refine n_if_eq (tgt := 23) dX11_lowOf_4 (by decide) (by omega) (fun h4 => ?_) (fun h4 => ?_)) | refine e_if_eq (tgt := 23) dX11_lowOf_4 (by decide) (fun h4 => ?_) (fun h4 => ?_)
    · try first | contradiction | omega | (simp only [decide_eq_true_eq, decide_eq_false_iff_not] at h4; omega)
      all_goals
        refine e_iconst (v := -1) dX11_lowOf_23 rfl ?_
        refine e_ret (some _) rfl (r_int dX11_lowOf_24 rfl) ?_
        refine xq ?_ rfl rfl rfl rfl rfl
        unfold lowR
        rw [hx, hcl]
        rfl
    · try first | contradiction | omega | (simp only [decide_eq_true_eq, decide_eq_false_iff_not] at h4; omega)
      all_goals
        refine e_aload_n dX11_lowOf_7 rfl rfl ?_
        refine e_getR dX11_lowOf_8 fl_X11_7 rfl (by assumption) ?_
        refine e_bipush (v := nI 10) dX11_lowOf_11 rfl ?_
        refine e_aload_n dX11_lowOf_13 rfl rfl ?_
        refine e_iload_n dX11_lowOf_14 rfl rfl ?_
        refine x_V1 (M' := mX11_spanWith) dX11_lowOf_15 ml_X11_58 ok_X11_spanWith (by decide) rfl im_X11_spanWith se_X11_spanWith (ct_X11_spanWith ‹_› ‹_› (by omega)) (Nat.le_of_ble_eq_true rfl) (by decide) (Nat.le_of_ble_eq_true rfl) ?_
        first | ((with_reducible refine mk_nn ?_); refine n_iadd dX11_lowOf_18 ?_) | refine e_iadd dX11_lowOf_18 ?_
        first | ((with_reducible refine mk_ldw ?_); refine e_ldw dX11_lowOf_19 (by omega) ?_) | refine e_iald _ dX11_lowOf_19 ⟨by decide, by decide⟩ rfl rfl (by simp only [lenK]; omega) ?_
        refine e_goto (tgt := 24) dX11_lowOf_20 (by decide) ?_
        refine e_ret (some _) rfl (r_int dX11_lowOf_24 rfl) ?_
        refine xq ?_ rfl rfl rfl rfl rfl
        unfold lowR
        rw [hx, hcl]
        rfl
theorem ct_X11_weight {fi : FI} {fr : FR} {ai : FI} {ar : FR} {N : Nat} {w : Nat → Nat} (sm : SM fr) (iv : Inv w) (y0 : Int32) : CP mX11_weight 2 0 0 [.ref (rf 11 80), .int y0] fi fr (mW ai w) ar N (xQ (some (.long (wgtR w y0))) fi fr (mW ai w) ar N) := by
  obtain ⟨sW, sA, sK, sU, sC, sKC, sT, sCl⟩ := id sm
  have h1 := iv_n iv
  have h3 := iv_mm iv
  change EV mX11_weight 2 0 0 0 [some (.ref (rf 11 80)), some (.int y0)] [] fi fr (mW ai w) ar N (xQ (some (.long (wgtR w y0))) fi fr (mW ai w) ar N)
  cases hx : inR y0 (w 1) with
  | false =>
    have hx2 := inR_f hx
    refine e_aload_n dX11_weight_0 rfl rfl ?_
    refine e_iload_n dX11_weight_1 rfl rfl ?_
    refine x_V1 (M' := mX11_isSpan) dX11_weight_2 ml_X11_317 ok_X11_isSpan (by decide) rfl im_X11_isSpan se_X11_isSpan (ct_X11_isSpan ‹_› ‹_› _) (Nat.le_of_ble_eq_true rfl) (by decide) (Nat.le_of_ble_eq_true rfl) ?_
    rw [hx]
    first | ((with_reducible refine mk_b ?_); refine b_if_eq (tgt := 16) dX11_weight_5 (by decide) (fun h5 => ?_) (fun h5 => ?_)) | ((with_reducible refine mk_ll ?_); refine m_if_eq (tgt := 16) dX11_weight_5 (by decide) (by omega) (by omega) (fun h5 => ?_) (fun h5 => ?_)) | ((with_reducible refine mk_lc ?_); refine l_if_eq (tgt := 16) dX11_weight_5 (by decide) (fun h5 => ?_) (fun h5 => ?_)) | ((with_reducible refine mk_n ?_); refine n_if_eq (tgt := 16) dX11_weight_5 (by decide) (by omega) (fun h5 => ?_) (fun h5 => ?_)) | refine e_if_eq (tgt := 16) dX11_weight_5 (by decide) (fun h5 => ?_) (fun h5 => ?_)
    · try first | contradiction | omega | (simp only [decide_eq_true_eq, decide_eq_false_iff_not] at h5; omega)
      all_goals
        refine e_ldc2 dX11_weight_16 co_X11_326 ?_
        refine e_ret (some _) rfl (r_long dX11_weight_19 rfl) ?_
        refine xq ?_ rfl rfl rfl rfl rfl
        unfold wgtR
        rw [hx]
        rfl
    · try first | contradiction | omega | (simp only [decide_eq_true_eq, decide_eq_false_iff_not] at h5; omega)
      all_goals
        refine e_aload_n dX11_weight_8 rfl rfl ?_
        refine e_iload_n dX11_weight_9 rfl rfl ?_
        refine x_V1 (M' := mX11_weightOf) dX11_weight_10 ml_X11_73 ok_X11_weightOf (by decide) rfl im_X11_weightOf se_X11_weightOf (ct_X11_weightOf ‹_› ‹_› (by omega)) (Nat.le_of_ble_eq_true rfl) (by decide) (Nat.le_of_ble_eq_true rfl) ?_
        refine e_goto (tgt := 19) dX11_weight_13 (by decide) ?_
        refine e_ret (some _) rfl (r_long dX11_weight_19 rfl) ?_
        refine xq ?_ rfl rfl rfl rfl rfl
        unfold wgtR
        rw [hx]
        rfl
  | true =>
    obtain ⟨a, ha, ha2, rfl⟩ := inR_ex hx
    have hcl : (nI a).toNatClampNeg = a := nI_clamp ha2
    refine e_aload_n dX11_weight_0 rfl rfl ?_
    refine e_iload_n dX11_weight_1 rfl rfl ?_
    refine x_V1 (M' := mX11_isSpan) dX11_weight_2 ml_X11_317 ok_X11_isSpan (by decide) rfl im_X11_isSpan se_X11_isSpan (ct_X11_isSpan ‹_› ‹_› _) (Nat.le_of_ble_eq_true rfl) (by decide) (Nat.le_of_ble_eq_true rfl) ?_
    rw [hx]
    first | ((with_reducible refine mk_b ?_); refine b_if_eq (tgt := 16) dX11_weight_5 (by decide) (fun h5 => ?_) (fun h5 => ?_)) | ((with_reducible refine mk_ll ?_); refine m_if_eq (tgt := 16) dX11_weight_5 (by decide) (by omega) (by omega) (fun h5 => ?_) (fun h5 => ?_)) | ((with_reducible refine mk_lc ?_); refine l_if_eq (tgt := 16) dX11_weight_5 (by decide) (fun h5 => ?_) (fun h5 => ?_)) | ((with_reducible refine mk_n ?_); refine n_if_eq (tgt := 16) dX11_weight_5 (by decide) (by omega) (fun h5 => ?_) (fun h5 => ?_)) | refine e_if_eq (tgt := 16) dX11_weight_5 (by decide) (fun h5 => ?_) (fun h5 => ?_)
    · try first | contradiction | omega | (simp only [decide_eq_true_eq, decide_eq_false_iff_not] at h5; omega)
      all_goals
        refine e_ldc2 dX11_weight_16 co_X11_326 ?_
        refine e_ret (some _) rfl (r_long dX11_weight_19 rfl) ?_
        refine xq ?_ rfl rfl rfl rfl rfl
        unfold wgtR
        rw [hx, hcl]
        rfl
    · try first | contradiction | omega | (simp only [decide_eq_true_eq, decide_eq_false_iff_not] at h5; omega)
      all_goals
        refine e_aload_n dX11_weight_8 rfl rfl ?_
        refine e_iload_n dX11_weight_9 rfl rfl ?_
        refine x_V1 (M' := mX11_weightOf) dX11_weight_10 ml_X11_73 ok_X11_weightOf (by decide) rfl im_X11_weightOf se_X11_weightOf (ct_X11_weightOf ‹_› ‹_› (by omega)) (Nat.le_of_ble_eq_true rfl) (by decide) (Nat.le_of_ble_eq_true rfl) ?_
        refine e_goto (tgt := 19) dX11_weight_13 (by decide) ?_
        refine e_ret (some _) rfl (r_long dX11_weight_19 rfl) ?_
        refine xq ?_ rfl rfl rfl rfl rfl
        unfold wgtR
        rw [hx, hcl]
        rfl
theorem ct_X11_middleOf {fi : FI} {fr : FR} {ai : FI} {ar : FR} {N : Nat} {w : Nat → Nat} (sm : SM fr) (iv : Inv w) (y0 : Int32) : CP mX11_middleOf 3 0 0 [.ref (rf 11 80), .int y0] fi fr (mW ai w) ar N (xQ (some (.int (midR w y0))) fi fr (mW ai w) ar N) := by
  obtain ⟨sW, sA, sK, sU, sC, sKC, sT, sCl⟩ := id sm
  have h1 := iv_n iv
  have h3 := iv_mm iv
  change EV mX11_middleOf 3 0 0 0 [some (.ref (rf 11 80)), some (.int y0)] [] fi fr (mW ai w) ar N (xQ (some (.int (midR w y0))) fi fr (mW ai w) ar N)
  cases hx : inR y0 (w 1) with
  | false =>
    have hx2 := inR_f hx
    refine e_aload_n dX11_middleOf_0 rfl rfl ?_
    refine e_iload_n dX11_middleOf_1 rfl rfl ?_
    refine x_V1 (M' := mX11_isSpan) dX11_middleOf_2 ml_X11_317 ok_X11_isSpan (by decide) rfl im_X11_isSpan se_X11_isSpan (ct_X11_isSpan ‹_› ‹_› _) (Nat.le_of_ble_eq_true rfl) (by decide) (Nat.le_of_ble_eq_true rfl) ?_
    rw [hx]
    first | ((with_reducible refine mk_b ?_); refine b_if_eq (tgt := 16) dX11_middleOf_5 (by decide) (fun h5 => ?_) (fun h5 => ?_)) | ((with_reducible refine mk_ll ?_); refine m_if_eq (tgt := 16) dX11_middleOf_5 (by decide) (by omega) (by omega) (fun h5 => ?_) (fun h5 => ?_)) | ((with_reducible refine mk_lc ?_); refine l_if_eq (tgt := 16) dX11_middleOf_5 (by decide) (fun h5 => ?_) (fun h5 => ?_)) | ((with_reducible refine mk_n ?_); refine n_if_eq (tgt := 16) dX11_middleOf_5 (by decide) (by omega) (fun h5 => ?_) (fun h5 => ?_)) | refine e_if_eq (tgt := 16) dX11_middleOf_5 (by decide) (fun h5 => ?_) (fun h5 => ?_)
    · try first | contradiction | omega | (simp only [decide_eq_true_eq, decide_eq_false_iff_not] at h5; omega)
      all_goals
        refine e_iconst (v := -1) dX11_middleOf_16 rfl ?_
        refine e_ret (some _) rfl (r_int dX11_middleOf_17 rfl) ?_
        refine xq ?_ rfl rfl rfl rfl rfl
        unfold midR
        rw [hx]
        rfl
    · try first | contradiction | omega | (simp only [decide_eq_true_eq, decide_eq_false_iff_not] at h5; omega)
      all_goals
        refine e_aload_n dX11_middleOf_8 rfl rfl ?_
        refine e_iload_n dX11_middleOf_9 rfl rfl ?_
        refine x_V1 (M' := mX11_middleIn) dX11_middleOf_10 ml_X11_107 ok_X11_middleIn (by decide) rfl im_X11_middleIn se_X11_middleIn (ct_X11_middleIn ‹_› ‹_› (by omega)) (Nat.le_of_ble_eq_true rfl) (by decide) (Nat.le_of_ble_eq_true rfl) ?_
        refine e_goto (tgt := 17) dX11_middleOf_13 (by decide) ?_
        refine e_ret (some _) rfl (r_int dX11_middleOf_17 rfl) ?_
        refine xq ?_ rfl rfl rfl rfl rfl
        unfold midR
        rw [hx]
        rfl
  | true =>
    obtain ⟨a, ha, ha2, rfl⟩ := inR_ex hx
    have hcl : (nI a).toNatClampNeg = a := nI_clamp ha2
    refine e_aload_n dX11_middleOf_0 rfl rfl ?_
    refine e_iload_n dX11_middleOf_1 rfl rfl ?_
    refine x_V1 (M' := mX11_isSpan) dX11_middleOf_2 ml_X11_317 ok_X11_isSpan (by decide) rfl im_X11_isSpan se_X11_isSpan (ct_X11_isSpan ‹_› ‹_› _) (Nat.le_of_ble_eq_true rfl) (by decide) (Nat.le_of_ble_eq_true rfl) ?_
    rw [hx]
    first | ((with_reducible refine mk_b ?_); refine b_if_eq (tgt := 16) dX11_middleOf_5 (by decide) (fun h5 => ?_) (fun h5 => ?_)) | ((with_reducible refine mk_ll ?_); refine m_if_eq (tgt := 16) dX11_middleOf_5 (by decide) (by omega) (by omega) (fun h5 => ?_) (fun h5 => ?_)) | ((with_reducible refine mk_lc ?_); refine l_if_eq (tgt := 16) dX11_middleOf_5 (by decide) (fun h5 => ?_) (fun h5 => ?_)) | ((with_reducible refine mk_n ?_); refine n_if_eq (tgt := 16) dX11_middleOf_5 (by decide) (by omega) (fun h5 => ?_) (fun h5 => ?_)) | refine e_if_eq (tgt := 16) dX11_middleOf_5 (by decide) (fun h5 => ?_) (fun h5 => ?_)
    · try first | contradiction | omega | (simp only [decide_eq_true_eq, decide_eq_false_iff_not] at h5; omega)
      all_goals
        refine e_iconst (v := -1) dX11_middleOf_16 rfl ?_
        refine e_ret (some _) rfl (r_int dX11_middleOf_17 rfl) ?_
        refine xq ?_ rfl rfl rfl rfl rfl
        unfold midR
        rw [hx, hcl]
        rfl
    · try first | contradiction | omega | (simp only [decide_eq_true_eq, decide_eq_false_iff_not] at h5; omega)
      all_goals
        refine e_aload_n dX11_middleOf_8 rfl rfl ?_
        refine e_iload_n dX11_middleOf_9 rfl rfl ?_
        refine x_V1 (M' := mX11_middleIn) dX11_middleOf_10 ml_X11_107 ok_X11_middleIn (by decide) rfl im_X11_middleIn se_X11_middleIn (ct_X11_middleIn ‹_› ‹_› (by omega)) (Nat.le_of_ble_eq_true rfl) (by decide) (Nat.le_of_ble_eq_true rfl) ?_
        refine e_goto (tgt := 17) dX11_middleOf_13 (by decide) ?_
        refine e_ret (some _) rfl (r_int dX11_middleOf_17 rfl) ?_
        refine xq ?_ rfl rfl rfl rfl rfl
        unfold midR
        rw [hx, hcl]
        rfl
theorem ct_X11_load {fi : FI} {fr : FR} {ai : FI} {ar : FR} {N : Nat} {w : Nat → Nat} (sm : SM fr) (iv : Inv w) (y0 : Int32) : CP mX11_load 3 0 0 [.ref (rf 11 80), .int y0] fi fr (mW ai w) ar N (xQ (some (.long (loaR w y0))) fi fr (mW ai w) ar N) := by
  obtain ⟨sW, sA, sK, sU, sC, sKC, sT, sCl⟩ := id sm
  have h1 := iv_n iv
  have h3 := iv_mm iv
  change EV mX11_load 3 0 0 0 [some (.ref (rf 11 80)), some (.int y0)] [] fi fr (mW ai w) ar N (xQ (some (.long (loaR w y0))) fi fr (mW ai w) ar N)
  cases hx : inR y0 (6) with
  | false =>
    have hx2 := inR_f hx
    refine e_iload_n dX11_load_0 rfl rfl ?_
    refine x_S1 (M' := mX11_isServer) dX11_load_1 ml_X11_161 ok_X11_isServer rfl sc_X11_isServer (ct_X11_isServer _) (Nat.le_of_ble_eq_true rfl) (by decide) (Nat.le_of_ble_eq_true rfl) ?_
    rw [hx]
    first | ((with_reducible refine mk_b ?_); refine b_if_eq (tgt := 15) dX11_load_4 (by decide) (fun h4 => ?_) (fun h4 => ?_)) | ((with_reducible refine mk_ll ?_); refine m_if_eq (tgt := 15) dX11_load_4 (by decide) (by omega) (by omega) (fun h4 => ?_) (fun h4 => ?_)) | ((with_reducible refine mk_lc ?_); refine l_if_eq (tgt := 15) dX11_load_4 (by decide) (fun h4 => ?_) (fun h4 => ?_)) | ((with_reducible refine mk_n ?_); refine n_if_eq (tgt := 15) dX11_load_4 (by decide) (by omega) (fun h4 => ?_) (fun h4 => ?_)) | refine e_if_eq (tgt := 15) dX11_load_4 (by decide) (fun h4 => ?_) (fun h4 => ?_)
    · try first | contradiction | omega | (simp only [decide_eq_true_eq, decide_eq_false_iff_not] at h4; omega)
      all_goals
        refine e_ldc2 dX11_load_15 co_X11_326 ?_
        refine e_ret (some _) rfl (r_long dX11_load_18 rfl) ?_
        refine xq ?_ rfl rfl rfl rfl rfl
        unfold loaR
        rw [hx]
        rfl
    · try first | contradiction | omega | (simp only [decide_eq_true_eq, decide_eq_false_iff_not] at h4; omega)
      all_goals
        refine e_aload_n dX11_load_7 rfl rfl ?_
        refine e_iload_n dX11_load_8 rfl rfl ?_
        refine x_V1 (M' := mX11_loadOf) dX11_load_9 ml_X11_337 ok_X11_loadOf (by decide) rfl im_X11_loadOf se_X11_loadOf (ct_X11_loadOf ‹_› ‹_› (by omega)) (Nat.le_of_ble_eq_true rfl) (by decide) (Nat.le_of_ble_eq_true rfl) ?_
        refine e_goto (tgt := 18) dX11_load_12 (by decide) ?_
        refine e_ret (some _) rfl (r_long dX11_load_18 rfl) ?_
        refine xq ?_ rfl rfl rfl rfl rfl
        unfold loaR
        rw [hx]
        rfl
  | true =>
    obtain ⟨a, ha, ha2, rfl⟩ := inR_ex hx
    have hcl : (nI a).toNatClampNeg = a := nI_clamp ha2
    refine e_iload_n dX11_load_0 rfl rfl ?_
    refine x_S1 (M' := mX11_isServer) dX11_load_1 ml_X11_161 ok_X11_isServer rfl sc_X11_isServer (ct_X11_isServer _) (Nat.le_of_ble_eq_true rfl) (by decide) (Nat.le_of_ble_eq_true rfl) ?_
    rw [hx]
    first | ((with_reducible refine mk_b ?_); refine b_if_eq (tgt := 15) dX11_load_4 (by decide) (fun h4 => ?_) (fun h4 => ?_)) | ((with_reducible refine mk_ll ?_); refine m_if_eq (tgt := 15) dX11_load_4 (by decide) (by omega) (by omega) (fun h4 => ?_) (fun h4 => ?_)) | ((with_reducible refine mk_lc ?_); refine l_if_eq (tgt := 15) dX11_load_4 (by decide) (fun h4 => ?_) (fun h4 => ?_)) | ((with_reducible refine mk_n ?_); refine n_if_eq (tgt := 15) dX11_load_4 (by decide) (by omega) (fun h4 => ?_) (fun h4 => ?_)) | refine e_if_eq (tgt := 15) dX11_load_4 (by decide) (fun h4 => ?_) (fun h4 => ?_)
    · try first | contradiction | omega | (simp only [decide_eq_true_eq, decide_eq_false_iff_not] at h4; omega)
      all_goals
        refine e_ldc2 dX11_load_15 co_X11_326 ?_
        refine e_ret (some _) rfl (r_long dX11_load_18 rfl) ?_
        refine xq ?_ rfl rfl rfl rfl rfl
        unfold loaR
        rw [hx, hcl]
        rfl
    · try first | contradiction | omega | (simp only [decide_eq_true_eq, decide_eq_false_iff_not] at h4; omega)
      all_goals
        refine e_aload_n dX11_load_7 rfl rfl ?_
        refine e_iload_n dX11_load_8 rfl rfl ?_
        refine x_V1 (M' := mX11_loadOf) dX11_load_9 ml_X11_337 ok_X11_loadOf (by decide) rfl im_X11_loadOf se_X11_loadOf (ct_X11_loadOf ‹_› ‹_› (by omega)) (Nat.le_of_ble_eq_true rfl) (by decide) (Nat.le_of_ble_eq_true rfl) ?_
        refine e_goto (tgt := 18) dX11_load_12 (by decide) ?_
        refine e_ret (some _) rfl (r_long dX11_load_18 rfl) ?_
        refine xq ?_ rfl rfl rfl rfl rfl
        unfold loaR
        rw [hx, hcl]
        rfl
theorem ct_X11_count {fi : FI} {fr : FR} {ai : FI} {ar : FR} {N : Nat} {w : Nat → Nat} (sm : SM fr) (iv : Inv w) (y0 : Int32) : CP mX11_count 1 0 0 [.ref (rf 11 80), .int y0] fi fr (mW ai w) ar N (xQ (some (.int (couR w y0))) fi fr (mW ai w) ar N) := by
  obtain ⟨sW, sA, sK, sU, sC, sKC, sT, sCl⟩ := id sm
  have h1 := iv_n iv
  have h3 := iv_mm iv
  change EV mX11_count 1 0 0 0 [some (.ref (rf 11 80)), some (.int y0)] [] fi fr (mW ai w) ar N (xQ (some (.int (couR w y0))) fi fr (mW ai w) ar N)
  cases hx : inR y0 (15) with
  | false =>
    have hx2 := inR_f hx
    refine e_iload_n dX11_count_0 rfl rfl ?_
    first | ((with_reducible refine mk_n ?_); refine n_i2l dX11_count_1 (by omega) ?_) | refine e_i2l dX11_count_1 ?_
    refine e_lconst (v := lN 0) dX11_count_2 rfl ?_
    refine e_ldc2 dX11_count_3 co_X11_401 ?_
    refine x_S3 (M' := mX11_isIn) dX11_count_6 ml_X11_45 ok_X11_isIn rfl sc_X11_isIn (by first | ((with_reducible refine ct_isInN ?_ ?_ ?_) <;> omega) | ((with_reducible refine ct_isInX ?_ ?_) <;> omega) | exact ct_X11_isIn _ _ _) (Nat.le_of_ble_eq_true rfl) (by decide) (Nat.le_of_ble_eq_true rfl) ?_
    first | ((with_reducible refine mk_b ?_); refine b_if_eq (tgt := 25) dX11_count_9 (by decide) (fun h9 => ?_) (fun h9 => ?_)) | ((with_reducible refine mk_ll ?_); refine m_if_eq (tgt := 25) dX11_count_9 (by decide) (by omega) (by omega) (fun h9 => ?_) (fun h9 => ?_)) | ((with_reducible refine mk_lc ?_); refine l_if_eq (tgt := 25) dX11_count_9 (by decide) (fun h9 => ?_) (fun h9 => ?_)) | ((with_reducible refine mk_n ?_); refine n_if_eq (tgt := 25) dX11_count_9 (by decide) (by omega) (fun h9 => ?_) (fun h9 => ?_)) | refine e_if_eq (tgt := 25) dX11_count_9 (by decide) (fun h9 => ?_) (fun h9 => ?_)
    · try first | contradiction | omega | (simp only [decide_eq_true_eq, decide_eq_false_iff_not] at h9; omega)
      all_goals
        refine e_iconst (v := -1) dX11_count_25 rfl ?_
        refine e_ret (some _) rfl (r_int dX11_count_26 rfl) ?_
        refine xq ?_ rfl rfl rfl rfl rfl
        unfold couR
        rw [hx]
        rfl
    · try first | contradiction | omega | (simp only [decide_eq_true_eq, decide_eq_false_iff_not] at h9; omega)
      all_goals
        refine e_aload_n dX11_count_12 rfl rfl ?_
        refine e_getR dX11_count_13 fl_X11_7 rfl (by assumption) ?_
        refine e_sipush (v := nI 8558) dX11_count_16 rfl ?_
        refine e_iload_n dX11_count_19 rfl rfl ?_
        first | ((with_reducible refine mk_nn ?_); refine n_iadd dX11_count_20 ?_) | refine e_iadd dX11_count_20 ?_
        first | ((with_reducible refine mk_ldw ?_); refine e_ldw dX11_count_21 (by omega) ?_) | refine e_iald _ dX11_count_21 ⟨by decide, by decide⟩ rfl rfl (by simp only [lenK]; omega) ?_
        refine e_goto (tgt := 26) dX11_count_22 (by decide) ?_
        refine e_ret (some _) rfl (r_int dX11_count_26 rfl) ?_
        refine xq ?_ rfl rfl rfl rfl rfl
        unfold couR
        rw [hx]
        rfl
  | true =>
    obtain ⟨a, ha, ha2, rfl⟩ := inR_ex hx
    have hcl : (nI a).toNatClampNeg = a := nI_clamp ha2
    refine e_iload_n dX11_count_0 rfl rfl ?_
    first | ((with_reducible refine mk_n ?_); refine n_i2l dX11_count_1 (by omega) ?_) | refine e_i2l dX11_count_1 ?_
    refine e_lconst (v := lN 0) dX11_count_2 rfl ?_
    refine e_ldc2 dX11_count_3 co_X11_401 ?_
    refine x_S3 (M' := mX11_isIn) dX11_count_6 ml_X11_45 ok_X11_isIn rfl sc_X11_isIn (by first | ((with_reducible refine ct_isInN ?_ ?_ ?_) <;> omega) | ((with_reducible refine ct_isInX ?_ ?_) <;> omega) | exact ct_X11_isIn _ _ _) (Nat.le_of_ble_eq_true rfl) (by decide) (Nat.le_of_ble_eq_true rfl) ?_
    first | ((with_reducible refine mk_b ?_); refine b_if_eq (tgt := 25) dX11_count_9 (by decide) (fun h9 => ?_) (fun h9 => ?_)) | ((with_reducible refine mk_ll ?_); refine m_if_eq (tgt := 25) dX11_count_9 (by decide) (by omega) (by omega) (fun h9 => ?_) (fun h9 => ?_)) | ((with_reducible refine mk_lc ?_); refine l_if_eq (tgt := 25) dX11_count_9 (by decide) (fun h9 => ?_) (fun h9 => ?_)) | ((with_reducible refine mk_n ?_); refine n_if_eq (tgt := 25) dX11_count_9 (by decide) (by omega) (fun h9 => ?_) (fun h9 => ?_)) | refine e_if_eq (tgt := 25) dX11_count_9 (by decide) (fun h9 => ?_) (fun h9 => ?_)
    · try first | contradiction | omega | (simp only [decide_eq_true_eq, decide_eq_false_iff_not] at h9; omega)
      all_goals
        refine e_iconst (v := -1) dX11_count_25 rfl ?_
        refine e_ret (some _) rfl (r_int dX11_count_26 rfl) ?_
        refine xq ?_ rfl rfl rfl rfl rfl
        unfold couR
        rw [hx, hcl]
        rfl
    · try first | contradiction | omega | (simp only [decide_eq_true_eq, decide_eq_false_iff_not] at h9; omega)
      all_goals
        refine e_aload_n dX11_count_12 rfl rfl ?_
        refine e_getR dX11_count_13 fl_X11_7 rfl (by assumption) ?_
        refine e_sipush (v := nI 8558) dX11_count_16 rfl ?_
        refine e_iload_n dX11_count_19 rfl rfl ?_
        first | ((with_reducible refine mk_nn ?_); refine n_iadd dX11_count_20 ?_) | refine e_iadd dX11_count_20 ?_
        first | ((with_reducible refine mk_ldw ?_); refine e_ldw dX11_count_21 (by omega) ?_) | refine e_iald _ dX11_count_21 ⟨by decide, by decide⟩ rfl rfl (by simp only [lenK]; omega) ?_
        refine e_goto (tgt := 26) dX11_count_22 (by decide) ?_
        refine e_ret (some _) rfl (r_int dX11_count_26 rfl) ?_
        refine xq ?_ rfl rfl rfl rfl rfl
        unfold couR
        rw [hx, hcl]
        rfl
theorem ct_X11_stored {fi : FI} {fr : FR} {ai : FI} {ar : FR} {N : Nat} {w : Nat → Nat} (sm : SM fr) (iv : Inv w) (y0 y1 : Int32) : CP mX11_stored 2 0 0 [.ref (rf 11 80), .int y0, .int y1] fi fr (mW ai w) ar N (xQ (some (.int (stoR w y0 y1))) fi fr (mW ai w) ar N) := by
  obtain ⟨sW, sA, sK, sU, sC, sKC, sT, sCl⟩ := id sm
  have h1 := iv_n iv
  have h3 := iv_mm iv
  change EV mX11_stored 2 0 0 0 [some (.ref (rf 11 80)), some (.int y0), some (.int y1)] [] fi fr (mW ai w) ar N (xQ (some (.int (stoR w y0 y1))) fi fr (mW ai w) ar N)
  cases hx : inR y0 (6) with
  | false =>
    have hx2 := inR_f hx
    refine e_iload_n dX11_stored_0 rfl rfl ?_
    refine x_S1 (M' := mX11_isServer) dX11_stored_1 ml_X11_161 ok_X11_isServer rfl sc_X11_isServer (ct_X11_isServer _) (Nat.le_of_ble_eq_true rfl) (by decide) (Nat.le_of_ble_eq_true rfl) ?_
    rw [hx]
    first | ((with_reducible refine mk_b ?_); refine b_if_eq (tgt := 27) dX11_stored_4 (by decide) (fun h4 => ?_) (fun h4 => ?_)) | ((with_reducible refine mk_ll ?_); refine m_if_eq (tgt := 27) dX11_stored_4 (by decide) (by omega) (by omega) (fun h4 => ?_) (fun h4 => ?_)) | ((with_reducible refine mk_lc ?_); refine l_if_eq (tgt := 27) dX11_stored_4 (by decide) (fun h4 => ?_) (fun h4 => ?_)) | ((with_reducible refine mk_n ?_); refine n_if_eq (tgt := 27) dX11_stored_4 (by decide) (by omega) (fun h4 => ?_) (fun h4 => ?_)) | refine e_if_eq (tgt := 27) dX11_stored_4 (by decide) (fun h4 => ?_) (fun h4 => ?_)
    · try first | contradiction | omega | (simp only [decide_eq_true_eq, decide_eq_false_iff_not] at h4; omega)
      all_goals
        refine e_iconst (v := -1) dX11_stored_27 rfl ?_
        refine e_ret (some _) rfl (r_int dX11_stored_28 rfl) ?_
        refine xq ?_ rfl rfl rfl rfl rfl
        unfold stoR
        grind
    · try first | contradiction | omega | (simp only [decide_eq_true_eq, decide_eq_false_iff_not] at h4; omega)
      all_goals
        refine e_iload_n dX11_stored_7 rfl rfl ?_
        refine x_S1 (M' := mX11_isKey) dX11_stored_8 ml_X11_54 ok_X11_isKey rfl sc_X11_isKey (ct_X11_isKey _) (Nat.le_of_ble_eq_true rfl) (by decide) (Nat.le_of_ble_eq_true rfl) ?_
        rw [hy]
        first | ((with_reducible refine mk_b ?_); refine b_if_eq (tgt := 27) dX11_stored_11 (by decide) (fun h11 => ?_) (fun h11 => ?_)) | ((with_reducible refine mk_ll ?_); refine m_if_eq (tgt := 27) dX11_stored_11 (by decide) (by omega) (by omega) (fun h11 => ?_) (fun h11 => ?_)) | ((with_reducible refine mk_lc ?_); refine l_if_eq (tgt := 27) dX11_stored_11 (by decide) (fun h11 => ?_) (fun h11 => ?_)) | ((with_reducible refine mk_n ?_); refine n_if_eq (tgt := 27) dX11_stored_11 (by decide) (by omega) (fun h11 => ?_) (fun h11 => ?_)) | refine e_if_eq (tgt := 27) dX11_stored_11 (by decide) (fun h11 => ?_) (fun h11 => ?_)
        · try first | contradiction | omega | (simp only [decide_eq_true_eq, decide_eq_false_iff_not] at h11; omega)
          all_goals
            refine e_iconst (v := -1) dX11_stored_27 rfl ?_
            refine e_ret (some _) rfl (r_int dX11_stored_28 rfl) ?_
            refine xq ?_ rfl rfl rfl rfl rfl
            unfold stoR
            grind
        · try first | contradiction | omega | (simp only [decide_eq_true_eq, decide_eq_false_iff_not] at h11; omega)
          all_goals
            refine e_aload_n dX11_stored_14 rfl rfl ?_
            refine e_getR dX11_stored_15 fl_X11_7 rfl (by assumption) ?_
            refine e_iload_n dX11_stored_18 rfl rfl ?_
            refine e_iload_n dX11_stored_19 rfl rfl ?_
            refine x_S2 (M' := mX11_storeAt) dX11_stored_20 ml_X11_136 ok_X11_storeAt rfl sc_X11_storeAt (ct_X11_storeAt) (Nat.le_of_ble_eq_true rfl) (by decide) (Nat.le_of_ble_eq_true rfl) ?_
            first | ((with_reducible refine mk_ldw ?_); refine e_ldw dX11_stored_23 (by omega) ?_) | refine e_iald _ dX11_stored_23 ⟨by decide, by decide⟩ rfl rfl (by simp only [lenK]; omega) ?_
            refine e_goto (tgt := 28) dX11_stored_24 (by decide) ?_
            refine e_ret (some _) rfl (r_int dX11_stored_28 rfl) ?_
            refine xq ?_ rfl rfl rfl rfl rfl
            unfold stoR
            grind
  | true =>
    obtain ⟨a, ha, ha2, rfl⟩ := inR_ex hx
    have hcl : (nI a).toNatClampNeg = a := nI_clamp ha2
    cases hy : inR y1 (1000) with
    | false =>
      have hy2 := inR_f hy
      refine e_iload_n dX11_stored_0 rfl rfl ?_
      refine x_S1 (M' := mX11_isServer) dX11_stored_1 ml_X11_161 ok_X11_isServer rfl sc_X11_isServer (ct_X11_isServer _) (Nat.le_of_ble_eq_true rfl) (by decide) (Nat.le_of_ble_eq_true rfl) ?_
      rw [hx]
      first | ((with_reducible refine mk_b ?_); refine b_if_eq (tgt := 27) dX11_stored_4 (by decide) (fun h4 => ?_) (fun h4 => ?_)) | ((with_reducible refine mk_ll ?_); refine m_if_eq (tgt := 27) dX11_stored_4 (by decide) (by omega) (by omega) (fun h4 => ?_) (fun h4 => ?_)) | ((with_reducible refine mk_lc ?_); refine l_if_eq (tgt := 27) dX11_stored_4 (by decide) (fun h4 => ?_) (fun h4 => ?_)) | ((with_reducible refine mk_n ?_); refine n_if_eq (tgt := 27) dX11_stored_4 (by decide) (by omega) (fun h4 => ?_) (fun h4 => ?_)) | refine e_if_eq (tgt := 27) dX11_stored_4 (by decide) (fun h4 => ?_) (fun h4 => ?_)
      · try first | contradiction | omega | (simp only [decide_eq_true_eq, decide_eq_false_iff_not] at h4; omega)
        all_goals
          refine e_iconst (v := -1) dX11_stored_27 rfl ?_
          refine e_ret (some _) rfl (r_int dX11_stored_28 rfl) ?_
          refine xq ?_ rfl rfl rfl rfl rfl
          unfold stoR
          grind
      · try first | contradiction | omega | (simp only [decide_eq_true_eq, decide_eq_false_iff_not] at h4; omega)
        all_goals
          refine e_iload_n dX11_stored_7 rfl rfl ?_
          refine x_S1 (M' := mX11_isKey) dX11_stored_8 ml_X11_54 ok_X11_isKey rfl sc_X11_isKey (ct_X11_isKey _) (Nat.le_of_ble_eq_true rfl) (by decide) (Nat.le_of_ble_eq_true rfl) ?_
          rw [hy]
          first | ((with_reducible refine mk_b ?_); refine b_if_eq (tgt := 27) dX11_stored_11 (by decide) (fun h11 => ?_) (fun h11 => ?_)) | ((with_reducible refine mk_ll ?_); refine m_if_eq (tgt := 27) dX11_stored_11 (by decide) (by omega) (by omega) (fun h11 => ?_) (fun h11 => ?_)) | ((with_reducible refine mk_lc ?_); refine l_if_eq (tgt := 27) dX11_stored_11 (by decide) (fun h11 => ?_) (fun h11 => ?_)) | ((with_reducible refine mk_n ?_); refine n_if_eq (tgt := 27) dX11_stored_11 (by decide) (by omega) (fun h11 => ?_) (fun h11 => ?_)) | refine e_if_eq (tgt := 27) dX11_stored_11 (by decide) (fun h11 => ?_) (fun h11 => ?_)
          · try first | contradiction | omega | (simp only [decide_eq_true_eq, decide_eq_false_iff_not] at h11; omega)
            all_goals
              refine e_iconst (v := -1) dX11_stored_27 rfl ?_
              refine e_ret (some _) rfl (r_int dX11_stored_28 rfl) ?_
              refine xq ?_ rfl rfl rfl rfl rfl
              unfold stoR
              grind
          · try first | contradiction | omega | (simp only [decide_eq_true_eq, decide_eq_false_iff_not] at h11; omega)
            all_goals
              refine e_aload_n dX11_stored_14 rfl rfl ?_
              refine e_getR dX11_stored_15 fl_X11_7 rfl (by assumption) ?_
              refine e_iload_n dX11_stored_18 rfl rfl ?_
              refine e_iload_n dX11_stored_19 rfl rfl ?_
              refine x_S2 (M' := mX11_storeAt) dX11_stored_20 ml_X11_136 ok_X11_storeAt rfl sc_X11_storeAt (ct_X11_storeAt) (Nat.le_of_ble_eq_true rfl) (by decide) (Nat.le_of_ble_eq_true rfl) ?_
              first | ((with_reducible refine mk_ldw ?_); refine e_ldw dX11_stored_23 (by omega) ?_) | refine e_iald _ dX11_stored_23 ⟨by decide, by decide⟩ rfl rfl (by simp only [lenK]; omega) ?_
              refine e_goto (tgt := 28) dX11_stored_24 (by decide) ?_
              refine e_ret (some _) rfl (r_int dX11_stored_28 rfl) ?_
              refine xq ?_ rfl rfl rfl rfl rfl
              unfold stoR
              grind
    | true =>
      obtain ⟨b, hb, hb2, rfl⟩ := inR_ex hy
      have hcl2 : (nI b).toNatClampNeg = b := nI_clamp hb2
      refine e_iload_n dX11_stored_0 rfl rfl ?_
      refine x_S1 (M' := mX11_isServer) dX11_stored_1 ml_X11_161 ok_X11_isServer rfl sc_X11_isServer (ct_X11_isServer _) (Nat.le_of_ble_eq_true rfl) (by decide) (Nat.le_of_ble_eq_true rfl) ?_
      rw [hx]
      first | ((with_reducible refine mk_b ?_); refine b_if_eq (tgt := 27) dX11_stored_4 (by decide) (fun h4 => ?_) (fun h4 => ?_)) | ((with_reducible refine mk_ll ?_); refine m_if_eq (tgt := 27) dX11_stored_4 (by decide) (by omega) (by omega) (fun h4 => ?_) (fun h4 => ?_)) | ((with_reducible refine mk_lc ?_); refine l_if_eq (tgt := 27) dX11_stored_4 (by decide) (fun h4 => ?_) (fun h4 => ?_)) | ((with_reducible refine mk_n ?_); refine n_if_eq (tgt := 27) dX11_stored_4 (by decide) (by omega) (fun h4 => ?_) (fun h4 => ?_)) | refine e_if_eq (tgt := 27) dX11_stored_4 (by decide) (fun h4 => ?_) (fun h4 => ?_)
      · try first | contradiction | omega | (simp only [decide_eq_true_eq, decide_eq_false_iff_not] at h4; omega)
        all_goals
          refine e_iconst (v := -1) dX11_stored_27 rfl ?_
          refine e_ret (some _) rfl (r_int dX11_stored_28 rfl) ?_
          refine xq ?_ rfl rfl rfl rfl rfl
          unfold stoR
          grind
      · try first | contradiction | omega | (simp only [decide_eq_true_eq, decide_eq_false_iff_not] at h4; omega)
        all_goals
          refine e_iload_n dX11_stored_7 rfl rfl ?_
          refine x_S1 (M' := mX11_isKey) dX11_stored_8 ml_X11_54 ok_X11_isKey rfl sc_X11_isKey (ct_X11_isKey _) (Nat.le_of_ble_eq_true rfl) (by decide) (Nat.le_of_ble_eq_true rfl) ?_
          rw [hy]
          first | ((with_reducible refine mk_b ?_); refine b_if_eq (tgt := 27) dX11_stored_11 (by decide) (fun h11 => ?_) (fun h11 => ?_)) | ((with_reducible refine mk_ll ?_); refine m_if_eq (tgt := 27) dX11_stored_11 (by decide) (by omega) (by omega) (fun h11 => ?_) (fun h11 => ?_)) | ((with_reducible refine mk_lc ?_); refine l_if_eq (tgt := 27) dX11_stored_11 (by decide) (fun h11 => ?_) (fun h11 => ?_)) | ((with_reducible refine mk_n ?_); refine n_if_eq (tgt := 27) dX11_stored_11 (by decide) (by omega) (fun h11 => ?_) (fun h11 => ?_)) | refine e_if_eq (tgt := 27) dX11_stored_11 (by decide) (fun h11 => ?_) (fun h11 => ?_)
          · try first | contradiction | omega | (simp only [decide_eq_true_eq, decide_eq_false_iff_not] at h11; omega)
            all_goals
              refine e_iconst (v := -1) dX11_stored_27 rfl ?_
              refine e_ret (some _) rfl (r_int dX11_stored_28 rfl) ?_
              refine xq ?_ rfl rfl rfl rfl rfl
              unfold stoR
              grind
          · try first | contradiction | omega | (simp only [decide_eq_true_eq, decide_eq_false_iff_not] at h11; omega)
            all_goals
              refine e_aload_n dX11_stored_14 rfl rfl ?_
              refine e_getR dX11_stored_15 fl_X11_7 rfl (by assumption) ?_
              refine e_iload_n dX11_stored_18 rfl rfl ?_
              refine e_iload_n dX11_stored_19 rfl rfl ?_
              refine x_S2 (M' := mX11_storeAt) dX11_stored_20 ml_X11_136 ok_X11_storeAt rfl sc_X11_storeAt (ct_X11_storeAt) (Nat.le_of_ble_eq_true rfl) (by decide) (Nat.le_of_ble_eq_true rfl) ?_
              first | ((with_reducible refine mk_ldw ?_); refine e_ldw dX11_stored_23 (by omega) ?_) | refine e_iald _ dX11_stored_23 ⟨by decide, by decide⟩ rfl rfl (by simp only [lenK]; omega) ?_
              refine e_goto (tgt := 28) dX11_stored_24 (by decide) ?_
              refine e_ret (some _) rfl (r_int dX11_stored_28 rfl) ?_
              refine xq ?_ rfl rfl rfl rfl rfl
              unfold stoR
              grind
theorem ct_X11_moveOf {fi : FI} {fr : FR} {ai : FI} {ar : FR} {N : Nat} {w : Nat → Nat} (sm : SM fr) (iv : Inv w) (y0 y1 : Int32) : CP mX11_moveOf 2 0 0 [.ref (rf 11 80), .int y0, .int y1] fi fr (mW ai w) ar N (xQ (some (.int (mofR w y0 y1))) fi fr (mW ai w) ar N) := by
  obtain ⟨sW, sA, sK, sU, sC, sKC, sT, sCl⟩ := id sm
  have h1 := iv_n iv
  have h3 := iv_mm iv
  change EV mX11_moveOf 2 0 0 0 [some (.ref (rf 11 80)), some (.int y0), some (.int y1)] [] fi fr (mW ai w) ar N (xQ (some (.int (mofR w y0 y1))) fi fr (mW ai w) ar N)
  cases hx : inR y0 (w 3) with
  | false =>
    have hx2 := inR_f hx
    refine e_aload_n dX11_moveOf_0 rfl rfl ?_
    refine e_iload_n dX11_moveOf_1 rfl rfl ?_
    refine x_V1 (M' := mX11_isMove) dX11_moveOf_2 ml_X11_189 ok_X11_isMove (by decide) rfl im_X11_isMove se_X11_isMove (ct_X11_isMove ‹_› ‹_› _) (Nat.le_of_ble_eq_true rfl) (by decide) (Nat.le_of_ble_eq_true rfl) ?_
    rw [hx]
    first | ((with_reducible refine mk_b ?_); refine b_if_eq (tgt := 34) dX11_moveOf_5 (by decide) (fun h5 => ?_) (fun h5 => ?_)) | ((with_reducible refine mk_ll ?_); refine m_if_eq (tgt := 34) dX11_moveOf_5 (by decide) (by omega) (by omega) (fun h5 => ?_) (fun h5 => ?_)) | ((with_reducible refine mk_lc ?_); refine l_if_eq (tgt := 34) dX11_moveOf_5 (by decide) (fun h5 => ?_) (fun h5 => ?_)) | ((with_reducible refine mk_n ?_); refine n_if_eq (tgt := 34) dX11_moveOf_5 (by decide) (by omega) (fun h5 => ?_) (fun h5 => ?_)) | refine e_if_eq (tgt := 34) dX11_moveOf_5 (by decide) (fun h5 => ?_) (fun h5 => ?_)
    · try first | contradiction | omega | (simp only [decide_eq_true_eq, decide_eq_false_iff_not] at h5; omega)
      all_goals
        refine e_iconst (v := -1) dX11_moveOf_34 rfl ?_
        refine e_ret (some _) rfl (r_int dX11_moveOf_35 rfl) ?_
        refine xq ?_ rfl rfl rfl rfl rfl
        unfold mofR
        grind
    · try first | contradiction | omega | (simp only [decide_eq_true_eq, decide_eq_false_iff_not] at h5; omega)
      all_goals
        refine e_iload_n dX11_moveOf_8 rfl rfl ?_
        first | ((with_reducible refine mk_n ?_); refine n_i2l dX11_moveOf_9 (by omega) ?_) | refine e_i2l dX11_moveOf_9 ?_
        refine e_lconst (v := lN 0) dX11_moveOf_10 rfl ?_
        refine e_ldc2 dX11_moveOf_11 co_X11_343 ?_
        refine x_S3 (M' := mX11_isIn) dX11_moveOf_14 ml_X11_45 ok_X11_isIn rfl sc_X11_isIn (by first | ((with_reducible refine ct_isInN ?_ ?_ ?_) <;> omega) | ((with_reducible refine ct_isInX ?_ ?_) <;> omega) | exact ct_X11_isIn _ _ _) (Nat.le_of_ble_eq_true rfl) (by decide) (Nat.le_of_ble_eq_true rfl) ?_
        first | ((with_reducible refine mk_b ?_); refine b_if_eq (tgt := 34) dX11_moveOf_17 (by decide) (fun h17 => ?_) (fun h17 => ?_)) | ((with_reducible refine mk_ll ?_); refine m_if_eq (tgt := 34) dX11_moveOf_17 (by decide) (by omega) (by omega) (fun h17 => ?_) (fun h17 => ?_)) | ((with_reducible refine mk_lc ?_); refine l_if_eq (tgt := 34) dX11_moveOf_17 (by decide) (fun h17 => ?_) (fun h17 => ?_)) | ((with_reducible refine mk_n ?_); refine n_if_eq (tgt := 34) dX11_moveOf_17 (by decide) (by omega) (fun h17 => ?_) (fun h17 => ?_)) | refine e_if_eq (tgt := 34) dX11_moveOf_17 (by decide) (fun h17 => ?_) (fun h17 => ?_)
        · try first | contradiction | omega | (simp only [decide_eq_true_eq, decide_eq_false_iff_not] at h17; omega)
          all_goals
            refine e_iconst (v := -1) dX11_moveOf_34 rfl ?_
            refine e_ret (some _) rfl (r_int dX11_moveOf_35 rfl) ?_
            refine xq ?_ rfl rfl rfl rfl rfl
            unfold mofR
            grind
        · try first | contradiction | omega | (simp only [decide_eq_true_eq, decide_eq_false_iff_not] at h17; omega)
          all_goals
            refine e_aload_n dX11_moveOf_20 rfl rfl ?_
            refine e_getR dX11_moveOf_21 fl_X11_7 rfl (by assumption) ?_
            refine e_iload_n dX11_moveOf_24 rfl rfl ?_
            refine x_S1 (M' := mX11_moveAt) dX11_moveOf_25 ml_X11_62 ok_X11_moveAt rfl sc_X11_moveAt (ct_X11_moveAt) (Nat.le_of_ble_eq_true rfl) (by decide) (Nat.le_of_ble_eq_true rfl) ?_
            refine e_iload_n dX11_moveOf_28 rfl rfl ?_
            first | ((with_reducible refine mk_nn ?_); refine n_iadd dX11_moveOf_29 ?_) | refine e_iadd dX11_moveOf_29 ?_
            first | ((with_reducible refine mk_ldw ?_); refine e_ldw dX11_moveOf_30 (by omega) ?_) | refine e_iald _ dX11_moveOf_30 ⟨by decide, by decide⟩ rfl rfl (by simp only [lenK]; omega) ?_
            refine e_goto (tgt := 35) dX11_moveOf_31 (by decide) ?_
            refine e_ret (some _) rfl (r_int dX11_moveOf_35 rfl) ?_
            refine xq ?_ rfl rfl rfl rfl rfl
            unfold mofR
            grind
  | true =>
    obtain ⟨a, ha, ha2, rfl⟩ := inR_ex hx
    have hcl : (nI a).toNatClampNeg = a := nI_clamp ha2
    cases hy : inR y1 (12) with
    | false =>
      have hy2 := inR_f hy
      refine e_aload_n dX11_moveOf_0 rfl rfl ?_
      refine e_iload_n dX11_moveOf_1 rfl rfl ?_
      refine x_V1 (M' := mX11_isMove) dX11_moveOf_2 ml_X11_189 ok_X11_isMove (by decide) rfl im_X11_isMove se_X11_isMove (ct_X11_isMove ‹_› ‹_› _) (Nat.le_of_ble_eq_true rfl) (by decide) (Nat.le_of_ble_eq_true rfl) ?_
      rw [hx]
      first | ((with_reducible refine mk_b ?_); refine b_if_eq (tgt := 34) dX11_moveOf_5 (by decide) (fun h5 => ?_) (fun h5 => ?_)) | ((with_reducible refine mk_ll ?_); refine m_if_eq (tgt := 34) dX11_moveOf_5 (by decide) (by omega) (by omega) (fun h5 => ?_) (fun h5 => ?_)) | ((with_reducible refine mk_lc ?_); refine l_if_eq (tgt := 34) dX11_moveOf_5 (by decide) (fun h5 => ?_) (fun h5 => ?_)) | ((with_reducible refine mk_n ?_); refine n_if_eq (tgt := 34) dX11_moveOf_5 (by decide) (by omega) (fun h5 => ?_) (fun h5 => ?_)) | refine e_if_eq (tgt := 34) dX11_moveOf_5 (by decide) (fun h5 => ?_) (fun h5 => ?_)
      · try first | contradiction | omega | (simp only [decide_eq_true_eq, decide_eq_false_iff_not] at h5; omega)
        all_goals
          refine e_iconst (v := -1) dX11_moveOf_34 rfl ?_
          refine e_ret (some _) rfl (r_int dX11_moveOf_35 rfl) ?_
          refine xq ?_ rfl rfl rfl rfl rfl
          unfold mofR
          grind
      · try first | contradiction | omega | (simp only [decide_eq_true_eq, decide_eq_false_iff_not] at h5; omega)
        all_goals
          refine e_iload_n dX11_moveOf_8 rfl rfl ?_
          first | ((with_reducible refine mk_n ?_); refine n_i2l dX11_moveOf_9 (by omega) ?_) | refine e_i2l dX11_moveOf_9 ?_
          refine e_lconst (v := lN 0) dX11_moveOf_10 rfl ?_
          refine e_ldc2 dX11_moveOf_11 co_X11_343 ?_
          refine x_S3 (M' := mX11_isIn) dX11_moveOf_14 ml_X11_45 ok_X11_isIn rfl sc_X11_isIn (by first | ((with_reducible refine ct_isInN ?_ ?_ ?_) <;> omega) | ((with_reducible refine ct_isInX ?_ ?_) <;> omega) | exact ct_X11_isIn _ _ _) (Nat.le_of_ble_eq_true rfl) (by decide) (Nat.le_of_ble_eq_true rfl) ?_
          first | ((with_reducible refine mk_b ?_); refine b_if_eq (tgt := 34) dX11_moveOf_17 (by decide) (fun h17 => ?_) (fun h17 => ?_)) | ((with_reducible refine mk_ll ?_); refine m_if_eq (tgt := 34) dX11_moveOf_17 (by decide) (by omega) (by omega) (fun h17 => ?_) (fun h17 => ?_)) | ((with_reducible refine mk_lc ?_); refine l_if_eq (tgt := 34) dX11_moveOf_17 (by decide) (fun h17 => ?_) (fun h17 => ?_)) | ((with_reducible refine mk_n ?_); refine n_if_eq (tgt := 34) dX11_moveOf_17 (by decide) (by omega) (fun h17 => ?_) (fun h17 => ?_)) | refine e_if_eq (tgt := 34) dX11_moveOf_17 (by decide) (fun h17 => ?_) (fun h17 => ?_)
          · try first | contradiction | omega | (simp only [decide_eq_true_eq, decide_eq_false_iff_not] at h17; omega)
            all_goals
              refine e_iconst (v := -1) dX11_moveOf_34 rfl ?_
              refine e_ret (some _) rfl (r_int dX11_moveOf_35 rfl) ?_
              refine xq ?_ rfl rfl rfl rfl rfl
              unfold mofR
              grind
          · try first | contradiction | omega | (simp only [decide_eq_true_eq, decide_eq_false_iff_not] at h17; omega)
            all_goals
              refine e_aload_n dX11_moveOf_20 rfl rfl ?_
              refine e_getR dX11_moveOf_21 fl_X11_7 rfl (by assumption) ?_
              refine e_iload_n dX11_moveOf_24 rfl rfl ?_
              refine x_S1 (M' := mX11_moveAt) dX11_moveOf_25 ml_X11_62 ok_X11_moveAt rfl sc_X11_moveAt (ct_X11_moveAt) (Nat.le_of_ble_eq_true rfl) (by decide) (Nat.le_of_ble_eq_true rfl) ?_
              refine e_iload_n dX11_moveOf_28 rfl rfl ?_
              first | ((with_reducible refine mk_nn ?_); refine n_iadd dX11_moveOf_29 ?_) | refine e_iadd dX11_moveOf_29 ?_
              first | ((with_reducible refine mk_ldw ?_); refine e_ldw dX11_moveOf_30 (by omega) ?_) | refine e_iald _ dX11_moveOf_30 ⟨by decide, by decide⟩ rfl rfl (by simp only [lenK]; omega) ?_
              refine e_goto (tgt := 35) dX11_moveOf_31 (by decide) ?_
              refine e_ret (some _) rfl (r_int dX11_moveOf_35 rfl) ?_
              refine xq ?_ rfl rfl rfl rfl rfl
              unfold mofR
              grind
    | true =>
      obtain ⟨b, hb, hb2, rfl⟩ := inR_ex hy
      have hcl2 : (nI b).toNatClampNeg = b := nI_clamp hb2
      refine e_aload_n dX11_moveOf_0 rfl rfl ?_
      refine e_iload_n dX11_moveOf_1 rfl rfl ?_
      refine x_V1 (M' := mX11_isMove) dX11_moveOf_2 ml_X11_189 ok_X11_isMove (by decide) rfl im_X11_isMove se_X11_isMove (ct_X11_isMove ‹_› ‹_› _) (Nat.le_of_ble_eq_true rfl) (by decide) (Nat.le_of_ble_eq_true rfl) ?_
      rw [hx]
      first | ((with_reducible refine mk_b ?_); refine b_if_eq (tgt := 34) dX11_moveOf_5 (by decide) (fun h5 => ?_) (fun h5 => ?_)) | ((with_reducible refine mk_ll ?_); refine m_if_eq (tgt := 34) dX11_moveOf_5 (by decide) (by omega) (by omega) (fun h5 => ?_) (fun h5 => ?_)) | ((with_reducible refine mk_lc ?_); refine l_if_eq (tgt := 34) dX11_moveOf_5 (by decide) (fun h5 => ?_) (fun h5 => ?_)) | ((with_reducible refine mk_n ?_); refine n_if_eq (tgt := 34) dX11_moveOf_5 (by decide) (by omega) (fun h5 => ?_) (fun h5 => ?_)) | refine e_if_eq (tgt := 34) dX11_moveOf_5 (by decide) (fun h5 => ?_) (fun h5 => ?_)
      · try first | contradiction | omega | (simp only [decide_eq_true_eq, decide_eq_false_iff_not] at h5; omega)
        all_goals
          refine e_iconst (v := -1) dX11_moveOf_34 rfl ?_
          refine e_ret (some _) rfl (r_int dX11_moveOf_35 rfl) ?_
          refine xq ?_ rfl rfl rfl rfl rfl
          unfold mofR
          grind
      · try first | contradiction | omega | (simp only [decide_eq_true_eq, decide_eq_false_iff_not] at h5; omega)
        all_goals
          refine e_iload_n dX11_moveOf_8 rfl rfl ?_
          first | ((with_reducible refine mk_n ?_); refine n_i2l dX11_moveOf_9 (by omega) ?_) | refine e_i2l dX11_moveOf_9 ?_
          refine e_lconst (v := lN 0) dX11_moveOf_10 rfl ?_
          refine e_ldc2 dX11_moveOf_11 co_X11_343 ?_
          refine x_S3 (M' := mX11_isIn) dX11_moveOf_14 ml_X11_45 ok_X11_isIn rfl sc_X11_isIn (by first | ((with_reducible refine ct_isInN ?_ ?_ ?_) <;> omega) | ((with_reducible refine ct_isInX ?_ ?_) <;> omega) | exact ct_X11_isIn _ _ _) (Nat.le_of_ble_eq_true rfl) (by decide) (Nat.le_of_ble_eq_true rfl) ?_
          first | ((with_reducible refine mk_b ?_); refine b_if_eq (tgt := 34) dX11_moveOf_17 (by decide) (fun h17 => ?_) (fun h17 => ?_)) | ((with_reducible refine mk_ll ?_); refine m_if_eq (tgt := 34) dX11_moveOf_17 (by decide) (by omega) (by omega) (fun h17 => ?_) (fun h17 => ?_)) | ((with_reducible refine mk_lc ?_); refine l_if_eq (tgt := 34) dX11_moveOf_17 (by decide) (fun h17 => ?_) (fun h17 => ?_)) | ((with_reducible refine mk_n ?_); refine n_if_eq (tgt := 34) dX11_moveOf_17 (by decide) (by omega) (fun h17 => ?_) (fun h17 => ?_)) | refine e_if_eq (tgt := 34) dX11_moveOf_17 (by decide) (fun h17 => ?_) (fun h17 => ?_)
          · try first | contradiction | omega | (simp only [decide_eq_true_eq, decide_eq_false_iff_not] at h17; omega)
            all_goals
              refine e_iconst (v := -1) dX11_moveOf_34 rfl ?_
              refine e_ret (some _) rfl (r_int dX11_moveOf_35 rfl) ?_
              refine xq ?_ rfl rfl rfl rfl rfl
              unfold mofR
              grind
          · try first | contradiction | omega | (simp only [decide_eq_true_eq, decide_eq_false_iff_not] at h17; omega)
            all_goals
              refine e_aload_n dX11_moveOf_20 rfl rfl ?_
              refine e_getR dX11_moveOf_21 fl_X11_7 rfl (by assumption) ?_
              refine e_iload_n dX11_moveOf_24 rfl rfl ?_
              refine x_S1 (M' := mX11_moveAt) dX11_moveOf_25 ml_X11_62 ok_X11_moveAt rfl sc_X11_moveAt (ct_X11_moveAt) (Nat.le_of_ble_eq_true rfl) (by decide) (Nat.le_of_ble_eq_true rfl) ?_
              refine e_iload_n dX11_moveOf_28 rfl rfl ?_
              first | ((with_reducible refine mk_nn ?_); refine n_iadd dX11_moveOf_29 ?_) | refine e_iadd dX11_moveOf_29 ?_
              first | ((with_reducible refine mk_ldw ?_); refine e_ldw dX11_moveOf_30 (by omega) ?_) | refine e_iald _ dX11_moveOf_30 ⟨by decide, by decide⟩ rfl rfl (by simp only [lenK]; omega) ?_
              refine e_goto (tgt := 35) dX11_moveOf_31 (by decide) ?_
              refine e_ret (some _) rfl (r_int dX11_moveOf_35 rfl) ?_
              refine xq ?_ rfl rfl rfl rfl rfl
              unfold mofR
              grind
theorem ct_X11_trail {fi : FI} {fr : FR} {ai : FI} {ar : FR} {N : Nat} {w : Nat → Nat} (sm : SM fr) (iv : Inv w) (y0 y1 : Int32) : CP mX11_trail 2 0 0 [.ref (rf 11 80), .int y0, .int y1] fi fr (mW ai w) ar N (xQ (some (.int (traR w y0 y1))) fi fr (mW ai w) ar N) := by
  obtain ⟨sW, sA, sK, sU, sC, sKC, sT, sCl⟩ := id sm
  have h1 := iv_n iv
  have h3 := iv_mm iv
  change EV mX11_trail 2 0 0 0 [some (.ref (rf 11 80)), some (.int y0), some (.int y1)] [] fi fr (mW ai w) ar N (xQ (some (.int (traR w y0 y1))) fi fr (mW ai w) ar N)
  cases hx : inR y0 (w 3) with
  | false =>
    have hx2 := inR_f hx
    refine e_aload_n dX11_trail_0 rfl rfl ?_
    refine e_iload_n dX11_trail_1 rfl rfl ?_
    refine x_V1 (M' := mX11_isMove) dX11_trail_2 ml_X11_189 ok_X11_isMove (by decide) rfl im_X11_isMove se_X11_isMove (ct_X11_isMove ‹_› ‹_› _) (Nat.le_of_ble_eq_true rfl) (by decide) (Nat.le_of_ble_eq_true rfl) ?_
    rw [hx]
    first | ((with_reducible refine mk_b ?_); refine b_if_eq (tgt := 49) dX11_trail_5 (by decide) (fun h5 => ?_) (fun h5 => ?_)) | ((with_reducible refine mk_ll ?_); refine m_if_eq (tgt := 49) dX11_trail_5 (by decide) (by omega) (by omega) (fun h5 => ?_) (fun h5 => ?_)) | ((with_reducible refine mk_lc ?_); refine l_if_eq (tgt := 49) dX11_trail_5 (by decide) (fun h5 => ?_) (fun h5 => ?_)) | ((with_reducible refine mk_n ?_); refine n_if_eq (tgt := 49) dX11_trail_5 (by decide) (by omega) (fun h5 => ?_) (fun h5 => ?_)) | refine e_if_eq (tgt := 49) dX11_trail_5 (by decide) (fun h5 => ?_) (fun h5 => ?_)
    · try first | contradiction | omega | (simp only [decide_eq_true_eq, decide_eq_false_iff_not] at h5; omega)
      all_goals
        refine e_iconst (v := -1) dX11_trail_49 rfl ?_
        refine e_ret (some _) rfl (r_int dX11_trail_50 rfl) ?_
        refine xq ?_ rfl rfl rfl rfl rfl
        unfold traR
        grind
    · try first | contradiction | omega | (simp only [decide_eq_true_eq, decide_eq_false_iff_not] at h5; omega)
      all_goals
        refine e_iload_n dX11_trail_8 rfl rfl ?_
        first | ((with_reducible refine mk_n ?_); refine n_i2l dX11_trail_9 (by omega) ?_) | refine e_i2l dX11_trail_9 ?_
        refine e_lconst (v := lN 0) dX11_trail_10 rfl ?_
        refine e_aload_n dX11_trail_11 rfl rfl ?_
        refine e_getR dX11_trail_12 fl_X11_7 rfl (by assumption) ?_
        refine e_iload_n dX11_trail_15 rfl rfl ?_
        refine x_S1 (M' := mX11_moveAt) dX11_trail_16 ml_X11_62 ok_X11_moveAt rfl sc_X11_moveAt (ct_X11_moveAt) (Nat.le_of_ble_eq_true rfl) (by decide) (Nat.le_of_ble_eq_true rfl) ?_
        refine e_bipush (v := nI 6) dX11_trail_19 rfl ?_
        first | ((with_reducible refine mk_nn ?_); refine n_iadd dX11_trail_21 ?_) | refine e_iadd dX11_trail_21 ?_
        first | ((with_reducible refine mk_ldw ?_); refine e_ldw dX11_trail_22 (by omega) ?_) | refine e_iald _ dX11_trail_22 ⟨by decide, by decide⟩ rfl rfl (by simp only [lenK]; omega) ?_
        refine e_iconst (v := nI 1) dX11_trail_23 rfl ?_
        first | ((with_reducible refine mk_nn ?_); refine n_isub dX11_trail_24 (by omega) ?_) | refine e_isub dX11_trail_24 ?_
        first | ((with_reducible refine mk_n ?_); refine n_i2l dX11_trail_25 (by omega) ?_) | refine e_i2l dX11_trail_25 ?_
        refine x_S3 (M' := mX11_isIn) dX11_trail_26 ml_X11_45 ok_X11_isIn rfl sc_X11_isIn (by first | ((with_reducible refine ct_isInN ?_ ?_ ?_) <;> omega) | ((with_reducible refine ct_isInX ?_ ?_) <;> omega) | exact ct_X11_isIn _ _ _) (Nat.le_of_ble_eq_true rfl) (by decide) (Nat.le_of_ble_eq_true rfl) ?_
        try rw [Int32.toInt_toInt64, Int32.toInt_toInt64, pk_sub_toInt (by omega) (by omega), lN_t (by omega)]
        first | ((with_reducible refine mk_b ?_); refine b_if_eq (tgt := 49) dX11_trail_29 (by decide) (fun h29 => ?_) (fun h29 => ?_)) | ((with_reducible refine mk_ll ?_); refine m_if_eq (tgt := 49) dX11_trail_29 (by decide) (by omega) (by omega) (fun h29 => ?_) (fun h29 => ?_)) | ((with_reducible refine mk_lc ?_); refine l_if_eq (tgt := 49) dX11_trail_29 (by decide) (fun h29 => ?_) (fun h29 => ?_)) | ((with_reducible refine mk_n ?_); refine n_if_eq (tgt := 49) dX11_trail_29 (by decide) (by omega) (fun h29 => ?_) (fun h29 => ?_)) | refine e_if_eq (tgt := 49) dX11_trail_29 (by decide) (fun h29 => ?_) (fun h29 => ?_)
        · try first | contradiction | omega | (simp only [decide_eq_true_eq, decide_eq_false_iff_not] at h29; omega)
          all_goals
            refine e_iconst (v := -1) dX11_trail_49 rfl ?_
            refine e_ret (some _) rfl (r_int dX11_trail_50 rfl) ?_
            refine xq ?_ rfl rfl rfl rfl rfl
            unfold traR
            grind
        · try first | contradiction | omega | (simp only [decide_eq_true_eq, decide_eq_false_iff_not] at h29; omega)
          all_goals
            refine e_aload_n dX11_trail_32 rfl rfl ?_
            refine e_getR dX11_trail_33 fl_X11_7 rfl (by assumption) ?_
            refine e_iload_n dX11_trail_36 rfl rfl ?_
            refine x_S1 (M' := mX11_moveAt) dX11_trail_37 ml_X11_62 ok_X11_moveAt rfl sc_X11_moveAt (ct_X11_moveAt) (Nat.le_of_ble_eq_true rfl) (by decide) (Nat.le_of_ble_eq_true rfl) ?_
            refine e_bipush (v := nI 12) dX11_trail_40 rfl ?_
            first | ((with_reducible refine mk_nn ?_); refine n_iadd dX11_trail_42 ?_) | refine e_iadd dX11_trail_42 ?_
            refine e_iload_n dX11_trail_43 rfl rfl ?_
            first | ((with_reducible refine mk_nn ?_); refine n_iadd dX11_trail_44 ?_) | refine e_iadd dX11_trail_44 ?_
            first | ((with_reducible refine mk_ldw ?_); refine e_ldw dX11_trail_45 (by omega) ?_) | refine e_iald _ dX11_trail_45 ⟨by decide, by decide⟩ rfl rfl (by simp only [lenK]; omega) ?_
            refine e_goto (tgt := 50) dX11_trail_46 (by decide) ?_
            refine e_ret (some _) rfl (r_int dX11_trail_50 rfl) ?_
            refine xq ?_ rfl rfl rfl rfl rfl
            unfold traR
            grind
  | true =>
    obtain ⟨a, ha, ha2, rfl⟩ := inR_ex hx
    have hcl : (nI a).toNatClampNeg = a := nI_clamp ha2
    have hm := iv_mv iv ha
    cases hy : inR y1 (w (7694 + 72 * a + 6)) with
    | false =>
      have hy2 := inR_f hy
      refine e_aload_n dX11_trail_0 rfl rfl ?_
      refine e_iload_n dX11_trail_1 rfl rfl ?_
      refine x_V1 (M' := mX11_isMove) dX11_trail_2 ml_X11_189 ok_X11_isMove (by decide) rfl im_X11_isMove se_X11_isMove (ct_X11_isMove ‹_› ‹_› _) (Nat.le_of_ble_eq_true rfl) (by decide) (Nat.le_of_ble_eq_true rfl) ?_
      rw [hx]
      first | ((with_reducible refine mk_b ?_); refine b_if_eq (tgt := 49) dX11_trail_5 (by decide) (fun h5 => ?_) (fun h5 => ?_)) | ((with_reducible refine mk_ll ?_); refine m_if_eq (tgt := 49) dX11_trail_5 (by decide) (by omega) (by omega) (fun h5 => ?_) (fun h5 => ?_)) | ((with_reducible refine mk_lc ?_); refine l_if_eq (tgt := 49) dX11_trail_5 (by decide) (fun h5 => ?_) (fun h5 => ?_)) | ((with_reducible refine mk_n ?_); refine n_if_eq (tgt := 49) dX11_trail_5 (by decide) (by omega) (fun h5 => ?_) (fun h5 => ?_)) | refine e_if_eq (tgt := 49) dX11_trail_5 (by decide) (fun h5 => ?_) (fun h5 => ?_)
      · try first | contradiction | omega | (simp only [decide_eq_true_eq, decide_eq_false_iff_not] at h5; omega)
        all_goals
          refine e_iconst (v := -1) dX11_trail_49 rfl ?_
          refine e_ret (some _) rfl (r_int dX11_trail_50 rfl) ?_
          refine xq ?_ rfl rfl rfl rfl rfl
          unfold traR
          grind
      · try first | contradiction | omega | (simp only [decide_eq_true_eq, decide_eq_false_iff_not] at h5; omega)
        all_goals
          refine e_iload_n dX11_trail_8 rfl rfl ?_
          first | ((with_reducible refine mk_n ?_); refine n_i2l dX11_trail_9 (by omega) ?_) | refine e_i2l dX11_trail_9 ?_
          refine e_lconst (v := lN 0) dX11_trail_10 rfl ?_
          refine e_aload_n dX11_trail_11 rfl rfl ?_
          refine e_getR dX11_trail_12 fl_X11_7 rfl (by assumption) ?_
          refine e_iload_n dX11_trail_15 rfl rfl ?_
          refine x_S1 (M' := mX11_moveAt) dX11_trail_16 ml_X11_62 ok_X11_moveAt rfl sc_X11_moveAt (ct_X11_moveAt) (Nat.le_of_ble_eq_true rfl) (by decide) (Nat.le_of_ble_eq_true rfl) ?_
          refine e_bipush (v := nI 6) dX11_trail_19 rfl ?_
          first | ((with_reducible refine mk_nn ?_); refine n_iadd dX11_trail_21 ?_) | refine e_iadd dX11_trail_21 ?_
          first | ((with_reducible refine mk_ldw ?_); refine e_ldw dX11_trail_22 (by omega) ?_) | refine e_iald _ dX11_trail_22 ⟨by decide, by decide⟩ rfl rfl (by simp only [lenK]; omega) ?_
          refine e_iconst (v := nI 1) dX11_trail_23 rfl ?_
          first | ((with_reducible refine mk_nn ?_); refine n_isub dX11_trail_24 (by omega) ?_) | refine e_isub dX11_trail_24 ?_
          first | ((with_reducible refine mk_n ?_); refine n_i2l dX11_trail_25 (by omega) ?_) | refine e_i2l dX11_trail_25 ?_
          refine x_S3 (M' := mX11_isIn) dX11_trail_26 ml_X11_45 ok_X11_isIn rfl sc_X11_isIn (by first | ((with_reducible refine ct_isInN ?_ ?_ ?_) <;> omega) | ((with_reducible refine ct_isInX ?_ ?_) <;> omega) | exact ct_X11_isIn _ _ _) (Nat.le_of_ble_eq_true rfl) (by decide) (Nat.le_of_ble_eq_true rfl) ?_
          try rw [Int32.toInt_toInt64, Int32.toInt_toInt64, pk_sub_toInt (by omega) (by omega), lN_t (by omega)]
          first | ((with_reducible refine mk_b ?_); refine b_if_eq (tgt := 49) dX11_trail_29 (by decide) (fun h29 => ?_) (fun h29 => ?_)) | ((with_reducible refine mk_ll ?_); refine m_if_eq (tgt := 49) dX11_trail_29 (by decide) (by omega) (by omega) (fun h29 => ?_) (fun h29 => ?_)) | ((with_reducible refine mk_lc ?_); refine l_if_eq (tgt := 49) dX11_trail_29 (by decide) (fun h29 => ?_) (fun h29 => ?_)) | ((with_reducible refine mk_n ?_); refine n_if_eq (tgt := 49) dX11_trail_29 (by decide) (by omega) (fun h29 => ?_) (fun h29 => ?_)) | refine e_if_eq (tgt := 49) dX11_trail_29 (by decide) (fun h29 => ?_) (fun h29 => ?_)
          · try first | contradiction | omega | (simp only [decide_eq_true_eq, decide_eq_false_iff_not] at h29; omega)
            all_goals
              refine e_iconst (v := -1) dX11_trail_49 rfl ?_
              refine e_ret (some _) rfl (r_int dX11_trail_50 rfl) ?_
              refine xq ?_ rfl rfl rfl rfl rfl
              unfold traR
              grind
          · try first | contradiction | omega | (simp only [decide_eq_true_eq, decide_eq_false_iff_not] at h29; omega)
            all_goals
              refine e_aload_n dX11_trail_32 rfl rfl ?_
              refine e_getR dX11_trail_33 fl_X11_7 rfl (by assumption) ?_
              refine e_iload_n dX11_trail_36 rfl rfl ?_
              refine x_S1 (M' := mX11_moveAt) dX11_trail_37 ml_X11_62 ok_X11_moveAt rfl sc_X11_moveAt (ct_X11_moveAt) (Nat.le_of_ble_eq_true rfl) (by decide) (Nat.le_of_ble_eq_true rfl) ?_
              refine e_bipush (v := nI 12) dX11_trail_40 rfl ?_
              first | ((with_reducible refine mk_nn ?_); refine n_iadd dX11_trail_42 ?_) | refine e_iadd dX11_trail_42 ?_
              refine e_iload_n dX11_trail_43 rfl rfl ?_
              first | ((with_reducible refine mk_nn ?_); refine n_iadd dX11_trail_44 ?_) | refine e_iadd dX11_trail_44 ?_
              first | ((with_reducible refine mk_ldw ?_); refine e_ldw dX11_trail_45 (by omega) ?_) | refine e_iald _ dX11_trail_45 ⟨by decide, by decide⟩ rfl rfl (by simp only [lenK]; omega) ?_
              refine e_goto (tgt := 50) dX11_trail_46 (by decide) ?_
              refine e_ret (some _) rfl (r_int dX11_trail_50 rfl) ?_
              refine xq ?_ rfl rfl rfl rfl rfl
              unfold traR
              grind
    | true =>
      obtain ⟨b, hb, hb2, rfl⟩ := inR_ex hy
      have hcl2 : (nI b).toNatClampNeg = b := nI_clamp hb2
      refine e_aload_n dX11_trail_0 rfl rfl ?_
      refine e_iload_n dX11_trail_1 rfl rfl ?_
      refine x_V1 (M' := mX11_isMove) dX11_trail_2 ml_X11_189 ok_X11_isMove (by decide) rfl im_X11_isMove se_X11_isMove (ct_X11_isMove ‹_› ‹_› _) (Nat.le_of_ble_eq_true rfl) (by decide) (Nat.le_of_ble_eq_true rfl) ?_
      rw [hx]
      first | ((with_reducible refine mk_b ?_); refine b_if_eq (tgt := 49) dX11_trail_5 (by decide) (fun h5 => ?_) (fun h5 => ?_)) | ((with_reducible refine mk_ll ?_); refine m_if_eq (tgt := 49) dX11_trail_5 (by decide) (by omega) (by omega) (fun h5 => ?_) (fun h5 => ?_)) | ((with_reducible refine mk_lc ?_); refine l_if_eq (tgt := 49) dX11_trail_5 (by decide) (fun h5 => ?_) (fun h5 => ?_)) | ((with_reducible refine mk_n ?_); refine n_if_eq (tgt := 49) dX11_trail_5 (by decide) (by omega) (fun h5 => ?_) (fun h5 => ?_)) | refine e_if_eq (tgt := 49) dX11_trail_5 (by decide) (fun h5 => ?_) (fun h5 => ?_)
      · try first | contradiction | omega | (simp only [decide_eq_true_eq, decide_eq_false_iff_not] at h5; omega)
        all_goals
          refine e_iconst (v := -1) dX11_trail_49 rfl ?_
          refine e_ret (some _) rfl (r_int dX11_trail_50 rfl) ?_
          refine xq ?_ rfl rfl rfl rfl rfl
          unfold traR
          grind
      · try first | contradiction | omega | (simp only [decide_eq_true_eq, decide_eq_false_iff_not] at h5; omega)
        all_goals
          refine e_iload_n dX11_trail_8 rfl rfl ?_
          first | ((with_reducible refine mk_n ?_); refine n_i2l dX11_trail_9 (by omega) ?_) | refine e_i2l dX11_trail_9 ?_
          refine e_lconst (v := lN 0) dX11_trail_10 rfl ?_
          refine e_aload_n dX11_trail_11 rfl rfl ?_
          refine e_getR dX11_trail_12 fl_X11_7 rfl (by assumption) ?_
          refine e_iload_n dX11_trail_15 rfl rfl ?_
          refine x_S1 (M' := mX11_moveAt) dX11_trail_16 ml_X11_62 ok_X11_moveAt rfl sc_X11_moveAt (ct_X11_moveAt) (Nat.le_of_ble_eq_true rfl) (by decide) (Nat.le_of_ble_eq_true rfl) ?_
          refine e_bipush (v := nI 6) dX11_trail_19 rfl ?_
          first | ((with_reducible refine mk_nn ?_); refine n_iadd dX11_trail_21 ?_) | refine e_iadd dX11_trail_21 ?_
          first | ((with_reducible refine mk_ldw ?_); refine e_ldw dX11_trail_22 (by omega) ?_) | refine e_iald _ dX11_trail_22 ⟨by decide, by decide⟩ rfl rfl (by simp only [lenK]; omega) ?_
          refine e_iconst (v := nI 1) dX11_trail_23 rfl ?_
          first | ((with_reducible refine mk_nn ?_); refine n_isub dX11_trail_24 (by omega) ?_) | refine e_isub dX11_trail_24 ?_
          first | ((with_reducible refine mk_n ?_); refine n_i2l dX11_trail_25 (by omega) ?_) | refine e_i2l dX11_trail_25 ?_
          refine x_S3 (M' := mX11_isIn) dX11_trail_26 ml_X11_45 ok_X11_isIn rfl sc_X11_isIn (by first | ((with_reducible refine ct_isInN ?_ ?_ ?_) <;> omega) | ((with_reducible refine ct_isInX ?_ ?_) <;> omega) | exact ct_X11_isIn _ _ _) (Nat.le_of_ble_eq_true rfl) (by decide) (Nat.le_of_ble_eq_true rfl) ?_
          try rw [Int32.toInt_toInt64, Int32.toInt_toInt64, pk_sub_toInt (by omega) (by omega), lN_t (by omega)]
          first | ((with_reducible refine mk_b ?_); refine b_if_eq (tgt := 49) dX11_trail_29 (by decide) (fun h29 => ?_) (fun h29 => ?_)) | ((with_reducible refine mk_ll ?_); refine m_if_eq (tgt := 49) dX11_trail_29 (by decide) (by omega) (by omega) (fun h29 => ?_) (fun h29 => ?_)) | ((with_reducible refine mk_lc ?_); refine l_if_eq (tgt := 49) dX11_trail_29 (by decide) (fun h29 => ?_) (fun h29 => ?_)) | ((with_reducible refine mk_n ?_); refine n_if_eq (tgt := 49) dX11_trail_29 (by decide) (by omega) (fun h29 => ?_) (fun h29 => ?_)) | refine e_if_eq (tgt := 49) dX11_trail_29 (by decide) (fun h29 => ?_) (fun h29 => ?_)
          · try first | contradiction | omega | (simp only [decide_eq_true_eq, decide_eq_false_iff_not] at h29; omega)
            all_goals
              refine e_iconst (v := -1) dX11_trail_49 rfl ?_
              refine e_ret (some _) rfl (r_int dX11_trail_50 rfl) ?_
              refine xq ?_ rfl rfl rfl rfl rfl
              unfold traR
              grind
          · try first | contradiction | omega | (simp only [decide_eq_true_eq, decide_eq_false_iff_not] at h29; omega)
            all_goals
              refine e_aload_n dX11_trail_32 rfl rfl ?_
              refine e_getR dX11_trail_33 fl_X11_7 rfl (by assumption) ?_
              refine e_iload_n dX11_trail_36 rfl rfl ?_
              refine x_S1 (M' := mX11_moveAt) dX11_trail_37 ml_X11_62 ok_X11_moveAt rfl sc_X11_moveAt (ct_X11_moveAt) (Nat.le_of_ble_eq_true rfl) (by decide) (Nat.le_of_ble_eq_true rfl) ?_
              refine e_bipush (v := nI 12) dX11_trail_40 rfl ?_
              first | ((with_reducible refine mk_nn ?_); refine n_iadd dX11_trail_42 ?_) | refine e_iadd dX11_trail_42 ?_
              refine e_iload_n dX11_trail_43 rfl rfl ?_
              first | ((with_reducible refine mk_nn ?_); refine n_iadd dX11_trail_44 ?_) | refine e_iadd dX11_trail_44 ?_
              first | ((with_reducible refine mk_ldw ?_); refine e_ldw dX11_trail_45 (by omega) ?_) | refine e_iald _ dX11_trail_45 ⟨by decide, by decide⟩ rfl rfl (by simp only [lenK]; omega) ?_
              refine e_goto (tgt := 50) dX11_trail_46 (by decide) ?_
              refine e_ret (some _) rfl (r_int dX11_trail_50 rfl) ?_
              refine xq ?_ rfl rfl rfl rfl rfl
              unfold traR
              grind
theorem ct_X11_server {fi : FI} {fr : FR} {ai : FI} {ar : FR} {N : Nat} {w : Nat → Nat} (sm : SM fr) (iv : Inv w) (y0 y1 : Int32) : CP mX11_server 3 0 0 [.ref (rf 11 80), .int y0, .int y1] fi fr (mW ai w) ar N (xQ (some (.int (serR w y0 y1))) fi fr (mW ai w) ar N) := by
  obtain ⟨sW, sA, sK, sU, sC, sKC, sT, sCl⟩ := id sm
  have h1 := iv_n iv
  have h3 := iv_mm iv
  change EV mX11_server 3 0 0 0 [some (.ref (rf 11 80)), some (.int y0), some (.int y1)] [] fi fr (mW ai w) ar N (xQ (some (.int (serR w y0 y1))) fi fr (mW ai w) ar N)
  cases hx : inR y0 (6) with
  | false =>
    have hx2 := inR_f hx
    refine e_iload_n dX11_server_0 rfl rfl ?_
    refine x_S1 (M' := mX11_isServer) dX11_server_1 ml_X11_161 ok_X11_isServer rfl sc_X11_isServer (ct_X11_isServer _) (Nat.le_of_ble_eq_true rfl) (by decide) (Nat.le_of_ble_eq_true rfl) ?_
    rw [hx]
    first | ((with_reducible refine mk_b ?_); refine b_if_ne (tgt := 9) dX11_server_4 (by decide) (fun h4 => ?_) (fun h4 => ?_)) | ((with_reducible refine mk_ll ?_); refine m_if_ne (tgt := 9) dX11_server_4 (by decide) (by omega) (by omega) (fun h4 => ?_) (fun h4 => ?_)) | ((with_reducible refine mk_lc ?_); refine l_if_ne (tgt := 9) dX11_server_4 (by decide) (fun h4 => ?_) (fun h4 => ?_)) | ((with_reducible refine mk_n ?_); refine n_if_ne (tgt := 9) dX11_server_4 (by decide) (by omega) (fun h4 => ?_) (fun h4 => ?_)) | refine e_if_ne (tgt := 9) dX11_server_4 (by decide) (fun h4 => ?_) (fun h4 => ?_)
    · try first | contradiction | omega | (simp only [decide_eq_true_eq, decide_eq_false_iff_not] at h4; omega)
      all_goals
        refine e_iload_n dX11_server_9 rfl rfl ?_
        refine e_swc (tgt := 44) 0 dX11_server_10 (by decide) (by decide) rfl (by decide) (fun h10_0 => ?_) (fun h10_0 => ?_)
        · try first | contradiction | omega
          all_goals
            refine e_aload_n dX11_server_44 rfl rfl ?_
            refine e_getR dX11_server_45 fl_X11_7 rfl (by assumption) ?_
            refine e_iconst (v := nI 4) dX11_server_48 rfl ?_
            refine e_iload_n dX11_server_49 rfl rfl ?_
            first | ((with_reducible refine mk_nn ?_); refine n_iadd dX11_server_50 ?_) | refine e_iadd dX11_server_50 ?_
            first | ((with_reducible refine mk_ldw ?_); refine e_ldw dX11_server_51 (by omega) ?_) | refine e_iald _ dX11_server_51 ⟨by decide, by decide⟩ rfl rfl (by simp only [lenK]; omega) ?_
            refine e_ret (some _) rfl (r_int dX11_server_52 rfl) ?_
            refine xq ?_ rfl rfl rfl rfl rfl
            unfold serR serS
            grind
        refine e_swc (tgt := 53) 1 dX11_server_10 (by decide) (by decide) rfl (by decide) (fun h10_1 => ?_) (fun h10_1 => ?_)
        · try first | contradiction | omega
          all_goals
            refine e_aload_n dX11_server_53 rfl rfl ?_
            refine e_iload_n dX11_server_54 rfl rfl ?_
            refine x_V1 (M' := mX11_spansOf) dX11_server_55 ml_X11_328 ok_X11_spansOf (by decide) rfl im_X11_spansOf se_X11_spansOf (ct_X11_spansOf ‹_› ‹_› (by omega)) (Nat.le_of_ble_eq_true rfl) (by decide) (Nat.le_of_ble_eq_true rfl) ?_
            refine e_ret (some _) rfl (r_int dX11_server_58 rfl) ?_
            refine xq ?_ rfl rfl rfl rfl rfl
            unfold serR serS
            grind
        refine e_swc (tgt := 59) 2 dX11_server_10 (by decide) (by decide) rfl (by decide) (fun h10_2 => ?_) (fun h10_2 => ?_)
        · try first | contradiction | omega
          all_goals
            refine e_aload_n dX11_server_59 rfl rfl ?_
            refine e_iload_n dX11_server_60 rfl rfl ?_
            refine x_V1 (M' := mX11_valuesOf) dX11_server_61 ml_X11_331 ok_X11_valuesOf (by decide) rfl im_X11_valuesOf se_X11_valuesOf (ct_X11_valuesOf ‹_› ‹_› (by omega)) (Nat.le_of_ble_eq_true rfl) (by decide) (Nat.le_of_ble_eq_true rfl) ?_
            refine e_ret (some _) rfl (r_int dX11_server_64 rfl) ?_
            refine xq ?_ rfl rfl rfl rfl rfl
            unfold serR serS
            grind
        refine e_swc (tgt := 65) 3 dX11_server_10 (by decide) (by decide) rfl (by decide) (fun h10_3 => ?_) (fun h10_3 => ?_)
        · try first | contradiction | omega
          all_goals
            refine e_aload_n dX11_server_65 rfl rfl ?_
            refine e_iload_n dX11_server_66 rfl rfl ?_
            refine e_iconst (v := nI 3) dX11_server_67 rfl ?_
            refine x_V2 (M' := mX11_movesBy) dX11_server_68 ml_X11_334 ok_X11_movesBy (by decide) rfl im_X11_movesBy se_X11_movesBy (ct_X11_movesBy ‹_› ‹_› (by omega) (by omega)) (Nat.le_of_ble_eq_true rfl) (by decide) (Nat.le_of_ble_eq_true rfl) ?_
            refine e_ret (some _) rfl (r_int dX11_server_71 rfl) ?_
            refine xq ?_ rfl rfl rfl rfl rfl
            unfold serR serS
            grind
        refine e_swc (tgt := 72) 4 dX11_server_10 (by decide) (by decide) rfl (by decide) (fun h10_4 => ?_) (fun h10_4 => ?_)
        · try first | contradiction | omega
          all_goals
            refine e_aload_n dX11_server_72 rfl rfl ?_
            refine e_iload_n dX11_server_73 rfl rfl ?_
            refine e_iconst (v := nI 4) dX11_server_74 rfl ?_
            refine x_V2 (M' := mX11_movesBy) dX11_server_75 ml_X11_334 ok_X11_movesBy (by decide) rfl im_X11_movesBy se_X11_movesBy (ct_X11_movesBy ‹_› ‹_› (by omega) (by omega)) (Nat.le_of_ble_eq_true rfl) (by decide) (Nat.le_of_ble_eq_true rfl) ?_
            refine e_ret (some _) rfl (r_int dX11_server_78 rfl) ?_
            refine xq ?_ rfl rfl rfl rfl rfl
            unfold serR serS
            grind
        refine e_tableOut (tgt := 79) dX11_server_10 (by omega) (by decide) ?_
        refine e_iconst (v := -1) dX11_server_79 rfl ?_
        refine e_ret (some _) rfl (r_int dX11_server_80 rfl) ?_
        refine xq ?_ rfl rfl rfl rfl rfl
        unfold serR serS
        grind
    · try first | contradiction | omega | (simp only [decide_eq_true_eq, decide_eq_false_iff_not] at h4; omega)
      all_goals
        refine e_iconst (v := -1) dX11_server_7 rfl ?_
        refine e_ret (some _) rfl (r_int dX11_server_8 rfl) ?_
        refine xq ?_ rfl rfl rfl rfl rfl
        unfold serR serS
        grind
  | true =>
    obtain ⟨a, ha, ha2, rfl⟩ := inR_ex hx
    have hcl : (nI a).toNatClampNeg = a := nI_clamp ha2
    have hu := iv_up iv ha
    refine e_iload_n dX11_server_0 rfl rfl ?_
    refine x_S1 (M' := mX11_isServer) dX11_server_1 ml_X11_161 ok_X11_isServer rfl sc_X11_isServer (ct_X11_isServer _) (Nat.le_of_ble_eq_true rfl) (by decide) (Nat.le_of_ble_eq_true rfl) ?_
    rw [hx]
    first | ((with_reducible refine mk_b ?_); refine b_if_ne (tgt := 9) dX11_server_4 (by decide) (fun h4 => ?_) (fun h4 => ?_)) | ((with_reducible refine mk_ll ?_); refine m_if_ne (tgt := 9) dX11_server_4 (by decide) (by omega) (by omega) (fun h4 => ?_) (fun h4 => ?_)) | ((with_reducible refine mk_lc ?_); refine l_if_ne (tgt := 9) dX11_server_4 (by decide) (fun h4 => ?_) (fun h4 => ?_)) | ((with_reducible refine mk_n ?_); refine n_if_ne (tgt := 9) dX11_server_4 (by decide) (by omega) (fun h4 => ?_) (fun h4 => ?_)) | refine e_if_ne (tgt := 9) dX11_server_4 (by decide) (fun h4 => ?_) (fun h4 => ?_)
    · try first | contradiction | omega | (simp only [decide_eq_true_eq, decide_eq_false_iff_not] at h4; omega)
      all_goals
        refine e_iload_n dX11_server_9 rfl rfl ?_
        refine e_swc (tgt := 44) 0 dX11_server_10 (by decide) (by decide) rfl (by decide) (fun h10_0 => ?_) (fun h10_0 => ?_)
        · try first | contradiction | omega
          all_goals
            refine e_aload_n dX11_server_44 rfl rfl ?_
            refine e_getR dX11_server_45 fl_X11_7 rfl (by assumption) ?_
            refine e_iconst (v := nI 4) dX11_server_48 rfl ?_
            refine e_iload_n dX11_server_49 rfl rfl ?_
            first | ((with_reducible refine mk_nn ?_); refine n_iadd dX11_server_50 ?_) | refine e_iadd dX11_server_50 ?_
            first | ((with_reducible refine mk_ldw ?_); refine e_ldw dX11_server_51 (by omega) ?_) | refine e_iald _ dX11_server_51 ⟨by decide, by decide⟩ rfl rfl (by simp only [lenK]; omega) ?_
            refine e_ret (some _) rfl (r_int dX11_server_52 rfl) ?_
            refine xq ?_ rfl rfl rfl rfl rfl
            unfold serR serS
            grind
        refine e_swc (tgt := 53) 1 dX11_server_10 (by decide) (by decide) rfl (by decide) (fun h10_1 => ?_) (fun h10_1 => ?_)
        · try first | contradiction | omega
          all_goals
            refine e_aload_n dX11_server_53 rfl rfl ?_
            refine e_iload_n dX11_server_54 rfl rfl ?_
            refine x_V1 (M' := mX11_spansOf) dX11_server_55 ml_X11_328 ok_X11_spansOf (by decide) rfl im_X11_spansOf se_X11_spansOf (ct_X11_spansOf ‹_› ‹_› (by omega)) (Nat.le_of_ble_eq_true rfl) (by decide) (Nat.le_of_ble_eq_true rfl) ?_
            refine e_ret (some _) rfl (r_int dX11_server_58 rfl) ?_
            refine xq ?_ rfl rfl rfl rfl rfl
            unfold serR serS
            grind
        refine e_swc (tgt := 59) 2 dX11_server_10 (by decide) (by decide) rfl (by decide) (fun h10_2 => ?_) (fun h10_2 => ?_)
        · try first | contradiction | omega
          all_goals
            refine e_aload_n dX11_server_59 rfl rfl ?_
            refine e_iload_n dX11_server_60 rfl rfl ?_
            refine x_V1 (M' := mX11_valuesOf) dX11_server_61 ml_X11_331 ok_X11_valuesOf (by decide) rfl im_X11_valuesOf se_X11_valuesOf (ct_X11_valuesOf ‹_› ‹_› (by omega)) (Nat.le_of_ble_eq_true rfl) (by decide) (Nat.le_of_ble_eq_true rfl) ?_
            refine e_ret (some _) rfl (r_int dX11_server_64 rfl) ?_
            refine xq ?_ rfl rfl rfl rfl rfl
            unfold serR serS
            grind
        refine e_swc (tgt := 65) 3 dX11_server_10 (by decide) (by decide) rfl (by decide) (fun h10_3 => ?_) (fun h10_3 => ?_)
        · try first | contradiction | omega
          all_goals
            refine e_aload_n dX11_server_65 rfl rfl ?_
            refine e_iload_n dX11_server_66 rfl rfl ?_
            refine e_iconst (v := nI 3) dX11_server_67 rfl ?_
            refine x_V2 (M' := mX11_movesBy) dX11_server_68 ml_X11_334 ok_X11_movesBy (by decide) rfl im_X11_movesBy se_X11_movesBy (ct_X11_movesBy ‹_› ‹_› (by omega) (by omega)) (Nat.le_of_ble_eq_true rfl) (by decide) (Nat.le_of_ble_eq_true rfl) ?_
            refine e_ret (some _) rfl (r_int dX11_server_71 rfl) ?_
            refine xq ?_ rfl rfl rfl rfl rfl
            unfold serR serS
            grind
        refine e_swc (tgt := 72) 4 dX11_server_10 (by decide) (by decide) rfl (by decide) (fun h10_4 => ?_) (fun h10_4 => ?_)
        · try first | contradiction | omega
          all_goals
            refine e_aload_n dX11_server_72 rfl rfl ?_
            refine e_iload_n dX11_server_73 rfl rfl ?_
            refine e_iconst (v := nI 4) dX11_server_74 rfl ?_
            refine x_V2 (M' := mX11_movesBy) dX11_server_75 ml_X11_334 ok_X11_movesBy (by decide) rfl im_X11_movesBy se_X11_movesBy (ct_X11_movesBy ‹_› ‹_› (by omega) (by omega)) (Nat.le_of_ble_eq_true rfl) (by decide) (Nat.le_of_ble_eq_true rfl) ?_
            refine e_ret (some _) rfl (r_int dX11_server_78 rfl) ?_
            refine xq ?_ rfl rfl rfl rfl rfl
            unfold serR serS
            grind
        refine e_tableOut (tgt := 79) dX11_server_10 (by omega) (by decide) ?_
        refine e_iconst (v := -1) dX11_server_79 rfl ?_
        refine e_ret (some _) rfl (r_int dX11_server_80 rfl) ?_
        refine xq ?_ rfl rfl rfl rfl rfl
        unfold serR serS
        grind
    · try first | contradiction | omega | (simp only [decide_eq_true_eq, decide_eq_false_iff_not] at h4; omega)
      all_goals
        refine e_iconst (v := -1) dX11_server_7 rfl ?_
        refine e_ret (some _) rfl (r_int dX11_server_8 rfl) ?_
        refine xq ?_ rfl rfl rfl rfl rfl
        unfold serR serS
        grind
theorem ct_X11_clientOf {fi : FI} {fr : FR} {ai : FI} {ar : FR} {N : Nat} {w : Nat → Nat} (sm : SM fr) (iv : Inv w) (y0 y1 : Int32) : CP mX11_clientOf 3 0 0 [.ref (rf 11 80), .int y0, .int y1] fi fr (mW ai w) ar N (xQ (some (.int (cliR w y0 y1))) fi fr (mW ai w) ar N) := by
  obtain ⟨sW, sA, sK, sU, sC, sKC, sT, sCl⟩ := id sm
  have h1 := iv_n iv
  have h3 := iv_mm iv
  change EV mX11_clientOf 3 0 0 0 [some (.ref (rf 11 80)), some (.int y0), some (.int y1)] [] fi fr (mW ai w) ar N (xQ (some (.int (cliR w y0 y1))) fi fr (mW ai w) ar N)
  cases hx : inR y0 (6) with
  | false =>
    have hx2 := inR_f hx
    refine e_iload_n dX11_clientOf_0 rfl rfl ?_
    refine x_S1 (M' := mX11_isClient) dX11_clientOf_1 ml_X11_121 ok_X11_isClient rfl sc_X11_isClient (ct_X11_isClient _) (Nat.le_of_ble_eq_true rfl) (by decide) (Nat.le_of_ble_eq_true rfl) ?_
    rw [hx]
    first | ((with_reducible refine mk_b ?_); refine b_if_eq (tgt := 19) dX11_clientOf_4 (by decide) (fun h4 => ?_) (fun h4 => ?_)) | ((with_reducible refine mk_ll ?_); refine m_if_eq (tgt := 19) dX11_clientOf_4 (by decide) (by omega) (by omega) (fun h4 => ?_) (fun h4 => ?_)) | ((with_reducible refine mk_lc ?_); refine l_if_eq (tgt := 19) dX11_clientOf_4 (by decide) (fun h4 => ?_) (fun h4 => ?_)) | ((with_reducible refine mk_n ?_); refine n_if_eq (tgt := 19) dX11_clientOf_4 (by decide) (by omega) (fun h4 => ?_) (fun h4 => ?_)) | refine e_if_eq (tgt := 19) dX11_clientOf_4 (by decide) (fun h4 => ?_) (fun h4 => ?_)
    · try first | contradiction | omega | (simp only [decide_eq_true_eq, decide_eq_false_iff_not] at h4; omega)
      all_goals
        refine e_iconst (v := -1) dX11_clientOf_19 rfl ?_
        refine e_ret (some _) rfl (r_int dX11_clientOf_20 rfl) ?_
        refine xq ?_ rfl rfl rfl rfl rfl
        unfold cliR
        grind
    · try first | contradiction | omega | (simp only [decide_eq_true_eq, decide_eq_false_iff_not] at h4; omega)
      all_goals
        refine e_iload_n dX11_clientOf_7 rfl rfl ?_
        first | ((with_reducible refine mk_n ?_); refine n_i2l dX11_clientOf_8 (by omega) ?_) | refine e_i2l dX11_clientOf_8 ?_
        refine e_lconst (v := lN 0) dX11_clientOf_9 rfl ?_
        refine e_ldc2 dX11_clientOf_10 co_X11_49 ?_
        refine x_S3 (M' := mX11_isIn) dX11_clientOf_13 ml_X11_45 ok_X11_isIn rfl sc_X11_isIn (by first | ((with_reducible refine ct_isInN ?_ ?_ ?_) <;> omega) | ((with_reducible refine ct_isInX ?_ ?_) <;> omega) | exact ct_X11_isIn _ _ _) (Nat.le_of_ble_eq_true rfl) (by decide) (Nat.le_of_ble_eq_true rfl) ?_
        first | ((with_reducible refine mk_b ?_); refine b_if_ne (tgt := 21) dX11_clientOf_16 (by decide) (fun h16 => ?_) (fun h16 => ?_)) | ((with_reducible refine mk_ll ?_); refine m_if_ne (tgt := 21) dX11_clientOf_16 (by decide) (by omega) (by omega) (fun h16 => ?_) (fun h16 => ?_)) | ((with_reducible refine mk_lc ?_); refine l_if_ne (tgt := 21) dX11_clientOf_16 (by decide) (fun h16 => ?_) (fun h16 => ?_)) | ((with_reducible refine mk_n ?_); refine n_if_ne (tgt := 21) dX11_clientOf_16 (by decide) (by omega) (fun h16 => ?_) (fun h16 => ?_)) | refine e_if_ne (tgt := 21) dX11_clientOf_16 (by decide) (fun h16 => ?_) (fun h16 => ?_)
        · try first | contradiction | omega | (simp only [decide_eq_true_eq, decide_eq_false_iff_not] at h16; omega)
          all_goals
            refine e_iload_n dX11_clientOf_21 rfl rfl ?_
            first | ((with_reducible refine mk_b ?_); refine b_if_ne (tgt := 37) dX11_clientOf_22 (by decide) (fun h22 => ?_) (fun h22 => ?_)) | ((with_reducible refine mk_ll ?_); refine m_if_ne (tgt := 37) dX11_clientOf_22 (by decide) (by omega) (by omega) (fun h22 => ?_) (fun h22 => ?_)) | ((with_reducible refine mk_lc ?_); refine l_if_ne (tgt := 37) dX11_clientOf_22 (by decide) (fun h22 => ?_) (fun h22 => ?_)) | ((with_reducible refine mk_n ?_); refine n_if_ne (tgt := 37) dX11_clientOf_22 (by decide) (by omega) (fun h22 => ?_) (fun h22 => ?_)) | refine e_if_ne (tgt := 37) dX11_clientOf_22 (by decide) (fun h22 => ?_) (fun h22 => ?_)
            · try first | contradiction | omega | (simp only [decide_eq_true_eq, decide_eq_false_iff_not] at h22; omega)
              all_goals
                refine e_iload_n dX11_clientOf_37 rfl rfl ?_
                refine e_iconst (v := nI 1) dX11_clientOf_38 rfl ?_
                first | ((with_reducible refine mk_mo ?_); refine p_icmp_ne (tgt := 50) dX11_clientOf_39 (by decide) (fun h39 => ?_) (fun h39 => ?_)) | ((with_reducible refine mk_ms ?_); refine s_icmp_ne (tgt := 50) dX11_clientOf_39 (by decide) (by omega) (fun h39 => ?_) (fun h39 => ?_)) | ((with_reducible refine mk_mn ?_); refine q_icmp_ne (tgt := 50) dX11_clientOf_39 (by decide) (by omega) (fun h39 => ?_) (fun h39 => ?_)) | ((with_reducible refine mk_nn ?_); refine n_icmp_ne (tgt := 50) dX11_clientOf_39 (by decide) (by omega) (by omega) (fun h39 => ?_) (fun h39 => ?_)) | refine e_icmp_ne (tgt := 50) dX11_clientOf_39 (by decide) (fun h39 => ?_) (fun h39 => ?_)
                · try first | contradiction | omega
                  all_goals
                    refine e_aload_n dX11_clientOf_50 rfl rfl ?_
                    refine e_getR dX11_clientOf_51 fl_X11_7 rfl (by assumption) ?_
                    refine e_sipush (v := nI 8573) dX11_clientOf_54 rfl ?_
                    refine e_iconst (v := nI 4) dX11_clientOf_57 rfl ?_
                    refine e_iload_n dX11_clientOf_58 rfl rfl ?_
                    first | ((with_reducible refine mk_nn ?_); refine n_imul dX11_clientOf_59 ?_) | refine e_imul dX11_clientOf_59 ?_
                    first | ((with_reducible refine mk_nn ?_); refine n_iadd dX11_clientOf_60 ?_) | refine e_iadd dX11_clientOf_60 ?_
                    refine e_iload_n dX11_clientOf_61 rfl rfl ?_
                    first | ((with_reducible refine mk_nn ?_); refine n_iadd dX11_clientOf_62 ?_) | refine e_iadd dX11_clientOf_62 ?_
                    refine e_iconst (v := nI 2) dX11_clientOf_63 rfl ?_
                    first | ((with_reducible refine mk_nn ?_); refine n_isub dX11_clientOf_64 (by omega) ?_) | refine e_isub dX11_clientOf_64 ?_
                    first | ((with_reducible refine mk_ldw ?_); refine e_ldw dX11_clientOf_65 (by omega) ?_) | refine e_iald _ dX11_clientOf_65 ⟨by decide, by decide⟩ rfl rfl (by simp only [lenK]; omega) ?_
                    refine e_ret (some _) rfl (r_int dX11_clientOf_66 rfl) ?_
                    refine xq ?_ rfl rfl rfl rfl rfl
                    unfold cliR
                    grind
                · try first | contradiction | omega
                  all_goals
                    refine e_aload_n dX11_clientOf_42 rfl rfl ?_
                    refine e_iload_n dX11_clientOf_43 rfl rfl ?_
                    refine x_V1 (M' := mX11_staleOf) dX11_clientOf_44 ml_X11_340 ok_X11_staleOf (by decide) rfl im_X11_staleOf se_X11_staleOf (ct_X11_staleOf ‹_› ‹_› (by omega)) (Nat.le_of_ble_eq_true rfl) (by decide) (Nat.le_of_ble_eq_true rfl) ?_
                    refine e_goto (tgt := 66) dX11_clientOf_47 (by decide) ?_
                    refine e_ret (some _) rfl (r_int dX11_clientOf_66 rfl) ?_
                    refine xq ?_ rfl rfl rfl rfl rfl
                    unfold cliR
                    grind
            · try first | contradiction | omega | (simp only [decide_eq_true_eq, decide_eq_false_iff_not] at h22; omega)
              all_goals
                refine e_aload_n dX11_clientOf_25 rfl rfl ?_
                refine e_getR dX11_clientOf_26 fl_X11_7 rfl (by assumption) ?_
                refine e_iload_n dX11_clientOf_29 rfl rfl ?_
                refine x_S1 (M' := mX11_clientAt) dX11_clientOf_30 ml_X11_118 ok_X11_clientAt rfl sc_X11_clientAt (ct_X11_clientAt) (Nat.le_of_ble_eq_true rfl) (by decide) (Nat.le_of_ble_eq_true rfl) ?_
                refine e_iconst (v := nI 0) dX11_clientOf_33 rfl ?_
                first | ((with_reducible refine mk_nn ?_); refine n_iadd dX11_clientOf_34 ?_) | refine e_iadd dX11_clientOf_34 ?_
                first | ((with_reducible refine mk_ldw ?_); refine e_ldw dX11_clientOf_35 (by omega) ?_) | refine e_iald _ dX11_clientOf_35 ⟨by decide, by decide⟩ rfl rfl (by simp only [lenK]; omega) ?_
                refine e_ret (some _) rfl (r_int dX11_clientOf_36 rfl) ?_
                refine xq ?_ rfl rfl rfl rfl rfl
                unfold cliR
                grind
        · try first | contradiction | omega | (simp only [decide_eq_true_eq, decide_eq_false_iff_not] at h16; omega)
          all_goals
            refine e_iconst (v := -1) dX11_clientOf_19 rfl ?_
            refine e_ret (some _) rfl (r_int dX11_clientOf_20 rfl) ?_
            refine xq ?_ rfl rfl rfl rfl rfl
            unfold cliR
            grind
  | true =>
    obtain ⟨a, ha, ha2, rfl⟩ := inR_ex hx
    have hcl : (nI a).toNatClampNeg = a := nI_clamp ha2
    have hc := iv_cl iv ha
    cases hy : inR y1 (6) with
    | false =>
      have hy2 := inR_f hy
      refine e_iload_n dX11_clientOf_0 rfl rfl ?_
      refine x_S1 (M' := mX11_isClient) dX11_clientOf_1 ml_X11_121 ok_X11_isClient rfl sc_X11_isClient (ct_X11_isClient _) (Nat.le_of_ble_eq_true rfl) (by decide) (Nat.le_of_ble_eq_true rfl) ?_
      rw [hx]
      first | ((with_reducible refine mk_b ?_); refine b_if_eq (tgt := 19) dX11_clientOf_4 (by decide) (fun h4 => ?_) (fun h4 => ?_)) | ((with_reducible refine mk_ll ?_); refine m_if_eq (tgt := 19) dX11_clientOf_4 (by decide) (by omega) (by omega) (fun h4 => ?_) (fun h4 => ?_)) | ((with_reducible refine mk_lc ?_); refine l_if_eq (tgt := 19) dX11_clientOf_4 (by decide) (fun h4 => ?_) (fun h4 => ?_)) | ((with_reducible refine mk_n ?_); refine n_if_eq (tgt := 19) dX11_clientOf_4 (by decide) (by omega) (fun h4 => ?_) (fun h4 => ?_)) | refine e_if_eq (tgt := 19) dX11_clientOf_4 (by decide) (fun h4 => ?_) (fun h4 => ?_)
      · try first | contradiction | omega | (simp only [decide_eq_true_eq, decide_eq_false_iff_not] at h4; omega)
        all_goals
          refine e_iconst (v := -1) dX11_clientOf_19 rfl ?_
          refine e_ret (some _) rfl (r_int dX11_clientOf_20 rfl) ?_
          refine xq ?_ rfl rfl rfl rfl rfl
          unfold cliR
          grind
      · try first | contradiction | omega | (simp only [decide_eq_true_eq, decide_eq_false_iff_not] at h4; omega)
        all_goals
          refine e_iload_n dX11_clientOf_7 rfl rfl ?_
          first | ((with_reducible refine mk_n ?_); refine n_i2l dX11_clientOf_8 (by omega) ?_) | refine e_i2l dX11_clientOf_8 ?_
          refine e_lconst (v := lN 0) dX11_clientOf_9 rfl ?_
          refine e_ldc2 dX11_clientOf_10 co_X11_49 ?_
          refine x_S3 (M' := mX11_isIn) dX11_clientOf_13 ml_X11_45 ok_X11_isIn rfl sc_X11_isIn (by first | ((with_reducible refine ct_isInN ?_ ?_ ?_) <;> omega) | ((with_reducible refine ct_isInX ?_ ?_) <;> omega) | exact ct_X11_isIn _ _ _) (Nat.le_of_ble_eq_true rfl) (by decide) (Nat.le_of_ble_eq_true rfl) ?_
          first | ((with_reducible refine mk_b ?_); refine b_if_ne (tgt := 21) dX11_clientOf_16 (by decide) (fun h16 => ?_) (fun h16 => ?_)) | ((with_reducible refine mk_ll ?_); refine m_if_ne (tgt := 21) dX11_clientOf_16 (by decide) (by omega) (by omega) (fun h16 => ?_) (fun h16 => ?_)) | ((with_reducible refine mk_lc ?_); refine l_if_ne (tgt := 21) dX11_clientOf_16 (by decide) (fun h16 => ?_) (fun h16 => ?_)) | ((with_reducible refine mk_n ?_); refine n_if_ne (tgt := 21) dX11_clientOf_16 (by decide) (by omega) (fun h16 => ?_) (fun h16 => ?_)) | refine e_if_ne (tgt := 21) dX11_clientOf_16 (by decide) (fun h16 => ?_) (fun h16 => ?_)
          · try first | contradiction | omega | (simp only [decide_eq_true_eq, decide_eq_false_iff_not] at h16; omega)
            all_goals
              refine e_iload_n dX11_clientOf_21 rfl rfl ?_
              first | ((with_reducible refine mk_b ?_); refine b_if_ne (tgt := 37) dX11_clientOf_22 (by decide) (fun h22 => ?_) (fun h22 => ?_)) | ((with_reducible refine mk_ll ?_); refine m_if_ne (tgt := 37) dX11_clientOf_22 (by decide) (by omega) (by omega) (fun h22 => ?_) (fun h22 => ?_)) | ((with_reducible refine mk_lc ?_); refine l_if_ne (tgt := 37) dX11_clientOf_22 (by decide) (fun h22 => ?_) (fun h22 => ?_)) | ((with_reducible refine mk_n ?_); refine n_if_ne (tgt := 37) dX11_clientOf_22 (by decide) (by omega) (fun h22 => ?_) (fun h22 => ?_)) | refine e_if_ne (tgt := 37) dX11_clientOf_22 (by decide) (fun h22 => ?_) (fun h22 => ?_)
              · try first | contradiction | omega | (simp only [decide_eq_true_eq, decide_eq_false_iff_not] at h22; omega)
                all_goals
                  refine e_iload_n dX11_clientOf_37 rfl rfl ?_
                  refine e_iconst (v := nI 1) dX11_clientOf_38 rfl ?_
                  first | ((with_reducible refine mk_mo ?_); refine p_icmp_ne (tgt := 50) dX11_clientOf_39 (by decide) (fun h39 => ?_) (fun h39 => ?_)) | ((with_reducible refine mk_ms ?_); refine s_icmp_ne (tgt := 50) dX11_clientOf_39 (by decide) (by omega) (fun h39 => ?_) (fun h39 => ?_)) | ((with_reducible refine mk_mn ?_); refine q_icmp_ne (tgt := 50) dX11_clientOf_39 (by decide) (by omega) (fun h39 => ?_) (fun h39 => ?_)) | ((with_reducible refine mk_nn ?_); refine n_icmp_ne (tgt := 50) dX11_clientOf_39 (by decide) (by omega) (by omega) (fun h39 => ?_) (fun h39 => ?_)) | refine e_icmp_ne (tgt := 50) dX11_clientOf_39 (by decide) (fun h39 => ?_) (fun h39 => ?_)
                  · try first | contradiction | omega
                    all_goals
                      refine e_aload_n dX11_clientOf_50 rfl rfl ?_
                      refine e_getR dX11_clientOf_51 fl_X11_7 rfl (by assumption) ?_
                      refine e_sipush (v := nI 8573) dX11_clientOf_54 rfl ?_
                      refine e_iconst (v := nI 4) dX11_clientOf_57 rfl ?_
                      refine e_iload_n dX11_clientOf_58 rfl rfl ?_
                      first | ((with_reducible refine mk_nn ?_); refine n_imul dX11_clientOf_59 ?_) | refine e_imul dX11_clientOf_59 ?_
                      first | ((with_reducible refine mk_nn ?_); refine n_iadd dX11_clientOf_60 ?_) | refine e_iadd dX11_clientOf_60 ?_
                      refine e_iload_n dX11_clientOf_61 rfl rfl ?_
                      first | ((with_reducible refine mk_nn ?_); refine n_iadd dX11_clientOf_62 ?_) | refine e_iadd dX11_clientOf_62 ?_
                      refine e_iconst (v := nI 2) dX11_clientOf_63 rfl ?_
                      first | ((with_reducible refine mk_nn ?_); refine n_isub dX11_clientOf_64 (by omega) ?_) | refine e_isub dX11_clientOf_64 ?_
                      first | ((with_reducible refine mk_ldw ?_); refine e_ldw dX11_clientOf_65 (by omega) ?_) | refine e_iald _ dX11_clientOf_65 ⟨by decide, by decide⟩ rfl rfl (by simp only [lenK]; omega) ?_
                      refine e_ret (some _) rfl (r_int dX11_clientOf_66 rfl) ?_
                      refine xq ?_ rfl rfl rfl rfl rfl
                      unfold cliR
                      grind
                  · try first | contradiction | omega
                    all_goals
                      refine e_aload_n dX11_clientOf_42 rfl rfl ?_
                      refine e_iload_n dX11_clientOf_43 rfl rfl ?_
                      refine x_V1 (M' := mX11_staleOf) dX11_clientOf_44 ml_X11_340 ok_X11_staleOf (by decide) rfl im_X11_staleOf se_X11_staleOf (ct_X11_staleOf ‹_› ‹_› (by omega)) (Nat.le_of_ble_eq_true rfl) (by decide) (Nat.le_of_ble_eq_true rfl) ?_
                      refine e_goto (tgt := 66) dX11_clientOf_47 (by decide) ?_
                      refine e_ret (some _) rfl (r_int dX11_clientOf_66 rfl) ?_
                      refine xq ?_ rfl rfl rfl rfl rfl
                      unfold cliR
                      grind
              · try first | contradiction | omega | (simp only [decide_eq_true_eq, decide_eq_false_iff_not] at h22; omega)
                all_goals
                  refine e_aload_n dX11_clientOf_25 rfl rfl ?_
                  refine e_getR dX11_clientOf_26 fl_X11_7 rfl (by assumption) ?_
                  refine e_iload_n dX11_clientOf_29 rfl rfl ?_
                  refine x_S1 (M' := mX11_clientAt) dX11_clientOf_30 ml_X11_118 ok_X11_clientAt rfl sc_X11_clientAt (ct_X11_clientAt) (Nat.le_of_ble_eq_true rfl) (by decide) (Nat.le_of_ble_eq_true rfl) ?_
                  refine e_iconst (v := nI 0) dX11_clientOf_33 rfl ?_
                  first | ((with_reducible refine mk_nn ?_); refine n_iadd dX11_clientOf_34 ?_) | refine e_iadd dX11_clientOf_34 ?_
                  first | ((with_reducible refine mk_ldw ?_); refine e_ldw dX11_clientOf_35 (by omega) ?_) | refine e_iald _ dX11_clientOf_35 ⟨by decide, by decide⟩ rfl rfl (by simp only [lenK]; omega) ?_
                  refine e_ret (some _) rfl (r_int dX11_clientOf_36 rfl) ?_
                  refine xq ?_ rfl rfl rfl rfl rfl
                  unfold cliR
                  grind
          · try first | contradiction | omega | (simp only [decide_eq_true_eq, decide_eq_false_iff_not] at h16; omega)
            all_goals
              refine e_iconst (v := -1) dX11_clientOf_19 rfl ?_
              refine e_ret (some _) rfl (r_int dX11_clientOf_20 rfl) ?_
              refine xq ?_ rfl rfl rfl rfl rfl
              unfold cliR
              grind
    | true =>
      obtain ⟨b, hb, hb2, rfl⟩ := inR_ex hy
      have hcl2 : (nI b).toNatClampNeg = b := nI_clamp hb2
      refine e_iload_n dX11_clientOf_0 rfl rfl ?_
      refine x_S1 (M' := mX11_isClient) dX11_clientOf_1 ml_X11_121 ok_X11_isClient rfl sc_X11_isClient (ct_X11_isClient _) (Nat.le_of_ble_eq_true rfl) (by decide) (Nat.le_of_ble_eq_true rfl) ?_
      rw [hx]
      first | ((with_reducible refine mk_b ?_); refine b_if_eq (tgt := 19) dX11_clientOf_4 (by decide) (fun h4 => ?_) (fun h4 => ?_)) | ((with_reducible refine mk_ll ?_); refine m_if_eq (tgt := 19) dX11_clientOf_4 (by decide) (by omega) (by omega) (fun h4 => ?_) (fun h4 => ?_)) | ((with_reducible refine mk_lc ?_); refine l_if_eq (tgt := 19) dX11_clientOf_4 (by decide) (fun h4 => ?_) (fun h4 => ?_)) | ((with_reducible refine mk_n ?_); refine n_if_eq (tgt := 19) dX11_clientOf_4 (by decide) (by omega) (fun h4 => ?_) (fun h4 => ?_)) | refine e_if_eq (tgt := 19) dX11_clientOf_4 (by decide) (fun h4 => ?_) (fun h4 => ?_)
      · try first | contradiction | omega | (simp only [decide_eq_true_eq, decide_eq_false_iff_not] at h4; omega)
        all_goals
          refine e_iconst (v := -1) dX11_clientOf_19 rfl ?_
          refine e_ret (some _) rfl (r_int dX11_clientOf_20 rfl) ?_
          refine xq ?_ rfl rfl rfl rfl rfl
          unfold cliR
          grind
      · try first | contradiction | omega | (simp only [decide_eq_true_eq, decide_eq_false_iff_not] at h4; omega)
        all_goals
          refine e_iload_n dX11_clientOf_7 rfl rfl ?_
          first | ((with_reducible refine mk_n ?_); refine n_i2l dX11_clientOf_8 (by omega) ?_) | refine e_i2l dX11_clientOf_8 ?_
          refine e_lconst (v := lN 0) dX11_clientOf_9 rfl ?_
          refine e_ldc2 dX11_clientOf_10 co_X11_49 ?_
          refine x_S3 (M' := mX11_isIn) dX11_clientOf_13 ml_X11_45 ok_X11_isIn rfl sc_X11_isIn (by first | ((with_reducible refine ct_isInN ?_ ?_ ?_) <;> omega) | ((with_reducible refine ct_isInX ?_ ?_) <;> omega) | exact ct_X11_isIn _ _ _) (Nat.le_of_ble_eq_true rfl) (by decide) (Nat.le_of_ble_eq_true rfl) ?_
          first | ((with_reducible refine mk_b ?_); refine b_if_ne (tgt := 21) dX11_clientOf_16 (by decide) (fun h16 => ?_) (fun h16 => ?_)) | ((with_reducible refine mk_ll ?_); refine m_if_ne (tgt := 21) dX11_clientOf_16 (by decide) (by omega) (by omega) (fun h16 => ?_) (fun h16 => ?_)) | ((with_reducible refine mk_lc ?_); refine l_if_ne (tgt := 21) dX11_clientOf_16 (by decide) (fun h16 => ?_) (fun h16 => ?_)) | ((with_reducible refine mk_n ?_); refine n_if_ne (tgt := 21) dX11_clientOf_16 (by decide) (by omega) (fun h16 => ?_) (fun h16 => ?_)) | refine e_if_ne (tgt := 21) dX11_clientOf_16 (by decide) (fun h16 => ?_) (fun h16 => ?_)
          · try first | contradiction | omega | (simp only [decide_eq_true_eq, decide_eq_false_iff_not] at h16; omega)
            all_goals
              refine e_iload_n dX11_clientOf_21 rfl rfl ?_
              first | ((with_reducible refine mk_b ?_); refine b_if_ne (tgt := 37) dX11_clientOf_22 (by decide) (fun h22 => ?_) (fun h22 => ?_)) | ((with_reducible refine mk_ll ?_); refine m_if_ne (tgt := 37) dX11_clientOf_22 (by decide) (by omega) (by omega) (fun h22 => ?_) (fun h22 => ?_)) | ((with_reducible refine mk_lc ?_); refine l_if_ne (tgt := 37) dX11_clientOf_22 (by decide) (fun h22 => ?_) (fun h22 => ?_)) | ((with_reducible refine mk_n ?_); refine n_if_ne (tgt := 37) dX11_clientOf_22 (by decide) (by omega) (fun h22 => ?_) (fun h22 => ?_)) | refine e_if_ne (tgt := 37) dX11_clientOf_22 (by decide) (fun h22 => ?_) (fun h22 => ?_)
              · try first | contradiction | omega | (simp only [decide_eq_true_eq, decide_eq_false_iff_not] at h22; omega)
                all_goals
                  refine e_iload_n dX11_clientOf_37 rfl rfl ?_
                  refine e_iconst (v := nI 1) dX11_clientOf_38 rfl ?_
                  first | ((with_reducible refine mk_mo ?_); refine p_icmp_ne (tgt := 50) dX11_clientOf_39 (by decide) (fun h39 => ?_) (fun h39 => ?_)) | ((with_reducible refine mk_ms ?_); refine s_icmp_ne (tgt := 50) dX11_clientOf_39 (by decide) (by omega) (fun h39 => ?_) (fun h39 => ?_)) | ((with_reducible refine mk_mn ?_); refine q_icmp_ne (tgt := 50) dX11_clientOf_39 (by decide) (by omega) (fun h39 => ?_) (fun h39 => ?_)) | ((with_reducible refine mk_nn ?_); refine n_icmp_ne (tgt := 50) dX11_clientOf_39 (by decide) (by omega) (by omega) (fun h39 => ?_) (fun h39 => ?_)) | refine e_icmp_ne (tgt := 50) dX11_clientOf_39 (by decide) (fun h39 => ?_) (fun h39 => ?_)
                  · try first | contradiction | omega
                    all_goals
                      refine e_aload_n dX11_clientOf_50 rfl rfl ?_
                      refine e_getR dX11_clientOf_51 fl_X11_7 rfl (by assumption) ?_
                      refine e_sipush (v := nI 8573) dX11_clientOf_54 rfl ?_
                      refine e_iconst (v := nI 4) dX11_clientOf_57 rfl ?_
                      refine e_iload_n dX11_clientOf_58 rfl rfl ?_
                      first | ((with_reducible refine mk_nn ?_); refine n_imul dX11_clientOf_59 ?_) | refine e_imul dX11_clientOf_59 ?_
                      first | ((with_reducible refine mk_nn ?_); refine n_iadd dX11_clientOf_60 ?_) | refine e_iadd dX11_clientOf_60 ?_
                      refine e_iload_n dX11_clientOf_61 rfl rfl ?_
                      first | ((with_reducible refine mk_nn ?_); refine n_iadd dX11_clientOf_62 ?_) | refine e_iadd dX11_clientOf_62 ?_
                      refine e_iconst (v := nI 2) dX11_clientOf_63 rfl ?_
                      first | ((with_reducible refine mk_nn ?_); refine n_isub dX11_clientOf_64 (by omega) ?_) | refine e_isub dX11_clientOf_64 ?_
                      first | ((with_reducible refine mk_ldw ?_); refine e_ldw dX11_clientOf_65 (by omega) ?_) | refine e_iald _ dX11_clientOf_65 ⟨by decide, by decide⟩ rfl rfl (by simp only [lenK]; omega) ?_
                      refine e_ret (some _) rfl (r_int dX11_clientOf_66 rfl) ?_
                      refine xq ?_ rfl rfl rfl rfl rfl
                      unfold cliR
                      grind
                  · try first | contradiction | omega
                    all_goals
                      refine e_aload_n dX11_clientOf_42 rfl rfl ?_
                      refine e_iload_n dX11_clientOf_43 rfl rfl ?_
                      refine x_V1 (M' := mX11_staleOf) dX11_clientOf_44 ml_X11_340 ok_X11_staleOf (by decide) rfl im_X11_staleOf se_X11_staleOf (ct_X11_staleOf ‹_› ‹_› (by omega)) (Nat.le_of_ble_eq_true rfl) (by decide) (Nat.le_of_ble_eq_true rfl) ?_
                      refine e_goto (tgt := 66) dX11_clientOf_47 (by decide) ?_
                      refine e_ret (some _) rfl (r_int dX11_clientOf_66 rfl) ?_
                      refine xq ?_ rfl rfl rfl rfl rfl
                      unfold cliR
                      grind
              · try first | contradiction | omega | (simp only [decide_eq_true_eq, decide_eq_false_iff_not] at h22; omega)
                all_goals
                  refine e_aload_n dX11_clientOf_25 rfl rfl ?_
                  refine e_getR dX11_clientOf_26 fl_X11_7 rfl (by assumption) ?_
                  refine e_iload_n dX11_clientOf_29 rfl rfl ?_
                  refine x_S1 (M' := mX11_clientAt) dX11_clientOf_30 ml_X11_118 ok_X11_clientAt rfl sc_X11_clientAt (ct_X11_clientAt) (Nat.le_of_ble_eq_true rfl) (by decide) (Nat.le_of_ble_eq_true rfl) ?_
                  refine e_iconst (v := nI 0) dX11_clientOf_33 rfl ?_
                  first | ((with_reducible refine mk_nn ?_); refine n_iadd dX11_clientOf_34 ?_) | refine e_iadd dX11_clientOf_34 ?_
                  first | ((with_reducible refine mk_ldw ?_); refine e_ldw dX11_clientOf_35 (by omega) ?_) | refine e_iald _ dX11_clientOf_35 ⟨by decide, by decide⟩ rfl rfl (by simp only [lenK]; omega) ?_
                  refine e_ret (some _) rfl (r_int dX11_clientOf_36 rfl) ?_
                  refine xq ?_ rfl rfl rfl rfl rfl
                  unfold cliR
                  grind
          · try first | contradiction | omega | (simp only [decide_eq_true_eq, decide_eq_false_iff_not] at h16; omega)
            all_goals
              refine e_iconst (v := -1) dX11_clientOf_19 rfl ?_
              refine e_ret (some _) rfl (r_int dX11_clientOf_20 rfl) ?_
              refine xq ?_ rfl rfl rfl rfl rfl
              unfold cliR
              grind
theorem ct_X11_span {fi : FI} {fr : FR} {ai : FI} {ar : FR} {N : Nat} {w : Nat → Nat} (sm : SM fr) (iv : Inv w) (y0 y1 : Int32) : CP mX11_span 4 0 0 [.ref (rf 11 80), .int y0, .int y1] fi fr (mW ai w) ar N (xQ (some (.int (spaR w y0 y1))) fi fr (mW ai w) ar N) := by
  obtain ⟨sW, sA, sK, sU, sC, sKC, sT, sCl⟩ := id sm
  have h1 := iv_n iv
  have h3 := iv_mm iv
  change EV mX11_span 4 0 0 0 [some (.ref (rf 11 80)), some (.int y0), some (.int y1)] [] fi fr (mW ai w) ar N (xQ (some (.int (spaR w y0 y1))) fi fr (mW ai w) ar N)
  by_cases hN : y0 = -1
  · subst hN
    have hz : inR (-1) (w 1) = false := rfl
    refine e_iload_n dX11_span_0 rfl rfl ?_
    refine e_iconst (v := -1) dX11_span_1 rfl ?_
    first | ((with_reducible refine mk_mo ?_); refine p_icmp_ne (tgt := 12) dX11_span_2 (by decide) (fun h2 => ?_) (fun h2 => ?_)) | ((with_reducible refine mk_ms ?_); refine s_icmp_ne (tgt := 12) dX11_span_2 (by decide) (by omega) (fun h2 => ?_) (fun h2 => ?_)) | ((with_reducible refine mk_mn ?_); refine q_icmp_ne (tgt := 12) dX11_span_2 (by decide) (by omega) (fun h2 => ?_) (fun h2 => ?_)) | ((with_reducible refine mk_nn ?_); refine n_icmp_ne (tgt := 12) dX11_span_2 (by decide) (by omega) (by omega) (fun h2 => ?_) (fun h2 => ?_)) | refine e_icmp_ne (tgt := 12) dX11_span_2 (by decide) (fun h2 => ?_) (fun h2 => ?_)
    · try first | contradiction | omega
      all_goals
        refine e_aload_n dX11_span_12 rfl rfl ?_
        refine e_iload_n dX11_span_13 rfl rfl ?_
        refine x_V1 (M' := mX11_isSpan) dX11_span_14 ml_X11_317 ok_X11_isSpan (by decide) rfl im_X11_isSpan se_X11_isSpan (ct_X11_isSpan ‹_› ‹_› _) (Nat.le_of_ble_eq_true rfl) (by decide) (Nat.le_of_ble_eq_true rfl) ?_
        first | ((with_reducible refine mk_b ?_); refine b_if_ne (tgt := 22) dX11_span_17 (by decide) (fun h17 => ?_) (fun h17 => ?_)) | ((with_reducible refine mk_ll ?_); refine m_if_ne (tgt := 22) dX11_span_17 (by decide) (by omega) (by omega) (fun h17 => ?_) (fun h17 => ?_)) | ((with_reducible refine mk_lc ?_); refine l_if_ne (tgt := 22) dX11_span_17 (by decide) (fun h17 => ?_) (fun h17 => ?_)) | ((with_reducible refine mk_n ?_); refine n_if_ne (tgt := 22) dX11_span_17 (by decide) (by omega) (fun h17 => ?_) (fun h17 => ?_)) | refine e_if_ne (tgt := 22) dX11_span_17 (by decide) (fun h17 => ?_) (fun h17 => ?_)
        · try first | contradiction | omega | (simp only [decide_eq_true_eq, decide_eq_false_iff_not] at h17; omega)
          all_goals
            refine e_iload_n dX11_span_22 rfl rfl ?_
            refine e_swc (tgt := 64) 0 dX11_span_23 (by decide) (by decide) rfl (by decide) (fun h23_0 => ?_) (fun h23_0 => ?_)
            · try first | contradiction | omega
              all_goals
                refine e_aload_n dX11_span_64 rfl rfl ?_
                refine e_getR dX11_span_65 fl_X11_7 rfl (by assumption) ?_
                refine e_bipush (v := nI 10) dX11_span_68 rfl ?_
                refine e_iload_n dX11_span_70 rfl rfl ?_
                first | ((with_reducible refine mk_nn ?_); refine n_iadd dX11_span_71 ?_) | refine e_iadd dX11_span_71 ?_
                first | ((with_reducible refine mk_ldw ?_); refine e_ldw dX11_span_72 (by omega) ?_) | refine e_iald _ dX11_span_72 ⟨by decide, by decide⟩ rfl rfl (by simp only [lenK]; omega) ?_
                refine e_ret (some _) rfl (r_int dX11_span_73 rfl) ?_
                refine xq ?_ rfl rfl rfl rfl rfl
                unfold spaR
                rw [if_pos rfl]
            refine e_swc (tgt := 74) 1 dX11_span_23 (by decide) (by decide) rfl (by decide) (fun h23_1 => ?_) (fun h23_1 => ?_)
            · try first | contradiction | omega
              all_goals
                refine e_aload_n dX11_span_74 rfl rfl ?_
                refine e_iload_n dX11_span_75 rfl rfl ?_
                refine x_V1 (M' := mX11_endOf) dX11_span_76 ml_X11_70 ok_X11_endOf (by decide) rfl im_X11_endOf se_X11_endOf (ct_X11_endOf ‹_› ‹_› (by omega)) (Nat.le_of_ble_eq_true rfl) (by decide) (Nat.le_of_ble_eq_true rfl) ?_
                refine e_ret (some _) rfl (r_int dX11_span_79 rfl) ?_
                refine xq ?_ rfl rfl rfl rfl rfl
                unfold spaR
                rw [if_pos rfl]
            refine e_swc (tgt := 80) 2 dX11_span_23 (by decide) (by decide) rfl (by decide) (fun h23_2 => ?_) (fun h23_2 => ?_)
            · try first | contradiction | omega
              all_goals
                refine e_aload_n dX11_span_80 rfl rfl ?_
                refine e_getR dX11_span_81 fl_X11_7 rfl (by assumption) ?_
                refine e_bipush (v := nI 42) dX11_span_84 rfl ?_
                refine e_iload_n dX11_span_86 rfl rfl ?_
                first | ((with_reducible refine mk_nn ?_); refine n_iadd dX11_span_87 ?_) | refine e_iadd dX11_span_87 ?_
                first | ((with_reducible refine mk_ldw ?_); refine e_ldw dX11_span_88 (by omega) ?_) | refine e_iald _ dX11_span_88 ⟨by decide, by decide⟩ rfl rfl (by simp only [lenK]; omega) ?_
                refine e_ret (some _) rfl (r_int dX11_span_89 rfl) ?_
                refine xq ?_ rfl rfl rfl rfl rfl
                unfold spaR
                rw [if_pos rfl]
            refine e_swc (tgt := 90) 3 dX11_span_23 (by decide) (by decide) rfl (by decide) (fun h23_3 => ?_) (fun h23_3 => ?_)
            · try first | contradiction | omega
              all_goals
                refine e_aload_n dX11_span_90 rfl rfl ?_
                refine e_getR dX11_span_91 fl_X11_7 rfl (by assumption) ?_
                refine e_bipush (v := nI 74) dX11_span_94 rfl ?_
                refine e_iload_n dX11_span_96 rfl rfl ?_
                first | ((with_reducible refine mk_nn ?_); refine n_iadd dX11_span_97 ?_) | refine e_iadd dX11_span_97 ?_
                first | ((with_reducible refine mk_ldw ?_); refine e_ldw dX11_span_98 (by omega) ?_) | refine e_iald _ dX11_span_98 ⟨by decide, by decide⟩ rfl rfl (by simp only [lenK]; omega) ?_
                refine e_ret (some _) rfl (r_int dX11_span_99 rfl) ?_
                refine xq ?_ rfl rfl rfl rfl rfl
                unfold spaR
                rw [if_pos rfl]
            refine e_swc (tgt := 100) 4 dX11_span_23 (by decide) (by decide) rfl (by decide) (fun h23_4 => ?_) (fun h23_4 => ?_)
            · try first | contradiction | omega
              all_goals
                refine e_aload_n dX11_span_100 rfl rfl ?_
                refine e_iload_n dX11_span_101 rfl rfl ?_
                refine x_V1 (M' := mX11_moveOfSpan) dX11_span_102 ml_X11_79 ok_X11_moveOfSpan (by decide) rfl im_X11_moveOfSpan se_X11_moveOfSpan (ct_X11_moveOfSpan ‹_› ‹_› (by omega)) (Nat.le_of_ble_eq_true rfl) (by decide) (Nat.le_of_ble_eq_true rfl) ?_
                refine e_ret (some _) rfl (r_int dX11_span_105 rfl) ?_
                refine xq ?_ rfl rfl rfl rfl rfl
                unfold spaR
                rw [if_pos rfl]
            refine e_swc (tgt := 106) 5 dX11_span_23 (by decide) (by decide) rfl (by decide) (fun h23_5 => ?_) (fun h23_5 => ?_)
            · try first | contradiction | omega
              all_goals
                refine e_aload_n dX11_span_106 rfl rfl ?_
                refine e_iload_n dX11_span_107 rfl rfl ?_
                refine x_V1 (M' := mX11_isFrozenSpan) dX11_span_108 ml_X11_320 ok_X11_isFrozenSpan (by decide) rfl im_X11_isFrozenSpan se_X11_isFrozenSpan (ct_X11_isFrozenSpan ‹_› ‹_› (by omega)) (Nat.le_of_ble_eq_true rfl) (by decide) (Nat.le_of_ble_eq_true rfl) ?_
                first | ((with_reducible refine mk_b ?_); refine b_if_eq (tgt := 118) dX11_span_111 (by decide) (fun h111 => ?_) (fun h111 => ?_)) | ((with_reducible refine mk_ll ?_); refine m_if_eq (tgt := 118) dX11_span_111 (by decide) (by omega) (by omega) (fun h111 => ?_) (fun h111 => ?_)) | ((with_reducible refine mk_lc ?_); refine l_if_eq (tgt := 118) dX11_span_111 (by decide) (fun h111 => ?_) (fun h111 => ?_)) | ((with_reducible refine mk_n ?_); refine n_if_eq (tgt := 118) dX11_span_111 (by decide) (by omega) (fun h111 => ?_) (fun h111 => ?_)) | refine e_if_eq (tgt := 118) dX11_span_111 (by decide) (fun h111 => ?_) (fun h111 => ?_)
                · try first | contradiction | omega | (simp only [decide_eq_true_eq, decide_eq_false_iff_not] at h111; omega)
                  all_goals
                    refine e_iconst (v := nI 0) dX11_span_118 rfl ?_
                    refine e_ret (some _) rfl (r_int dX11_span_119 rfl) ?_
                    refine xq ?_ rfl rfl rfl rfl rfl
                    unfold spaR
                    rw [if_pos rfl]
                · try first | contradiction | omega | (simp only [decide_eq_true_eq, decide_eq_false_iff_not] at h111; omega)
                  all_goals
                    refine e_iconst (v := nI 1) dX11_span_114 rfl ?_
                    refine e_goto (tgt := 119) dX11_span_115 (by decide) ?_
                    refine e_ret (some _) rfl (r_int dX11_span_119 rfl) ?_
                    refine xq ?_ rfl rfl rfl rfl rfl
                    unfold spaR
                    rw [if_pos rfl]
            refine e_swc (tgt := 120) 6 dX11_span_23 (by decide) (by decide) rfl (by decide) (fun h23_6 => ?_) (fun h23_6 => ?_)
            · try first | contradiction | omega
              all_goals
                refine e_aload_n dX11_span_120 rfl rfl ?_
                refine e_iload_n dX11_span_121 rfl rfl ?_
                refine x_V1 (M' := mX11_valuesIn) dX11_span_122 ml_X11_323 ok_X11_valuesIn (by decide) rfl im_X11_valuesIn se_X11_valuesIn (ct_X11_valuesIn ‹_› ‹_› (by omega)) (Nat.le_of_ble_eq_true rfl) (by decide) (Nat.le_of_ble_eq_true rfl) ?_
                refine e_ret (some _) rfl (r_int dX11_span_125 rfl) ?_
                refine xq ?_ rfl rfl rfl rfl rfl
                unfold spaR
                rw [if_pos rfl]
            refine e_tableOut (tgt := 126) dX11_span_23 (by omega) (by decide) ?_
            refine e_iconst (v := -1) dX11_span_126 rfl ?_
            refine e_ret (some _) rfl (r_int dX11_span_127 rfl) ?_
            refine xq ?_ rfl rfl rfl rfl rfl
            unfold spaR
            rw [if_pos rfl]
        · try first | contradiction | omega | (simp only [decide_eq_true_eq, decide_eq_false_iff_not] at h17; omega)
          all_goals
            refine e_iconst (v := -1) dX11_span_20 rfl ?_
            refine e_ret (some _) rfl (r_int dX11_span_21 rfl) ?_
            refine xq ?_ rfl rfl rfl rfl rfl
            unfold spaR
            rw [if_pos rfl]
    · try first | contradiction | omega
      all_goals
        refine e_aload_n dX11_span_5 rfl rfl ?_
        refine e_getR dX11_span_6 fl_X11_7 rfl (by assumption) ?_
        refine e_iconst (v := nI 1) dX11_span_9 rfl ?_
        first | ((with_reducible refine mk_ldw ?_); refine e_ldw dX11_span_10 (by omega) ?_) | refine e_iald _ dX11_span_10 ⟨by decide, by decide⟩ rfl rfl (by simp only [lenK]; omega) ?_
        refine e_ret (some _) rfl (r_int dX11_span_11 rfl) ?_
        refine xq ?_ rfl rfl rfl rfl rfl
        unfold spaR
        rw [if_pos rfl]
  · cases hx : inR y0 (w 1) with
    | false =>
      have hx2 := inR_f hx
      refine e_iload_n dX11_span_0 rfl rfl ?_
      refine e_iconst (v := -1) dX11_span_1 rfl ?_
      first | ((with_reducible refine mk_mo ?_); refine p_icmp_ne (tgt := 12) dX11_span_2 (by decide) (fun h2 => ?_) (fun h2 => ?_)) | ((with_reducible refine mk_ms ?_); refine s_icmp_ne (tgt := 12) dX11_span_2 (by decide) (by omega) (fun h2 => ?_) (fun h2 => ?_)) | ((with_reducible refine mk_mn ?_); refine q_icmp_ne (tgt := 12) dX11_span_2 (by decide) (by omega) (fun h2 => ?_) (fun h2 => ?_)) | ((with_reducible refine mk_nn ?_); refine n_icmp_ne (tgt := 12) dX11_span_2 (by decide) (by omega) (by omega) (fun h2 => ?_) (fun h2 => ?_)) | refine e_icmp_ne (tgt := 12) dX11_span_2 (by decide) (fun h2 => ?_) (fun h2 => ?_)
      · try first | contradiction | omega
        all_goals
          refine e_aload_n dX11_span_12 rfl rfl ?_
          refine e_iload_n dX11_span_13 rfl rfl ?_
          refine x_V1 (M' := mX11_isSpan) dX11_span_14 ml_X11_317 ok_X11_isSpan (by decide) rfl im_X11_isSpan se_X11_isSpan (ct_X11_isSpan ‹_› ‹_› _) (Nat.le_of_ble_eq_true rfl) (by decide) (Nat.le_of_ble_eq_true rfl) ?_
          rw [hx]
          first | ((with_reducible refine mk_b ?_); refine b_if_ne (tgt := 22) dX11_span_17 (by decide) (fun h17 => ?_) (fun h17 => ?_)) | ((with_reducible refine mk_ll ?_); refine m_if_ne (tgt := 22) dX11_span_17 (by decide) (by omega) (by omega) (fun h17 => ?_) (fun h17 => ?_)) | ((with_reducible refine mk_lc ?_); refine l_if_ne (tgt := 22) dX11_span_17 (by decide) (fun h17 => ?_) (fun h17 => ?_)) | ((with_reducible refine mk_n ?_); refine n_if_ne (tgt := 22) dX11_span_17 (by decide) (by omega) (fun h17 => ?_) (fun h17 => ?_)) | refine e_if_ne (tgt := 22) dX11_span_17 (by decide) (fun h17 => ?_) (fun h17 => ?_)
          · try first | contradiction | omega | (simp only [decide_eq_true_eq, decide_eq_false_iff_not] at h17; omega)
            all_goals
              refine e_iload_n dX11_span_22 rfl rfl ?_
              refine e_swc (tgt := 64) 0 dX11_span_23 (by decide) (by decide) rfl (by decide) (fun h23_0 => ?_) (fun h23_0 => ?_)
              · try first | contradiction | omega
                all_goals
                  refine e_aload_n dX11_span_64 rfl rfl ?_
                  refine e_getR dX11_span_65 fl_X11_7 rfl (by assumption) ?_
                  refine e_bipush (v := nI 10) dX11_span_68 rfl ?_
                  refine e_iload_n dX11_span_70 rfl rfl ?_
                  first | ((with_reducible refine mk_nn ?_); refine n_iadd dX11_span_71 ?_) | refine e_iadd dX11_span_71 ?_
                  first | ((with_reducible refine mk_ldw ?_); refine e_ldw dX11_span_72 (by omega) ?_) | refine e_iald _ dX11_span_72 ⟨by decide, by decide⟩ rfl rfl (by simp only [lenK]; omega) ?_
                  refine e_ret (some _) rfl (r_int dX11_span_73 rfl) ?_
                  refine xq ?_ rfl rfl rfl rfl rfl
                  unfold spaR
                  first | rw [if_neg hN, hx]; rfl | contradiction
              refine e_swc (tgt := 74) 1 dX11_span_23 (by decide) (by decide) rfl (by decide) (fun h23_1 => ?_) (fun h23_1 => ?_)
              · try first | contradiction | omega
                all_goals
                  refine e_aload_n dX11_span_74 rfl rfl ?_
                  refine e_iload_n dX11_span_75 rfl rfl ?_
                  refine x_V1 (M' := mX11_endOf) dX11_span_76 ml_X11_70 ok_X11_endOf (by decide) rfl im_X11_endOf se_X11_endOf (ct_X11_endOf ‹_› ‹_› (by omega)) (Nat.le_of_ble_eq_true rfl) (by decide) (Nat.le_of_ble_eq_true rfl) ?_
                  refine e_ret (some _) rfl (r_int dX11_span_79 rfl) ?_
                  refine xq ?_ rfl rfl rfl rfl rfl
                  unfold spaR
                  first | rw [if_neg hN, hx]; rfl | contradiction
              refine e_swc (tgt := 80) 2 dX11_span_23 (by decide) (by decide) rfl (by decide) (fun h23_2 => ?_) (fun h23_2 => ?_)
              · try first | contradiction | omega
                all_goals
                  refine e_aload_n dX11_span_80 rfl rfl ?_
                  refine e_getR dX11_span_81 fl_X11_7 rfl (by assumption) ?_
                  refine e_bipush (v := nI 42) dX11_span_84 rfl ?_
                  refine e_iload_n dX11_span_86 rfl rfl ?_
                  first | ((with_reducible refine mk_nn ?_); refine n_iadd dX11_span_87 ?_) | refine e_iadd dX11_span_87 ?_
                  first | ((with_reducible refine mk_ldw ?_); refine e_ldw dX11_span_88 (by omega) ?_) | refine e_iald _ dX11_span_88 ⟨by decide, by decide⟩ rfl rfl (by simp only [lenK]; omega) ?_
                  refine e_ret (some _) rfl (r_int dX11_span_89 rfl) ?_
                  refine xq ?_ rfl rfl rfl rfl rfl
                  unfold spaR
                  first | rw [if_neg hN, hx]; rfl | contradiction
              refine e_swc (tgt := 90) 3 dX11_span_23 (by decide) (by decide) rfl (by decide) (fun h23_3 => ?_) (fun h23_3 => ?_)
              · try first | contradiction | omega
                all_goals
                  refine e_aload_n dX11_span_90 rfl rfl ?_
                  refine e_getR dX11_span_91 fl_X11_7 rfl (by assumption) ?_
                  refine e_bipush (v := nI 74) dX11_span_94 rfl ?_
                  refine e_iload_n dX11_span_96 rfl rfl ?_
                  first | ((with_reducible refine mk_nn ?_); refine n_iadd dX11_span_97 ?_) | refine e_iadd dX11_span_97 ?_
                  first | ((with_reducible refine mk_ldw ?_); refine e_ldw dX11_span_98 (by omega) ?_) | refine e_iald _ dX11_span_98 ⟨by decide, by decide⟩ rfl rfl (by simp only [lenK]; omega) ?_
                  refine e_ret (some _) rfl (r_int dX11_span_99 rfl) ?_
                  refine xq ?_ rfl rfl rfl rfl rfl
                  unfold spaR
                  first | rw [if_neg hN, hx]; rfl | contradiction
              refine e_swc (tgt := 100) 4 dX11_span_23 (by decide) (by decide) rfl (by decide) (fun h23_4 => ?_) (fun h23_4 => ?_)
              · try first | contradiction | omega
                all_goals
                  refine e_aload_n dX11_span_100 rfl rfl ?_
                  refine e_iload_n dX11_span_101 rfl rfl ?_
                  refine x_V1 (M' := mX11_moveOfSpan) dX11_span_102 ml_X11_79 ok_X11_moveOfSpan (by decide) rfl im_X11_moveOfSpan se_X11_moveOfSpan (ct_X11_moveOfSpan ‹_› ‹_› (by omega)) (Nat.le_of_ble_eq_true rfl) (by decide) (Nat.le_of_ble_eq_true rfl) ?_
                  refine e_ret (some _) rfl (r_int dX11_span_105 rfl) ?_
                  refine xq ?_ rfl rfl rfl rfl rfl
                  unfold spaR
                  first | rw [if_neg hN, hx]; rfl | contradiction
              refine e_swc (tgt := 106) 5 dX11_span_23 (by decide) (by decide) rfl (by decide) (fun h23_5 => ?_) (fun h23_5 => ?_)
              · try first | contradiction | omega
                all_goals
                  refine e_aload_n dX11_span_106 rfl rfl ?_
                  refine e_iload_n dX11_span_107 rfl rfl ?_
                  refine x_V1 (M' := mX11_isFrozenSpan) dX11_span_108 ml_X11_320 ok_X11_isFrozenSpan (by decide) rfl im_X11_isFrozenSpan se_X11_isFrozenSpan (ct_X11_isFrozenSpan ‹_› ‹_› (by omega)) (Nat.le_of_ble_eq_true rfl) (by decide) (Nat.le_of_ble_eq_true rfl) ?_
                  first | ((with_reducible refine mk_b ?_); refine b_if_eq (tgt := 118) dX11_span_111 (by decide) (fun h111 => ?_) (fun h111 => ?_)) | ((with_reducible refine mk_ll ?_); refine m_if_eq (tgt := 118) dX11_span_111 (by decide) (by omega) (by omega) (fun h111 => ?_) (fun h111 => ?_)) | ((with_reducible refine mk_lc ?_); refine l_if_eq (tgt := 118) dX11_span_111 (by decide) (fun h111 => ?_) (fun h111 => ?_)) | ((with_reducible refine mk_n ?_); refine n_if_eq (tgt := 118) dX11_span_111 (by decide) (by omega) (fun h111 => ?_) (fun h111 => ?_)) | refine e_if_eq (tgt := 118) dX11_span_111 (by decide) (fun h111 => ?_) (fun h111 => ?_)
                  · try first | contradiction | omega | (simp only [decide_eq_true_eq, decide_eq_false_iff_not] at h111; omega)
                    all_goals
                      refine e_iconst (v := nI 0) dX11_span_118 rfl ?_
                      refine e_ret (some _) rfl (r_int dX11_span_119 rfl) ?_
                      refine xq ?_ rfl rfl rfl rfl rfl
                      unfold spaR
                      first | rw [if_neg hN, hx]; rfl | contradiction
                  · try first | contradiction | omega | (simp only [decide_eq_true_eq, decide_eq_false_iff_not] at h111; omega)
                    all_goals
                      refine e_iconst (v := nI 1) dX11_span_114 rfl ?_
                      refine e_goto (tgt := 119) dX11_span_115 (by decide) ?_
                      refine e_ret (some _) rfl (r_int dX11_span_119 rfl) ?_
                      refine xq ?_ rfl rfl rfl rfl rfl
                      unfold spaR
                      first | rw [if_neg hN, hx]; rfl | contradiction
              refine e_swc (tgt := 120) 6 dX11_span_23 (by decide) (by decide) rfl (by decide) (fun h23_6 => ?_) (fun h23_6 => ?_)
              · try first | contradiction | omega
                all_goals
                  refine e_aload_n dX11_span_120 rfl rfl ?_
                  refine e_iload_n dX11_span_121 rfl rfl ?_
                  refine x_V1 (M' := mX11_valuesIn) dX11_span_122 ml_X11_323 ok_X11_valuesIn (by decide) rfl im_X11_valuesIn se_X11_valuesIn (ct_X11_valuesIn ‹_› ‹_› (by omega)) (Nat.le_of_ble_eq_true rfl) (by decide) (Nat.le_of_ble_eq_true rfl) ?_
                  refine e_ret (some _) rfl (r_int dX11_span_125 rfl) ?_
                  refine xq ?_ rfl rfl rfl rfl rfl
                  unfold spaR
                  first | rw [if_neg hN, hx]; rfl | contradiction
              refine e_tableOut (tgt := 126) dX11_span_23 (by omega) (by decide) ?_
              refine e_iconst (v := -1) dX11_span_126 rfl ?_
              refine e_ret (some _) rfl (r_int dX11_span_127 rfl) ?_
              refine xq ?_ rfl rfl rfl rfl rfl
              unfold spaR
              first | rw [if_neg hN, hx]; rfl | contradiction
          · try first | contradiction | omega | (simp only [decide_eq_true_eq, decide_eq_false_iff_not] at h17; omega)
            all_goals
              refine e_iconst (v := -1) dX11_span_20 rfl ?_
              refine e_ret (some _) rfl (r_int dX11_span_21 rfl) ?_
              refine xq ?_ rfl rfl rfl rfl rfl
              unfold spaR
              first | rw [if_neg hN, hx]; rfl | contradiction
      · try first | contradiction | omega
        all_goals
          refine e_aload_n dX11_span_5 rfl rfl ?_
          refine e_getR dX11_span_6 fl_X11_7 rfl (by assumption) ?_
          refine e_iconst (v := nI 1) dX11_span_9 rfl ?_
          first | ((with_reducible refine mk_ldw ?_); refine e_ldw dX11_span_10 (by omega) ?_) | refine e_iald _ dX11_span_10 ⟨by decide, by decide⟩ rfl rfl (by simp only [lenK]; omega) ?_
          refine e_ret (some _) rfl (r_int dX11_span_11 rfl) ?_
          refine xq ?_ rfl rfl rfl rfl rfl
          unfold spaR
          first | rw [if_neg hN, hx]; rfl | contradiction
    | true =>
      obtain ⟨a, ha, ha2, rfl⟩ := inR_ex hx
      have hcl : (nI a).toNatClampNeg = a := nI_clamp ha2
      refine e_iload_n dX11_span_0 rfl rfl ?_
      refine e_iconst (v := -1) dX11_span_1 rfl ?_
      first | ((with_reducible refine mk_mo ?_); refine p_icmp_ne (tgt := 12) dX11_span_2 (by decide) (fun h2 => ?_) (fun h2 => ?_)) | ((with_reducible refine mk_ms ?_); refine s_icmp_ne (tgt := 12) dX11_span_2 (by decide) (by omega) (fun h2 => ?_) (fun h2 => ?_)) | ((with_reducible refine mk_mn ?_); refine q_icmp_ne (tgt := 12) dX11_span_2 (by decide) (by omega) (fun h2 => ?_) (fun h2 => ?_)) | ((with_reducible refine mk_nn ?_); refine n_icmp_ne (tgt := 12) dX11_span_2 (by decide) (by omega) (by omega) (fun h2 => ?_) (fun h2 => ?_)) | refine e_icmp_ne (tgt := 12) dX11_span_2 (by decide) (fun h2 => ?_) (fun h2 => ?_)
      · try first | contradiction | omega
        all_goals
          refine e_aload_n dX11_span_12 rfl rfl ?_
          refine e_iload_n dX11_span_13 rfl rfl ?_
          refine x_V1 (M' := mX11_isSpan) dX11_span_14 ml_X11_317 ok_X11_isSpan (by decide) rfl im_X11_isSpan se_X11_isSpan (ct_X11_isSpan ‹_› ‹_› _) (Nat.le_of_ble_eq_true rfl) (by decide) (Nat.le_of_ble_eq_true rfl) ?_
          rw [hx]
          first | ((with_reducible refine mk_b ?_); refine b_if_ne (tgt := 22) dX11_span_17 (by decide) (fun h17 => ?_) (fun h17 => ?_)) | ((with_reducible refine mk_ll ?_); refine m_if_ne (tgt := 22) dX11_span_17 (by decide) (by omega) (by omega) (fun h17 => ?_) (fun h17 => ?_)) | ((with_reducible refine mk_lc ?_); refine l_if_ne (tgt := 22) dX11_span_17 (by decide) (fun h17 => ?_) (fun h17 => ?_)) | ((with_reducible refine mk_n ?_); refine n_if_ne (tgt := 22) dX11_span_17 (by decide) (by omega) (fun h17 => ?_) (fun h17 => ?_)) | refine e_if_ne (tgt := 22) dX11_span_17 (by decide) (fun h17 => ?_) (fun h17 => ?_)
          · try first | contradiction | omega | (simp only [decide_eq_true_eq, decide_eq_false_iff_not] at h17; omega)
            all_goals
              refine e_iload_n dX11_span_22 rfl rfl ?_
              refine e_swc (tgt := 64) 0 dX11_span_23 (by decide) (by decide) rfl (by decide) (fun h23_0 => ?_) (fun h23_0 => ?_)
              · try first | contradiction | omega
                all_goals
                  refine e_aload_n dX11_span_64 rfl rfl ?_
                  refine e_getR dX11_span_65 fl_X11_7 rfl (by assumption) ?_
                  refine e_bipush (v := nI 10) dX11_span_68 rfl ?_
                  refine e_iload_n dX11_span_70 rfl rfl ?_
                  first | ((with_reducible refine mk_nn ?_); refine n_iadd dX11_span_71 ?_) | refine e_iadd dX11_span_71 ?_
                  first | ((with_reducible refine mk_ldw ?_); refine e_ldw dX11_span_72 (by omega) ?_) | refine e_iald _ dX11_span_72 ⟨by decide, by decide⟩ rfl rfl (by simp only [lenK]; omega) ?_
                  refine e_ret (some _) rfl (r_int dX11_span_73 rfl) ?_
                  refine xq ?_ rfl rfl rfl rfl rfl
                  unfold spaR
                  rw [if_neg hN, hx, hcl]
                  unfold spaS
                  grind [bI_t, bI_f]
              refine e_swc (tgt := 74) 1 dX11_span_23 (by decide) (by decide) rfl (by decide) (fun h23_1 => ?_) (fun h23_1 => ?_)
              · try first | contradiction | omega
                all_goals
                  refine e_aload_n dX11_span_74 rfl rfl ?_
                  refine e_iload_n dX11_span_75 rfl rfl ?_
                  refine x_V1 (M' := mX11_endOf) dX11_span_76 ml_X11_70 ok_X11_endOf (by decide) rfl im_X11_endOf se_X11_endOf (ct_X11_endOf ‹_› ‹_› (by omega)) (Nat.le_of_ble_eq_true rfl) (by decide) (Nat.le_of_ble_eq_true rfl) ?_
                  refine e_ret (some _) rfl (r_int dX11_span_79 rfl) ?_
                  refine xq ?_ rfl rfl rfl rfl rfl
                  unfold spaR
                  rw [if_neg hN, hx, hcl]
                  unfold spaS
                  grind [bI_t, bI_f]
              refine e_swc (tgt := 80) 2 dX11_span_23 (by decide) (by decide) rfl (by decide) (fun h23_2 => ?_) (fun h23_2 => ?_)
              · try first | contradiction | omega
                all_goals
                  refine e_aload_n dX11_span_80 rfl rfl ?_
                  refine e_getR dX11_span_81 fl_X11_7 rfl (by assumption) ?_
                  refine e_bipush (v := nI 42) dX11_span_84 rfl ?_
                  refine e_iload_n dX11_span_86 rfl rfl ?_
                  first | ((with_reducible refine mk_nn ?_); refine n_iadd dX11_span_87 ?_) | refine e_iadd dX11_span_87 ?_
                  first | ((with_reducible refine mk_ldw ?_); refine e_ldw dX11_span_88 (by omega) ?_) | refine e_iald _ dX11_span_88 ⟨by decide, by decide⟩ rfl rfl (by simp only [lenK]; omega) ?_
                  refine e_ret (some _) rfl (r_int dX11_span_89 rfl) ?_
                  refine xq ?_ rfl rfl rfl rfl rfl
                  unfold spaR
                  rw [if_neg hN, hx, hcl]
                  unfold spaS
                  grind [bI_t, bI_f]
              refine e_swc (tgt := 90) 3 dX11_span_23 (by decide) (by decide) rfl (by decide) (fun h23_3 => ?_) (fun h23_3 => ?_)
              · try first | contradiction | omega
                all_goals
                  refine e_aload_n dX11_span_90 rfl rfl ?_
                  refine e_getR dX11_span_91 fl_X11_7 rfl (by assumption) ?_
                  refine e_bipush (v := nI 74) dX11_span_94 rfl ?_
                  refine e_iload_n dX11_span_96 rfl rfl ?_
                  first | ((with_reducible refine mk_nn ?_); refine n_iadd dX11_span_97 ?_) | refine e_iadd dX11_span_97 ?_
                  first | ((with_reducible refine mk_ldw ?_); refine e_ldw dX11_span_98 (by omega) ?_) | refine e_iald _ dX11_span_98 ⟨by decide, by decide⟩ rfl rfl (by simp only [lenK]; omega) ?_
                  refine e_ret (some _) rfl (r_int dX11_span_99 rfl) ?_
                  refine xq ?_ rfl rfl rfl rfl rfl
                  unfold spaR
                  rw [if_neg hN, hx, hcl]
                  unfold spaS
                  grind [bI_t, bI_f]
              refine e_swc (tgt := 100) 4 dX11_span_23 (by decide) (by decide) rfl (by decide) (fun h23_4 => ?_) (fun h23_4 => ?_)
              · try first | contradiction | omega
                all_goals
                  refine e_aload_n dX11_span_100 rfl rfl ?_
                  refine e_iload_n dX11_span_101 rfl rfl ?_
                  refine x_V1 (M' := mX11_moveOfSpan) dX11_span_102 ml_X11_79 ok_X11_moveOfSpan (by decide) rfl im_X11_moveOfSpan se_X11_moveOfSpan (ct_X11_moveOfSpan ‹_› ‹_› (by omega)) (Nat.le_of_ble_eq_true rfl) (by decide) (Nat.le_of_ble_eq_true rfl) ?_
                  refine e_ret (some _) rfl (r_int dX11_span_105 rfl) ?_
                  refine xq ?_ rfl rfl rfl rfl rfl
                  unfold spaR
                  rw [if_neg hN, hx, hcl]
                  unfold spaS
                  grind [bI_t, bI_f]
              refine e_swc (tgt := 106) 5 dX11_span_23 (by decide) (by decide) rfl (by decide) (fun h23_5 => ?_) (fun h23_5 => ?_)
              · try first | contradiction | omega
                all_goals
                  refine e_aload_n dX11_span_106 rfl rfl ?_
                  refine e_iload_n dX11_span_107 rfl rfl ?_
                  refine x_V1 (M' := mX11_isFrozenSpan) dX11_span_108 ml_X11_320 ok_X11_isFrozenSpan (by decide) rfl im_X11_isFrozenSpan se_X11_isFrozenSpan (ct_X11_isFrozenSpan ‹_› ‹_› (by omega)) (Nat.le_of_ble_eq_true rfl) (by decide) (Nat.le_of_ble_eq_true rfl) ?_
                  first | ((with_reducible refine mk_b ?_); refine b_if_eq (tgt := 118) dX11_span_111 (by decide) (fun h111 => ?_) (fun h111 => ?_)) | ((with_reducible refine mk_ll ?_); refine m_if_eq (tgt := 118) dX11_span_111 (by decide) (by omega) (by omega) (fun h111 => ?_) (fun h111 => ?_)) | ((with_reducible refine mk_lc ?_); refine l_if_eq (tgt := 118) dX11_span_111 (by decide) (fun h111 => ?_) (fun h111 => ?_)) | ((with_reducible refine mk_n ?_); refine n_if_eq (tgt := 118) dX11_span_111 (by decide) (by omega) (fun h111 => ?_) (fun h111 => ?_)) | refine e_if_eq (tgt := 118) dX11_span_111 (by decide) (fun h111 => ?_) (fun h111 => ?_)
                  · try first | contradiction | omega | (simp only [decide_eq_true_eq, decide_eq_false_iff_not] at h111; omega)
                    all_goals
                      refine e_iconst (v := nI 0) dX11_span_118 rfl ?_
                      refine e_ret (some _) rfl (r_int dX11_span_119 rfl) ?_
                      refine xq ?_ rfl rfl rfl rfl rfl
                      unfold spaR
                      rw [if_neg hN, hx, hcl]
                      unfold spaS
                      grind [bI_t, bI_f]
                  · try first | contradiction | omega | (simp only [decide_eq_true_eq, decide_eq_false_iff_not] at h111; omega)
                    all_goals
                      refine e_iconst (v := nI 1) dX11_span_114 rfl ?_
                      refine e_goto (tgt := 119) dX11_span_115 (by decide) ?_
                      refine e_ret (some _) rfl (r_int dX11_span_119 rfl) ?_
                      refine xq ?_ rfl rfl rfl rfl rfl
                      unfold spaR
                      rw [if_neg hN, hx, hcl]
                      unfold spaS
                      grind [bI_t, bI_f]
              refine e_swc (tgt := 120) 6 dX11_span_23 (by decide) (by decide) rfl (by decide) (fun h23_6 => ?_) (fun h23_6 => ?_)
              · try first | contradiction | omega
                all_goals
                  refine e_aload_n dX11_span_120 rfl rfl ?_
                  refine e_iload_n dX11_span_121 rfl rfl ?_
                  refine x_V1 (M' := mX11_valuesIn) dX11_span_122 ml_X11_323 ok_X11_valuesIn (by decide) rfl im_X11_valuesIn se_X11_valuesIn (ct_X11_valuesIn ‹_› ‹_› (by omega)) (Nat.le_of_ble_eq_true rfl) (by decide) (Nat.le_of_ble_eq_true rfl) ?_
                  refine e_ret (some _) rfl (r_int dX11_span_125 rfl) ?_
                  refine xq ?_ rfl rfl rfl rfl rfl
                  unfold spaR
                  rw [if_neg hN, hx, hcl]
                  unfold spaS
                  grind [bI_t, bI_f]
              refine e_tableOut (tgt := 126) dX11_span_23 (by omega) (by decide) ?_
              refine e_iconst (v := -1) dX11_span_126 rfl ?_
              refine e_ret (some _) rfl (r_int dX11_span_127 rfl) ?_
              refine xq ?_ rfl rfl rfl rfl rfl
              unfold spaR
              rw [if_neg hN, hx, hcl]
              unfold spaS
              grind [bI_t, bI_f]
          · try first | contradiction | omega | (simp only [decide_eq_true_eq, decide_eq_false_iff_not] at h17; omega)
            all_goals
              refine e_iconst (v := -1) dX11_span_20 rfl ?_
              refine e_ret (some _) rfl (r_int dX11_span_21 rfl) ?_
              refine xq ?_ rfl rfl rfl rfl rfl
              unfold spaR
              rw [if_neg hN, hx, hcl]
              unfold spaS
              grind [bI_t, bI_f]
      · try first | contradiction | omega
        all_goals
          refine e_aload_n dX11_span_5 rfl rfl ?_
          refine e_getR dX11_span_6 fl_X11_7 rfl (by assumption) ?_
          refine e_iconst (v := nI 1) dX11_span_9 rfl ?_
          first | ((with_reducible refine mk_ldw ?_); refine e_ldw dX11_span_10 (by omega) ?_) | refine e_iald _ dX11_span_10 ⟨by decide, by decide⟩ rfl rfl (by simp only [lenK]; omega) ?_
          refine e_ret (some _) rfl (r_int dX11_span_11 rfl) ?_
          refine xq ?_ rfl rfl rfl rfl rfl
          unfold spaR
          rw [if_neg hN, hx, hcl]
          unfold spaS
          grind [bI_t, bI_f]
