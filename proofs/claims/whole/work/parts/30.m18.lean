theorem ct_endOf2 {fi : FI} {fr : FR} {ai : FI} {ar : FR} {N : Nat} {w : Nat → Nat} (sm : SM fr) (hn : w 1 ≤ 32) {i : Nat} (hi : i < w 1) : CP mX11_endOf 0 0 0 [.ref (rf 11 80), .int (nI i)] fi fr (mW ai w) ar N (xQ (some (.int (nI (enF w i)))) fi fr (mW ai w) ar N) := by
  obtain ⟨sW, -⟩ := sm
  change EV mX11_endOf 0 0 0 0 [some (.ref (rf 11 80)), some (.int (nI i))] [] fi fr (mW ai w) ar N _
  refine e_iload_n dX11_endOf_0 rfl rfl ?_
  refine e_iconst (v := nI 1) dX11_endOf_1 rfl ?_
  first | ((with_reducible refine mk_nn ?_); refine n_iadd dX11_endOf_2 ?_) | refine e_iadd dX11_endOf_2 ?_
  refine e_aload_n dX11_endOf_3 rfl rfl ?_
  refine e_getR dX11_endOf_4 fl_X11_7 rfl (by assumption) ?_
  refine e_iconst (v := nI 1) dX11_endOf_7 rfl ?_
  first | ((with_reducible refine mk_ldw ?_); refine e_ldw dX11_endOf_8 (by omega) ?_) | refine e_iald _ dX11_endOf_8 ⟨by decide, by decide⟩ rfl rfl (by simp only [lenK]; omega) ?_
  first | ((with_reducible refine mk_nn ?_); refine n_icmp_ge (tgt := 26) dX11_endOf_9 (by decide) (by omega) (by omega) (fun h9 => ?_) (fun h9 => ?_)) | refine e_icmp_ge (tgt := 26) dX11_endOf_9 (by decide) (fun h9 => ?_) (fun h9 => ?_)
  · try first | contradiction | omega
    all_goals
      refine e_sipush (v := nI 1000) dX11_endOf_26 rfl ?_
      refine e_ret (some _) rfl (r_int dX11_endOf_29 rfl) ?_
      refine xq ?_ rfl rfl rfl rfl rfl
      unfold enF
      first | rw [if_pos (by omega)] | rw [if_neg (by omega)]
  · try first | contradiction | omega
    all_goals
      refine e_aload_n dX11_endOf_12 rfl rfl ?_
      refine e_getR dX11_endOf_13 fl_X11_7 rfl (by assumption) ?_
      refine e_bipush (v := nI 10) dX11_endOf_16 rfl ?_
      refine e_iload_n dX11_endOf_18 rfl rfl ?_
      first | ((with_reducible refine mk_nn ?_); refine n_iadd dX11_endOf_19 ?_) | refine e_iadd dX11_endOf_19 ?_
      refine e_iconst (v := nI 1) dX11_endOf_20 rfl ?_
      first | ((with_reducible refine mk_nn ?_); refine n_iadd dX11_endOf_21 ?_) | refine e_iadd dX11_endOf_21 ?_
      first | ((with_reducible refine mk_ldw ?_); refine e_ldw dX11_endOf_22 (by omega) ?_) | refine e_iald _ dX11_endOf_22 ⟨by decide, by decide⟩ rfl rfl (by simp only [lenK]; omega) ?_
      refine e_goto (tgt := 29) dX11_endOf_23 (by decide) ?_
      refine e_ret (some _) rfl (r_int dX11_endOf_29 rfl) ?_
      refine xq ?_ rfl rfl rfl rfl rfl
      unfold enF
      first | rw [if_pos (by omega)] | rw [if_neg (by omega)]
theorem enF_fr {w w' : Nat → Nat} {i : Nat} (h1 : w' 1 = w 1) (h2 : w' (10 + i + 1) = w (10 + i + 1)) : enF w' i = enF w i := by unfold enF; rw [h1, h2]
def movC (w : Nat → Nat) (i s : Nat) : Bool := decide (w (42 + i) ≠ s) && (mvL w (w (10 + i))).isNone && decide (w (4 + s) ≠ 0) && decide (w (4 + w (42 + i)) ≠ 0) && decide (w 3 ≠ 12) && decide (cnt (goB w) (w 3) ≠ 4)
def movW (w : Nat → Nat) (i s : Nat) : Nat → Nat := upN (upN (upN (upN (upN (upN (upN (upN (loF w (7694 + 72 * w 3) 72) (7694 + 72 * w 3 + 0) 1) (7694 + 72 * w 3 + 1) (w (10 + i))) (7694 + 72 * w 3 + 2) (enF w i)) (7694 + 72 * w 3 + 3) (w (42 + i))) (7694 + 72 * w 3 + 4) s) (7694 + 72 * w 3 + 5) (w (10 + i))) 3 (w 3 + 1)) (8558 + 8) (w (8558 + 8) + 1)
def mvB (w : Nat → Nat) (q : Option Nat) (y : Int32) : Bool := match q with
  | none => false
  | some i => inR y 6 && movC w i y.toNatClampNeg
def mvR (w : Nat → Nat) (q : Option Nat) (y : Int32) : Int32 := if mvB w q y then nI (w 3) else -1
def mvW (w : Nat → Nat) (q : Option Nat) (y : Int32) : Nat → Nat := if mvB w q y then (match q with | none => w | some i => movW w i y.toNatClampNeg) else w
def mvA (ai : FI) (u : Nat) (sc : Bool) (w : Nat → Nat) (q : Option Nat) (y : Int32) : FI := if mvB w q y then actA ai u sc w else ai
def mvF (fi : FI) (u : Nat) (sc : Bool) (w : Nat → Nat) (q : Option Nat) (y : Int32) : FI := if mvB w q y then actF fi u sc else fi
theorem ct_X11_move {fi : FI} {fr : FR} {ai : FI} {ar : FR} {N : Nat} {w : Nat → Nat} (sm : SM fr) (iv : Inv w) (y0 y1 : Int32) {u : Nat} (hu : fi (32 * 11 + 4) (rf 11 80) = nI u) (hu6 : u ≤ 6) {sc : Bool} (hsc : fi (32 * 11 + 8) (rf 11 80) = bI sc) : CP mX11_move 3 0 0 [.ref (rf 11 80), .int y0, .int y1] fi fr (mW ai w) ar N (xQ (some (.int (mvR w (nmO w y0) y1))) (mvF fi u sc w (nmO w y0) y1) fr (mW (mvA ai u sc w (nmO w y0) y1) (mvW w (nmO w y0) y1)) ar N) := by
  obtain ⟨sW, sA, sK, sU, sC, sKC, sT, sCl⟩ := id sm
  have h1 := iv_n iv
  have h3 := iv_mm iv
  change EV mX11_move 3 0 0 0 [some (.ref (rf 11 80)), some (.int y0), some (.int y1), none, none, none] [] fi fr (mW ai w) ar N (xQ (some (.int (mvR w (nmO w y0) y1))) (mvF fi u sc w (nmO w y0) y1) fr (mW (mvA ai u sc w (nmO w y0) y1) (mvW w (nmO w y0) y1)) ar N)
  cases hnm : nmO w y0 with
  | none =>
    have e1 : mvR w none y1 = -1 := rfl
    have e2 : mvW w none y1 = w := rfl
    have e3 : mvA ai u sc w none y1 = ai := rfl
    have e4 : mvF fi u sc w none y1 = fi := rfl
    rw [e1, e2, e3, e4]
    refine e_aload_n dX11_move_0 rfl rfl ?_
    refine e_iload_n dX11_move_1 rfl rfl ?_
    refine x_V1 (M' := mX11_named) dX11_move_2 ml_X11_100 ok_X11_named (by decide) rfl im_X11_named se_X11_named (ct_X11_named ‹_› ‹_› _) (Nat.le_of_ble_eq_true rfl) (by decide) (Nat.le_of_ble_eq_true rfl) ?_
    rw [hnm]; try rw [oI_s]
    refine e_istore_n dX11_move_5 rfl (Nat.le_of_ble_eq_true rfl) rfl ?_
    refine e_iload_n dX11_move_6 rfl rfl ?_
    refine e_iconst (v := -1) dX11_move_7 rfl ?_
    first | ((with_reducible refine mk_mo ?_); refine p_icmp_eq (tgt := 40) dX11_move_8 (by decide) (fun h8 => ?_) (fun h8 => ?_)) | ((with_reducible refine mk_ms ?_); refine s_icmp_eq (tgt := 40) dX11_move_8 (by decide) (by omega) (fun h8 => ?_) (fun h8 => ?_)) | ((with_reducible refine mk_mn ?_); refine q_icmp_eq (tgt := 40) dX11_move_8 (by decide) (by omega) (fun h8 => ?_) (fun h8 => ?_)) | ((with_reducible refine mk_nn ?_); refine n_icmp_eq (tgt := 40) dX11_move_8 (by decide) (by omega) (by omega) (fun h8 => ?_) (fun h8 => ?_)) | refine e_icmp_eq (tgt := 40) dX11_move_8 (by decide) (fun h8 => ?_) (fun h8 => ?_)
    · try first | contradiction | omega
      all_goals
        refine e_iconst (v := -1) dX11_move_40 rfl ?_
        refine e_ret (some _) rfl (r_int dX11_move_41 rfl) ?_
        exact xq rfl rfl rfl rfl rfl rfl
    · try first | contradiction | omega
      all_goals
        contradiction
  | some i =>
    obtain ⟨hi, k0, hk0, rfl, hkc, hlk, -⟩ := nmO_lt iv hnm
    have hoi := iv_own iv hi
    have hou := iv_up iv hoi
    cases hy : inR y1 6 with
    | false =>
      have eb : mvB w (some i) y1 = false := by unfold mvB; rw [hy]; rfl
      have e1 : mvR w (some i) y1 = -1 := by unfold mvR; rw [eb]; rfl
      have e2 : mvW w (some i) y1 = w := by unfold mvW; rw [eb]; rfl
      have e3 : mvA ai u sc w (some i) y1 = ai := by unfold mvA; rw [eb]; rfl
      have e4 : mvF fi u sc w (some i) y1 = fi := by unfold mvF; rw [eb]; rfl
      rw [e1, e2, e3, e4]
      refine e_aload_n dX11_move_0 rfl rfl ?_
      refine e_iload_n dX11_move_1 rfl rfl ?_
      refine x_V1 (M' := mX11_named) dX11_move_2 ml_X11_100 ok_X11_named (by decide) rfl im_X11_named se_X11_named (ct_X11_named ‹_› ‹_› _) (Nat.le_of_ble_eq_true rfl) (by decide) (Nat.le_of_ble_eq_true rfl) ?_
      rw [hnm]; try rw [oI_s]
      refine e_istore_n dX11_move_5 rfl (Nat.le_of_ble_eq_true rfl) rfl ?_
      refine e_iload_n dX11_move_6 rfl rfl ?_
      refine e_iconst (v := -1) dX11_move_7 rfl ?_
      first | ((with_reducible refine mk_mo ?_); refine p_icmp_eq (tgt := 40) dX11_move_8 (by decide) (fun h8 => ?_) (fun h8 => ?_)) | ((with_reducible refine mk_ms ?_); refine s_icmp_eq (tgt := 40) dX11_move_8 (by decide) (by omega) (fun h8 => ?_) (fun h8 => ?_)) | ((with_reducible refine mk_mn ?_); refine q_icmp_eq (tgt := 40) dX11_move_8 (by decide) (by omega) (fun h8 => ?_) (fun h8 => ?_)) | ((with_reducible refine mk_nn ?_); refine n_icmp_eq (tgt := 40) dX11_move_8 (by decide) (by omega) (by omega) (fun h8 => ?_) (fun h8 => ?_)) | refine e_icmp_eq (tgt := 40) dX11_move_8 (by decide) (fun h8 => ?_) (fun h8 => ?_)
      · try first | contradiction | omega
        all_goals
          refine e_iconst (v := -1) dX11_move_40 rfl ?_
          refine e_ret (some _) rfl (r_int dX11_move_41 rfl) ?_
          exact xq rfl rfl rfl rfl rfl rfl
      · try first | contradiction | omega
        all_goals
          refine e_iload_n dX11_move_11 rfl rfl ?_
          refine x_S1 (M' := mX11_isServer) dX11_move_12 ml_X11_161 ok_X11_isServer rfl sc_X11_isServer (ct_X11_isServer _) (Nat.le_of_ble_eq_true rfl) (by decide) (Nat.le_of_ble_eq_true rfl) ?_
          rw [hy]
          first | ((with_reducible refine mk_b ?_); refine b_if_eq (tgt := 40) dX11_move_15 (by decide) (fun h15 => ?_) (fun h15 => ?_)) | ((with_reducible refine mk_ll ?_); refine m_if_eq (tgt := 40) dX11_move_15 (by decide) (by omega) (by omega) (fun h15 => ?_) (fun h15 => ?_)) | ((with_reducible refine mk_lc ?_); refine l_if_eq (tgt := 40) dX11_move_15 (by decide) (fun h15 => ?_) (fun h15 => ?_)) | ((with_reducible refine mk_n ?_); refine n_if_eq (tgt := 40) dX11_move_15 (by decide) (by omega) (fun h15 => ?_) (fun h15 => ?_)) | refine e_if_eq (tgt := 40) dX11_move_15 (by decide) (fun h15 => ?_) (fun h15 => ?_)
          · try first | contradiction | omega | (simp only [decide_eq_true_eq, decide_eq_false_iff_not] at h15; omega)
            all_goals
              refine e_iconst (v := -1) dX11_move_40 rfl ?_
              refine e_ret (some _) rfl (r_int dX11_move_41 rfl) ?_
              exact xq rfl rfl rfl rfl rfl rfl
          · try first | contradiction | omega | (simp only [decide_eq_true_eq, decide_eq_false_iff_not] at h15; omega)
            all_goals
              contradiction
    | true =>
      obtain ⟨s, hs, hs2, rfl⟩ := inR_ex hy
      have hsl : (nI s).toNatClampNeg = s := nI_clamp hs2
      have hsu := iv_up iv hs
      have hgo := cnt_le (goB w) (w 3)
      cases hc : movC w i s with
      | false =>
        have eb : mvB w (some i) (nI s) = false := by show (inR (nI s) 6 && movC w i (nI s).toNatClampNeg) = _; rw [hy, hsl, hc]; rfl
        have e1 : mvR w (some i) (nI s) = -1 := by unfold mvR; rw [eb]; rfl
        have e2 : mvW w (some i) (nI s) = w := by unfold mvW; rw [eb]; rfl
        have e3 : mvA ai u sc w (some i) (nI s) = ai := by unfold mvA; rw [eb]; rfl
        have e4 : mvF fi u sc w (some i) (nI s) = fi := by unfold mvF; rw [eb]; rfl
        rw [e1, e2, e3, e4]
        unfold movC at hc
        cases hmv : mvL w (w (10 + i)) with
        | none =>
          refine e_aload_n dX11_move_0 rfl rfl ?_
          refine e_iload_n dX11_move_1 rfl rfl ?_
          refine x_V1 (M' := mX11_named) dX11_move_2 ml_X11_100 ok_X11_named (by decide) rfl im_X11_named se_X11_named (ct_X11_named ‹_› ‹_› _) (Nat.le_of_ble_eq_true rfl) (by decide) (Nat.le_of_ble_eq_true rfl) ?_
          rw [hnm]; try rw [oI_s]
          refine e_istore_n dX11_move_5 rfl (Nat.le_of_ble_eq_true rfl) rfl ?_
          refine e_iload_n dX11_move_6 rfl rfl ?_
          refine e_iconst (v := -1) dX11_move_7 rfl ?_
          first | ((with_reducible refine mk_mo ?_); refine p_icmp_eq (tgt := 40) dX11_move_8 (by decide) (fun h8 => ?_) (fun h8 => ?_)) | ((with_reducible refine mk_ms ?_); refine s_icmp_eq (tgt := 40) dX11_move_8 (by decide) (by omega) (fun h8 => ?_) (fun h8 => ?_)) | ((with_reducible refine mk_mn ?_); refine q_icmp_eq (tgt := 40) dX11_move_8 (by decide) (by omega) (fun h8 => ?_) (fun h8 => ?_)) | ((with_reducible refine mk_nn ?_); refine n_icmp_eq (tgt := 40) dX11_move_8 (by decide) (by omega) (by omega) (fun h8 => ?_) (fun h8 => ?_)) | refine e_icmp_eq (tgt := 40) dX11_move_8 (by decide) (fun h8 => ?_) (fun h8 => ?_)
          · try first | contradiction | omega
            all_goals
              refine e_iconst (v := -1) dX11_move_40 rfl ?_
              refine e_ret (some _) rfl (r_int dX11_move_41 rfl) ?_
              exact xq rfl rfl rfl rfl rfl rfl
          · try first | contradiction | omega
            all_goals
              refine e_iload_n dX11_move_11 rfl rfl ?_
              refine x_S1 (M' := mX11_isServer) dX11_move_12 ml_X11_161 ok_X11_isServer rfl sc_X11_isServer (ct_X11_isServer _) (Nat.le_of_ble_eq_true rfl) (by decide) (Nat.le_of_ble_eq_true rfl) ?_
              rw [hy]
              first | ((with_reducible refine mk_b ?_); refine b_if_eq (tgt := 40) dX11_move_15 (by decide) (fun h15 => ?_) (fun h15 => ?_)) | ((with_reducible refine mk_ll ?_); refine m_if_eq (tgt := 40) dX11_move_15 (by decide) (by omega) (by omega) (fun h15 => ?_) (fun h15 => ?_)) | ((with_reducible refine mk_lc ?_); refine l_if_eq (tgt := 40) dX11_move_15 (by decide) (fun h15 => ?_) (fun h15 => ?_)) | ((with_reducible refine mk_n ?_); refine n_if_eq (tgt := 40) dX11_move_15 (by decide) (by omega) (fun h15 => ?_) (fun h15 => ?_)) | refine e_if_eq (tgt := 40) dX11_move_15 (by decide) (fun h15 => ?_) (fun h15 => ?_)
              · try first | contradiction | omega | (simp only [decide_eq_true_eq, decide_eq_false_iff_not] at h15; omega)
                all_goals
                  refine e_iconst (v := -1) dX11_move_40 rfl ?_
                  refine e_ret (some _) rfl (r_int dX11_move_41 rfl) ?_
                  exact xq rfl rfl rfl rfl rfl rfl
              · try first | contradiction | omega | (simp only [decide_eq_true_eq, decide_eq_false_iff_not] at h15; omega)
                all_goals
                  refine e_aload_n dX11_move_18 rfl rfl ?_
                  refine e_getR dX11_move_19 fl_X11_7 rfl (by assumption) ?_
                  refine e_bipush (v := nI 42) dX11_move_22 rfl ?_
                  refine e_iload_n dX11_move_24 rfl rfl ?_
                  first | ((with_reducible refine mk_nn ?_); refine n_iadd dX11_move_25 ?_) | refine e_iadd dX11_move_25 ?_
                  first | ((with_reducible refine mk_ldw ?_); refine e_ldw dX11_move_26 (by omega) ?_) | refine e_iald _ dX11_move_26 ⟨by decide, by decide⟩ rfl rfl (by simp only [lenK]; omega) ?_
                  refine e_iload_n dX11_move_27 rfl rfl ?_
                  first | ((with_reducible refine mk_mo ?_); refine p_icmp_eq (tgt := 40) dX11_move_28 (by decide) (fun h28 => ?_) (fun h28 => ?_)) | ((with_reducible refine mk_ms ?_); refine s_icmp_eq (tgt := 40) dX11_move_28 (by decide) (by omega) (fun h28 => ?_) (fun h28 => ?_)) | ((with_reducible refine mk_mn ?_); refine q_icmp_eq (tgt := 40) dX11_move_28 (by decide) (by omega) (fun h28 => ?_) (fun h28 => ?_)) | ((with_reducible refine mk_nn ?_); refine n_icmp_eq (tgt := 40) dX11_move_28 (by decide) (by omega) (by omega) (fun h28 => ?_) (fun h28 => ?_)) | refine e_icmp_eq (tgt := 40) dX11_move_28 (by decide) (fun h28 => ?_) (fun h28 => ?_)
                  · try first | contradiction | omega
                    all_goals
                      refine e_iconst (v := -1) dX11_move_40 rfl ?_
                      refine e_ret (some _) rfl (r_int dX11_move_41 rfl) ?_
                      exact xq rfl rfl rfl rfl rfl rfl
                  · try first | contradiction | omega
                    all_goals
                      refine e_aload_n dX11_move_31 rfl rfl ?_
                      refine e_iload_n dX11_move_32 rfl rfl ?_
                      refine x_V1 (M' := mX11_moveOfSpan) dX11_move_33 ml_X11_79 ok_X11_moveOfSpan (by decide) rfl im_X11_moveOfSpan se_X11_moveOfSpan (ct_X11_moveOfSpan ‹_› ‹_› hi) (Nat.le_of_ble_eq_true rfl) (by decide) (Nat.le_of_ble_eq_true rfl) ?_
                      rw [hmv]
                      refine e_iconst (v := -1) dX11_move_36 rfl ?_
                      first | ((with_reducible refine mk_mo ?_); refine p_icmp_eq (tgt := 42) dX11_move_37 (by decide) (fun h37 => ?_) (fun h37 => ?_)) | ((with_reducible refine mk_ms ?_); refine s_icmp_eq (tgt := 42) dX11_move_37 (by decide) (by omega) (fun h37 => ?_) (fun h37 => ?_)) | ((with_reducible refine mk_mn ?_); refine q_icmp_eq (tgt := 42) dX11_move_37 (by decide) (by omega) (fun h37 => ?_) (fun h37 => ?_)) | ((with_reducible refine mk_nn ?_); refine n_icmp_eq (tgt := 42) dX11_move_37 (by decide) (by omega) (by omega) (fun h37 => ?_) (fun h37 => ?_)) | refine e_icmp_eq (tgt := 42) dX11_move_37 (by decide) (fun h37 => ?_) (fun h37 => ?_)
                      · try first | contradiction | omega
                        all_goals
                          refine e_aload_n dX11_move_42 rfl rfl ?_
                          refine e_getR dX11_move_43 fl_X11_7 rfl (by assumption) ?_
                          refine e_iconst (v := nI 4) dX11_move_46 rfl ?_
                          refine e_iload_n dX11_move_47 rfl rfl ?_
                          first | ((with_reducible refine mk_nn ?_); refine n_iadd dX11_move_48 ?_) | refine e_iadd dX11_move_48 ?_
                          first | ((with_reducible refine mk_ldw ?_); refine e_ldw dX11_move_49 (by omega) ?_) | refine e_iald _ dX11_move_49 ⟨by decide, by decide⟩ rfl rfl (by simp only [lenK]; omega) ?_
                          first | ((with_reducible refine mk_b ?_); refine b_if_eq (tgt := 91) dX11_move_50 (by decide) (fun h50 => ?_) (fun h50 => ?_)) | ((with_reducible refine mk_ll ?_); refine m_if_eq (tgt := 91) dX11_move_50 (by decide) (by omega) (by omega) (fun h50 => ?_) (fun h50 => ?_)) | ((with_reducible refine mk_lc ?_); refine l_if_eq (tgt := 91) dX11_move_50 (by decide) (fun h50 => ?_) (fun h50 => ?_)) | ((with_reducible refine mk_n ?_); refine n_if_eq (tgt := 91) dX11_move_50 (by decide) (by omega) (fun h50 => ?_) (fun h50 => ?_)) | refine e_if_eq (tgt := 91) dX11_move_50 (by decide) (fun h50 => ?_) (fun h50 => ?_)
                          · try first | contradiction | omega | (simp only [decide_eq_true_eq, decide_eq_false_iff_not] at h50; omega)
                            all_goals
                              refine e_iconst (v := -1) dX11_move_91 rfl ?_
                              refine e_ret (some _) rfl (r_int dX11_move_92 rfl) ?_
                              exact xq rfl rfl rfl rfl rfl rfl
                          · try first | contradiction | omega | (simp only [decide_eq_true_eq, decide_eq_false_iff_not] at h50; omega)
                            all_goals
                              refine e_aload_n dX11_move_53 rfl rfl ?_
                              refine e_getR dX11_move_54 fl_X11_7 rfl (by assumption) ?_
                              refine e_iconst (v := nI 4) dX11_move_57 rfl ?_
                              refine e_aload_n dX11_move_58 rfl rfl ?_
                              refine e_getR dX11_move_59 fl_X11_7 rfl (by assumption) ?_
                              refine e_bipush (v := nI 42) dX11_move_62 rfl ?_
                              refine e_iload_n dX11_move_64 rfl rfl ?_
                              first | ((with_reducible refine mk_nn ?_); refine n_iadd dX11_move_65 ?_) | refine e_iadd dX11_move_65 ?_
                              first | ((with_reducible refine mk_ldw ?_); refine e_ldw dX11_move_66 (by omega) ?_) | refine e_iald _ dX11_move_66 ⟨by decide, by decide⟩ rfl rfl (by simp only [lenK]; omega) ?_
                              first | ((with_reducible refine mk_nn ?_); refine n_iadd dX11_move_67 ?_) | refine e_iadd dX11_move_67 ?_
                              first | ((with_reducible refine mk_ldw ?_); refine e_ldw dX11_move_68 (by omega) ?_) | refine e_iald _ dX11_move_68 ⟨by decide, by decide⟩ rfl rfl (by simp only [lenK]; omega) ?_
                              first | ((with_reducible refine mk_b ?_); refine b_if_eq (tgt := 91) dX11_move_69 (by decide) (fun h69 => ?_) (fun h69 => ?_)) | ((with_reducible refine mk_ll ?_); refine m_if_eq (tgt := 91) dX11_move_69 (by decide) (by omega) (by omega) (fun h69 => ?_) (fun h69 => ?_)) | ((with_reducible refine mk_lc ?_); refine l_if_eq (tgt := 91) dX11_move_69 (by decide) (fun h69 => ?_) (fun h69 => ?_)) | ((with_reducible refine mk_n ?_); refine n_if_eq (tgt := 91) dX11_move_69 (by decide) (by omega) (fun h69 => ?_) (fun h69 => ?_)) | refine e_if_eq (tgt := 91) dX11_move_69 (by decide) (fun h69 => ?_) (fun h69 => ?_)
                              · try first | contradiction | omega | (simp only [decide_eq_true_eq, decide_eq_false_iff_not] at h69; omega)
                                all_goals
                                  refine e_iconst (v := -1) dX11_move_91 rfl ?_
                                  refine e_ret (some _) rfl (r_int dX11_move_92 rfl) ?_
                                  exact xq rfl rfl rfl rfl rfl rfl
                              · try first | contradiction | omega | (simp only [decide_eq_true_eq, decide_eq_false_iff_not] at h69; omega)
                                all_goals
                                  refine e_aload_n dX11_move_72 rfl rfl ?_
                                  refine e_getR dX11_move_73 fl_X11_7 rfl (by assumption) ?_
                                  refine e_iconst (v := nI 3) dX11_move_76 rfl ?_
                                  first | ((with_reducible refine mk_ldw ?_); refine e_ldw dX11_move_77 (by omega) ?_) | refine e_iald _ dX11_move_77 ⟨by decide, by decide⟩ rfl rfl (by simp only [lenK]; omega) ?_
                                  refine e_bipush (v := nI 12) dX11_move_78 rfl ?_
                                  first | ((with_reducible refine mk_mo ?_); refine p_icmp_eq (tgt := 91) dX11_move_80 (by decide) (fun h80 => ?_) (fun h80 => ?_)) | ((with_reducible refine mk_ms ?_); refine s_icmp_eq (tgt := 91) dX11_move_80 (by decide) (by omega) (fun h80 => ?_) (fun h80 => ?_)) | ((with_reducible refine mk_mn ?_); refine q_icmp_eq (tgt := 91) dX11_move_80 (by decide) (by omega) (fun h80 => ?_) (fun h80 => ?_)) | ((with_reducible refine mk_nn ?_); refine n_icmp_eq (tgt := 91) dX11_move_80 (by decide) (by omega) (by omega) (fun h80 => ?_) (fun h80 => ?_)) | refine e_icmp_eq (tgt := 91) dX11_move_80 (by decide) (fun h80 => ?_) (fun h80 => ?_)
                                  · try first | contradiction | omega
                                    all_goals
                                      refine e_iconst (v := -1) dX11_move_91 rfl ?_
                                      refine e_ret (some _) rfl (r_int dX11_move_92 rfl) ?_
                                      exact xq rfl rfl rfl rfl rfl rfl
                                  · try first | contradiction | omega
                                    all_goals
                                      refine e_aload_n dX11_move_83 rfl rfl ?_
                                      refine x_V0 (M' := mX11_going) dX11_move_84 ml_X11_164 ok_X11_going (by decide) rfl im_X11_going se_X11_going (ct_X11_going ‹_› ‹_›) (Nat.le_of_ble_eq_true rfl) (by decide) (Nat.le_of_ble_eq_true rfl) ?_
                                      refine e_iconst (v := nI 4) dX11_move_87 rfl ?_
                                      first | ((with_reducible refine mk_mo ?_); refine p_icmp_ne (tgt := 93) dX11_move_88 (by decide) (fun h88 => ?_) (fun h88 => ?_)) | ((with_reducible refine mk_ms ?_); refine s_icmp_ne (tgt := 93) dX11_move_88 (by decide) (by omega) (fun h88 => ?_) (fun h88 => ?_)) | ((with_reducible refine mk_mn ?_); refine q_icmp_ne (tgt := 93) dX11_move_88 (by decide) (by omega) (fun h88 => ?_) (fun h88 => ?_)) | ((with_reducible refine mk_nn ?_); refine n_icmp_ne (tgt := 93) dX11_move_88 (by decide) (by omega) (by omega) (fun h88 => ?_) (fun h88 => ?_)) | refine e_icmp_ne (tgt := 93) dX11_move_88 (by decide) (fun h88 => ?_) (fun h88 => ?_)
                                      · try first | contradiction | omega
                                        all_goals
                                          grind
                                      · try first | contradiction | omega
                                        all_goals
                                          refine e_iconst (v := -1) dX11_move_91 rfl ?_
                                          refine e_ret (some _) rfl (r_int dX11_move_92 rfl) ?_
                                          exact xq rfl rfl rfl rfl rfl rfl
                      · try first | contradiction | omega
                        all_goals
                          refine e_iconst (v := -1) dX11_move_40 rfl ?_
                          refine e_ret (some _) rfl (r_int dX11_move_41 rfl) ?_
                          exact xq rfl rfl rfl rfl rfl rfl
        | some mm =>
          have hmm := mvL_lt hmv
          refine e_aload_n dX11_move_0 rfl rfl ?_
          refine e_iload_n dX11_move_1 rfl rfl ?_
          refine x_V1 (M' := mX11_named) dX11_move_2 ml_X11_100 ok_X11_named (by decide) rfl im_X11_named se_X11_named (ct_X11_named ‹_› ‹_› _) (Nat.le_of_ble_eq_true rfl) (by decide) (Nat.le_of_ble_eq_true rfl) ?_
          rw [hnm]; try rw [oI_s]
          refine e_istore_n dX11_move_5 rfl (Nat.le_of_ble_eq_true rfl) rfl ?_
          refine e_iload_n dX11_move_6 rfl rfl ?_
          refine e_iconst (v := -1) dX11_move_7 rfl ?_
          first | ((with_reducible refine mk_mo ?_); refine p_icmp_eq (tgt := 40) dX11_move_8 (by decide) (fun h8 => ?_) (fun h8 => ?_)) | ((with_reducible refine mk_ms ?_); refine s_icmp_eq (tgt := 40) dX11_move_8 (by decide) (by omega) (fun h8 => ?_) (fun h8 => ?_)) | ((with_reducible refine mk_mn ?_); refine q_icmp_eq (tgt := 40) dX11_move_8 (by decide) (by omega) (fun h8 => ?_) (fun h8 => ?_)) | ((with_reducible refine mk_nn ?_); refine n_icmp_eq (tgt := 40) dX11_move_8 (by decide) (by omega) (by omega) (fun h8 => ?_) (fun h8 => ?_)) | refine e_icmp_eq (tgt := 40) dX11_move_8 (by decide) (fun h8 => ?_) (fun h8 => ?_)
          · try first | contradiction | omega
            all_goals
              refine e_iconst (v := -1) dX11_move_40 rfl ?_
              refine e_ret (some _) rfl (r_int dX11_move_41 rfl) ?_
              exact xq rfl rfl rfl rfl rfl rfl
          · try first | contradiction | omega
            all_goals
              refine e_iload_n dX11_move_11 rfl rfl ?_
              refine x_S1 (M' := mX11_isServer) dX11_move_12 ml_X11_161 ok_X11_isServer rfl sc_X11_isServer (ct_X11_isServer _) (Nat.le_of_ble_eq_true rfl) (by decide) (Nat.le_of_ble_eq_true rfl) ?_
              rw [hy]
              first | ((with_reducible refine mk_b ?_); refine b_if_eq (tgt := 40) dX11_move_15 (by decide) (fun h15 => ?_) (fun h15 => ?_)) | ((with_reducible refine mk_ll ?_); refine m_if_eq (tgt := 40) dX11_move_15 (by decide) (by omega) (by omega) (fun h15 => ?_) (fun h15 => ?_)) | ((with_reducible refine mk_lc ?_); refine l_if_eq (tgt := 40) dX11_move_15 (by decide) (fun h15 => ?_) (fun h15 => ?_)) | ((with_reducible refine mk_n ?_); refine n_if_eq (tgt := 40) dX11_move_15 (by decide) (by omega) (fun h15 => ?_) (fun h15 => ?_)) | refine e_if_eq (tgt := 40) dX11_move_15 (by decide) (fun h15 => ?_) (fun h15 => ?_)
              · try first | contradiction | omega | (simp only [decide_eq_true_eq, decide_eq_false_iff_not] at h15; omega)
                all_goals
                  refine e_iconst (v := -1) dX11_move_40 rfl ?_
                  refine e_ret (some _) rfl (r_int dX11_move_41 rfl) ?_
                  exact xq rfl rfl rfl rfl rfl rfl
              · try first | contradiction | omega | (simp only [decide_eq_true_eq, decide_eq_false_iff_not] at h15; omega)
                all_goals
                  refine e_aload_n dX11_move_18 rfl rfl ?_
                  refine e_getR dX11_move_19 fl_X11_7 rfl (by assumption) ?_
                  refine e_bipush (v := nI 42) dX11_move_22 rfl ?_
                  refine e_iload_n dX11_move_24 rfl rfl ?_
                  first | ((with_reducible refine mk_nn ?_); refine n_iadd dX11_move_25 ?_) | refine e_iadd dX11_move_25 ?_
                  first | ((with_reducible refine mk_ldw ?_); refine e_ldw dX11_move_26 (by omega) ?_) | refine e_iald _ dX11_move_26 ⟨by decide, by decide⟩ rfl rfl (by simp only [lenK]; omega) ?_
                  refine e_iload_n dX11_move_27 rfl rfl ?_
                  first | ((with_reducible refine mk_mo ?_); refine p_icmp_eq (tgt := 40) dX11_move_28 (by decide) (fun h28 => ?_) (fun h28 => ?_)) | ((with_reducible refine mk_ms ?_); refine s_icmp_eq (tgt := 40) dX11_move_28 (by decide) (by omega) (fun h28 => ?_) (fun h28 => ?_)) | ((with_reducible refine mk_mn ?_); refine q_icmp_eq (tgt := 40) dX11_move_28 (by decide) (by omega) (fun h28 => ?_) (fun h28 => ?_)) | ((with_reducible refine mk_nn ?_); refine n_icmp_eq (tgt := 40) dX11_move_28 (by decide) (by omega) (by omega) (fun h28 => ?_) (fun h28 => ?_)) | refine e_icmp_eq (tgt := 40) dX11_move_28 (by decide) (fun h28 => ?_) (fun h28 => ?_)
                  · try first | contradiction | omega
                    all_goals
                      refine e_iconst (v := -1) dX11_move_40 rfl ?_
                      refine e_ret (some _) rfl (r_int dX11_move_41 rfl) ?_
                      exact xq rfl rfl rfl rfl rfl rfl
                  · try first | contradiction | omega
                    all_goals
                      refine e_aload_n dX11_move_31 rfl rfl ?_
                      refine e_iload_n dX11_move_32 rfl rfl ?_
                      refine x_V1 (M' := mX11_moveOfSpan) dX11_move_33 ml_X11_79 ok_X11_moveOfSpan (by decide) rfl im_X11_moveOfSpan se_X11_moveOfSpan (ct_X11_moveOfSpan ‹_› ‹_› hi) (Nat.le_of_ble_eq_true rfl) (by decide) (Nat.le_of_ble_eq_true rfl) ?_
                      rw [hmv]
                      refine e_iconst (v := -1) dX11_move_36 rfl ?_
                      first | ((with_reducible refine mk_mo ?_); refine p_icmp_eq (tgt := 42) dX11_move_37 (by decide) (fun h37 => ?_) (fun h37 => ?_)) | ((with_reducible refine mk_ms ?_); refine s_icmp_eq (tgt := 42) dX11_move_37 (by decide) (by omega) (fun h37 => ?_) (fun h37 => ?_)) | ((with_reducible refine mk_mn ?_); refine q_icmp_eq (tgt := 42) dX11_move_37 (by decide) (by omega) (fun h37 => ?_) (fun h37 => ?_)) | ((with_reducible refine mk_nn ?_); refine n_icmp_eq (tgt := 42) dX11_move_37 (by decide) (by omega) (by omega) (fun h37 => ?_) (fun h37 => ?_)) | refine e_icmp_eq (tgt := 42) dX11_move_37 (by decide) (fun h37 => ?_) (fun h37 => ?_)
                      · try first | contradiction | omega
                        all_goals
                          contradiction
                      · try first | contradiction | omega
                        all_goals
                          refine e_iconst (v := -1) dX11_move_40 rfl ?_
                          refine e_ret (some _) rfl (r_int dX11_move_41 rfl) ?_
                          exact xq rfl rfl rfl rfl rfl rfl
      | true =>
        have eb : mvB w (some i) (nI s) = true := by show (inR (nI s) 6 && movC w i (nI s).toNatClampNeg) = _; rw [hy, hsl, hc]; rfl
        have e1 : mvR w (some i) (nI s) = nI (w 3) := by unfold mvR; rw [eb]; rfl
        have e2 : mvW w (some i) (nI s) = movW w i s := by unfold mvW; rw [eb, hsl]; rfl
        have e3 : mvA ai u sc w (some i) (nI s) = actA ai u sc w := by unfold mvA; rw [eb]; rfl
        have e4 : mvF fi u sc w (some i) (nI s) = actF fi u sc := by unfold mvF; rw [eb]; rfl
        rw [e1, e2, e3, e4]
        unfold movC at hc
        simp only [Bool.and_eq_true, decide_eq_true_eq, Option.isNone_iff_eq_none] at hc
        obtain ⟨⟨⟨⟨⟨c1, hmv⟩, c2⟩, c3⟩, c4⟩, c5⟩ := hc
        have r1 : loF w (7694 + 72 * w 3) 72 1 = w 1 := loF_fr (by omega)
        have r3 : loF w (7694 + 72 * w 3) 72 3 = w 3 := loF_fr (by omega)
        have rl : loF w (7694 + 72 * w 3) 72 (10 + i + 1) = w (10 + i + 1) := loF_fr (by omega)
        have ro : loF w (7694 + 72 * w 3) 72 (42 + i) = w (42 + i) := loF_fr (by omega)
        have rc : loF w (7694 + 72 * w 3) 72 (8558 + 8) = w (8558 + 8) := loF_fr (by omega)
        have key := ev_up (P := fun j => EV mX11_move 3 0 0 111 [some (.ref (rf 11 80)), some (.int (nI k0)), some (.int (nI s)), some (.int (nI i)), some (.int (nI (7694 + 72 * w 3))), some (.int (nI j))] [] (actF fi u sc) fr (mW (actA ai u sc w) (loF w (7694 + 72 * w 3) j)) ar N (xQ (some (.int (nI (w 3)))) (actF fi u sc) fr (mW (actA ai u sc w) (movW w i s)) ar N)) 72 (fun j hj ih => by
          refine e_iload dX11_move_111 rfl ?_
          refine e_bipush (v := nI 72) dX11_move_113 rfl ?_
          first | ((with_reducible refine mk_nn ?_); refine n_icmp_ge (tgt := 135) dX11_move_115 (by decide) (by omega) (by omega) (fun h115 => ?_) (fun h115 => ?_)) | refine e_icmp_ge (tgt := 135) dX11_move_115 (by decide) (fun h115 => ?_) (fun h115 => ?_)
          · try first | contradiction | omega
            all_goals
              contradiction
          · try first | contradiction | omega
            all_goals
              refine e_aload_n dX11_move_118 rfl rfl ?_
              refine e_getR dX11_move_119 fl_X11_7 rfl (by assumption) ?_
              refine e_iload dX11_move_122 rfl ?_
              refine e_iload dX11_move_124 rfl ?_
              first | ((with_reducible refine mk_nn ?_); refine n_iadd dX11_move_126 ?_) | refine e_iadd dX11_move_126 ?_
              refine e_iconst (v := nI 0) dX11_move_127 rfl ?_
              first | ((with_reducible refine mk_stw ?_); refine e_stw dX11_move_128 (by omega) ?_) | refine e_iast _ dX11_move_128 ⟨by decide, by decide⟩ rfl rfl (by simp only [lenK]; omega) ?_
              first | refine n_inc dX11_move_129 rfl (Nat.le_of_ble_eq_true rfl) rfl ?_ | refine e_iinc dX11_move_129 rfl rfl (Nat.le_of_ble_eq_true rfl) rfl ?_
              refine e_goto (tgt := 111) dX11_move_132 (by decide) ?_
              rw [loF_s]
              exact ih
          ) (by
          refine e_iload dX11_move_111 rfl ?_
          refine e_bipush (v := nI 72) dX11_move_113 rfl ?_
          first | ((with_reducible refine mk_nn ?_); refine n_icmp_ge (tgt := 135) dX11_move_115 (by decide) (by omega) (by omega) (fun h115 => ?_) (fun h115 => ?_)) | refine e_icmp_ge (tgt := 135) dX11_move_115 (by decide) (fun h115 => ?_) (fun h115 => ?_)
          · try first | contradiction | omega
            all_goals
              refine e_aload_n dX11_move_135 rfl rfl ?_
              refine e_getR dX11_move_136 fl_X11_7 rfl (by assumption) ?_
              refine e_iload dX11_move_139 rfl ?_
              refine e_iconst (v := nI 0) dX11_move_141 rfl ?_
              first | ((with_reducible refine mk_nn ?_); refine n_iadd dX11_move_142 ?_) | refine e_iadd dX11_move_142 ?_
              refine e_iconst (v := nI 1) dX11_move_143 rfl ?_
              first | ((with_reducible refine mk_stw ?_); refine e_stw dX11_move_144 (by omega) ?_) | refine e_iast _ dX11_move_144 ⟨by decide, by decide⟩ rfl rfl (by simp only [lenK]; omega) ?_
              refine e_aload_n dX11_move_145 rfl rfl ?_
              refine e_getR dX11_move_146 fl_X11_7 rfl (by assumption) ?_
              refine e_iload dX11_move_149 rfl ?_
              refine e_iconst (v := nI 1) dX11_move_151 rfl ?_
              first | ((with_reducible refine mk_nn ?_); refine n_iadd dX11_move_152 ?_) | refine e_iadd dX11_move_152 ?_
              refine e_iload_n dX11_move_153 rfl rfl ?_
              first | ((with_reducible refine mk_stw ?_); refine e_stw dX11_move_154 (by omega) ?_) | refine e_iast _ dX11_move_154 ⟨by decide, by decide⟩ rfl rfl (by simp only [lenK]; omega) ?_
              refine e_aload_n dX11_move_155 rfl rfl ?_
              refine e_getR dX11_move_156 fl_X11_7 rfl (by assumption) ?_
              refine e_iload dX11_move_159 rfl ?_
              refine e_iconst (v := nI 2) dX11_move_161 rfl ?_
              first | ((with_reducible refine mk_nn ?_); refine n_iadd dX11_move_162 ?_) | refine e_iadd dX11_move_162 ?_
              refine e_aload_n dX11_move_163 rfl rfl ?_
              refine e_iload_n dX11_move_164 rfl rfl ?_
              refine x_V1 (M' := mX11_endOf) dX11_move_165 ml_X11_70 ok_X11_endOf (by decide) rfl im_X11_endOf se_X11_endOf (ct_endOf2 ‹_› (by simp (disch := omega) only [upN_n, r1]; omega) (by simp (disch := omega) only [upN_n, r1]; omega)) (Nat.le_of_ble_eq_true rfl) (by decide) (Nat.le_of_ble_eq_true rfl) ?_
              rw [enF_fr (w := w) (by simp (disch := omega) only [upN_n, r1]) (by simp (disch := omega) only [upN_n, rl])]
              first | ((with_reducible refine mk_stw ?_); refine e_stw dX11_move_168 (by omega) ?_) | refine e_iast _ dX11_move_168 ⟨by decide, by decide⟩ rfl rfl (by simp only [lenK]; omega) ?_
              refine e_aload_n dX11_move_169 rfl rfl ?_
              refine e_getR dX11_move_170 fl_X11_7 rfl (by assumption) ?_
              refine e_iload dX11_move_173 rfl ?_
              refine e_iconst (v := nI 3) dX11_move_175 rfl ?_
              first | ((with_reducible refine mk_nn ?_); refine n_iadd dX11_move_176 ?_) | refine e_iadd dX11_move_176 ?_
              refine e_aload_n dX11_move_177 rfl rfl ?_
              refine e_getR dX11_move_178 fl_X11_7 rfl (by assumption) ?_
              refine e_bipush (v := nI 42) dX11_move_181 rfl ?_
              refine e_iload_n dX11_move_183 rfl rfl ?_
              first | ((with_reducible refine mk_nn ?_); refine n_iadd dX11_move_184 ?_) | refine e_iadd dX11_move_184 ?_
              first | ((with_reducible refine mk_ldw ?_); refine e_ldw dX11_move_185 (by omega) ?_) | refine e_iald _ dX11_move_185 ⟨by decide, by decide⟩ rfl rfl (by simp only [lenK]; omega) ?_
              simp (disch := omega) only [upN_n, ro]
              first | ((with_reducible refine mk_stw ?_); refine e_stw dX11_move_186 (by omega) ?_) | refine e_iast _ dX11_move_186 ⟨by decide, by decide⟩ rfl rfl (by simp only [lenK]; omega) ?_
              refine e_aload_n dX11_move_187 rfl rfl ?_
              refine e_getR dX11_move_188 fl_X11_7 rfl (by assumption) ?_
              refine e_iload dX11_move_191 rfl ?_
              refine e_iconst (v := nI 4) dX11_move_193 rfl ?_
              first | ((with_reducible refine mk_nn ?_); refine n_iadd dX11_move_194 ?_) | refine e_iadd dX11_move_194 ?_
              refine e_iload_n dX11_move_195 rfl rfl ?_
              first | ((with_reducible refine mk_stw ?_); refine e_stw dX11_move_196 (by omega) ?_) | refine e_iast _ dX11_move_196 ⟨by decide, by decide⟩ rfl rfl (by simp only [lenK]; omega) ?_
              refine e_aload_n dX11_move_197 rfl rfl ?_
              refine e_getR dX11_move_198 fl_X11_7 rfl (by assumption) ?_
              refine e_iload dX11_move_201 rfl ?_
              refine e_iconst (v := nI 5) dX11_move_203 rfl ?_
              first | ((with_reducible refine mk_nn ?_); refine n_iadd dX11_move_204 ?_) | refine e_iadd dX11_move_204 ?_
              refine e_iload_n dX11_move_205 rfl rfl ?_
              first | ((with_reducible refine mk_stw ?_); refine e_stw dX11_move_206 (by omega) ?_) | refine e_iast _ dX11_move_206 ⟨by decide, by decide⟩ rfl rfl (by simp only [lenK]; omega) ?_
              refine e_aload_n dX11_move_207 rfl rfl ?_
              refine e_getR dX11_move_208 fl_X11_7 rfl (by assumption) ?_
              refine e_iconst (v := nI 3) dX11_move_211 rfl ?_
              refine e_dup2 dX11_move_212 rfl rfl ?_
              first | ((with_reducible refine mk_ldw ?_); refine e_ldw dX11_move_213 (by omega) ?_) | refine e_iald _ dX11_move_213 ⟨by decide, by decide⟩ rfl rfl (by simp only [lenK]; omega) ?_
              simp (disch := omega) only [upN_n, r3]
              refine e_iconst (v := nI 1) dX11_move_214 rfl ?_
              first | ((with_reducible refine mk_nn ?_); refine n_iadd dX11_move_215 ?_) | refine e_iadd dX11_move_215 ?_
              first | ((with_reducible refine mk_stw ?_); refine e_stw dX11_move_216 (by omega) ?_) | refine e_iast _ dX11_move_216 ⟨by decide, by decide⟩ rfl rfl (by simp only [lenK]; omega) ?_
              refine e_aload_n dX11_move_217 rfl rfl ?_
              refine e_bipush (v := nI 8) dX11_move_218 rfl ?_
              refine e_iconst (v := nI 1) dX11_move_220 rfl ?_
              refine y_V2 (M' := mX11_counts) dX11_move_221 ml_X11_97 ok_X11_counts (by decide) rfl im_X11_counts se_X11_counts (ct_X11_counts ‹_› (by omega)) (Nat.le_of_ble_eq_true rfl) (by decide) (Nat.le_of_ble_eq_true rfl) ?_
              refine e_aload_n dX11_move_224 rfl rfl ?_
              refine e_getR dX11_move_225 fl_X11_7 rfl (by assumption) ?_
              refine e_iconst (v := nI 3) dX11_move_228 rfl ?_
              first | ((with_reducible refine mk_ldw ?_); refine e_ldw dX11_move_229 (by omega) ?_) | refine e_iald _ dX11_move_229 ⟨by decide, by decide⟩ rfl rfl (by simp only [lenK]; omega) ?_
              simp (disch := omega) only [upN_n, upN_s]
              refine e_iconst (v := nI 1) dX11_move_230 rfl ?_
              first | ((with_reducible refine mk_nn ?_); refine n_isub dX11_move_231 (by omega) ?_) | refine e_isub dX11_move_231 ?_
              refine e_ret (some _) rfl (r_int dX11_move_232 rfl) ?_
              refine xq ?_ rfl rfl ?_ rfl rfl
              · rw [Nat.add_sub_cancel]
              · simp (disch := omega) only [upN_n, rc, ← hlk]; rfl
          · try first | contradiction | omega
            all_goals
              contradiction
          )
        have kk := key 0 (by omega)
        rw [loF_0] at kk
        refine e_aload_n dX11_move_0 rfl rfl ?_
        refine e_iload_n dX11_move_1 rfl rfl ?_
        refine x_V1 (M' := mX11_named) dX11_move_2 ml_X11_100 ok_X11_named (by decide) rfl im_X11_named se_X11_named (ct_X11_named ‹_› ‹_› _) (Nat.le_of_ble_eq_true rfl) (by decide) (Nat.le_of_ble_eq_true rfl) ?_
        rw [hnm]; try rw [oI_s]
        refine e_istore_n dX11_move_5 rfl (Nat.le_of_ble_eq_true rfl) rfl ?_
        refine e_iload_n dX11_move_6 rfl rfl ?_
        refine e_iconst (v := -1) dX11_move_7 rfl ?_
        first | ((with_reducible refine mk_mo ?_); refine p_icmp_eq (tgt := 40) dX11_move_8 (by decide) (fun h8 => ?_) (fun h8 => ?_)) | ((with_reducible refine mk_ms ?_); refine s_icmp_eq (tgt := 40) dX11_move_8 (by decide) (by omega) (fun h8 => ?_) (fun h8 => ?_)) | ((with_reducible refine mk_mn ?_); refine q_icmp_eq (tgt := 40) dX11_move_8 (by decide) (by omega) (fun h8 => ?_) (fun h8 => ?_)) | ((with_reducible refine mk_nn ?_); refine n_icmp_eq (tgt := 40) dX11_move_8 (by decide) (by omega) (by omega) (fun h8 => ?_) (fun h8 => ?_)) | refine e_icmp_eq (tgt := 40) dX11_move_8 (by decide) (fun h8 => ?_) (fun h8 => ?_)
        · try first | contradiction | omega
          all_goals
            contradiction
        · try first | contradiction | omega
          all_goals
            refine e_iload_n dX11_move_11 rfl rfl ?_
            refine x_S1 (M' := mX11_isServer) dX11_move_12 ml_X11_161 ok_X11_isServer rfl sc_X11_isServer (ct_X11_isServer _) (Nat.le_of_ble_eq_true rfl) (by decide) (Nat.le_of_ble_eq_true rfl) ?_
            rw [hy]
            first | ((with_reducible refine mk_b ?_); refine b_if_eq (tgt := 40) dX11_move_15 (by decide) (fun h15 => ?_) (fun h15 => ?_)) | ((with_reducible refine mk_ll ?_); refine m_if_eq (tgt := 40) dX11_move_15 (by decide) (by omega) (by omega) (fun h15 => ?_) (fun h15 => ?_)) | ((with_reducible refine mk_lc ?_); refine l_if_eq (tgt := 40) dX11_move_15 (by decide) (fun h15 => ?_) (fun h15 => ?_)) | ((with_reducible refine mk_n ?_); refine n_if_eq (tgt := 40) dX11_move_15 (by decide) (by omega) (fun h15 => ?_) (fun h15 => ?_)) | refine e_if_eq (tgt := 40) dX11_move_15 (by decide) (fun h15 => ?_) (fun h15 => ?_)
            · try first | contradiction | omega | (simp only [decide_eq_true_eq, decide_eq_false_iff_not] at h15; omega)
              all_goals
                contradiction
            · try first | contradiction | omega | (simp only [decide_eq_true_eq, decide_eq_false_iff_not] at h15; omega)
              all_goals
                refine e_aload_n dX11_move_18 rfl rfl ?_
                refine e_getR dX11_move_19 fl_X11_7 rfl (by assumption) ?_
                refine e_bipush (v := nI 42) dX11_move_22 rfl ?_
                refine e_iload_n dX11_move_24 rfl rfl ?_
                first | ((with_reducible refine mk_nn ?_); refine n_iadd dX11_move_25 ?_) | refine e_iadd dX11_move_25 ?_
                first | ((with_reducible refine mk_ldw ?_); refine e_ldw dX11_move_26 (by omega) ?_) | refine e_iald _ dX11_move_26 ⟨by decide, by decide⟩ rfl rfl (by simp only [lenK]; omega) ?_
                refine e_iload_n dX11_move_27 rfl rfl ?_
                first | ((with_reducible refine mk_mo ?_); refine p_icmp_eq (tgt := 40) dX11_move_28 (by decide) (fun h28 => ?_) (fun h28 => ?_)) | ((with_reducible refine mk_ms ?_); refine s_icmp_eq (tgt := 40) dX11_move_28 (by decide) (by omega) (fun h28 => ?_) (fun h28 => ?_)) | ((with_reducible refine mk_mn ?_); refine q_icmp_eq (tgt := 40) dX11_move_28 (by decide) (by omega) (fun h28 => ?_) (fun h28 => ?_)) | ((with_reducible refine mk_nn ?_); refine n_icmp_eq (tgt := 40) dX11_move_28 (by decide) (by omega) (by omega) (fun h28 => ?_) (fun h28 => ?_)) | refine e_icmp_eq (tgt := 40) dX11_move_28 (by decide) (fun h28 => ?_) (fun h28 => ?_)
                · try first | contradiction | omega
                  all_goals
                    contradiction
                · try first | contradiction | omega
                  all_goals
                    refine e_aload_n dX11_move_31 rfl rfl ?_
                    refine e_iload_n dX11_move_32 rfl rfl ?_
                    refine x_V1 (M' := mX11_moveOfSpan) dX11_move_33 ml_X11_79 ok_X11_moveOfSpan (by decide) rfl im_X11_moveOfSpan se_X11_moveOfSpan (ct_X11_moveOfSpan ‹_› ‹_› hi) (Nat.le_of_ble_eq_true rfl) (by decide) (Nat.le_of_ble_eq_true rfl) ?_
                    rw [hmv]
                    refine e_iconst (v := -1) dX11_move_36 rfl ?_
                    first | ((with_reducible refine mk_mo ?_); refine p_icmp_eq (tgt := 42) dX11_move_37 (by decide) (fun h37 => ?_) (fun h37 => ?_)) | ((with_reducible refine mk_ms ?_); refine s_icmp_eq (tgt := 42) dX11_move_37 (by decide) (by omega) (fun h37 => ?_) (fun h37 => ?_)) | ((with_reducible refine mk_mn ?_); refine q_icmp_eq (tgt := 42) dX11_move_37 (by decide) (by omega) (fun h37 => ?_) (fun h37 => ?_)) | ((with_reducible refine mk_nn ?_); refine n_icmp_eq (tgt := 42) dX11_move_37 (by decide) (by omega) (by omega) (fun h37 => ?_) (fun h37 => ?_)) | refine e_icmp_eq (tgt := 42) dX11_move_37 (by decide) (fun h37 => ?_) (fun h37 => ?_)
                    · try first | contradiction | omega
                      all_goals
                        refine e_aload_n dX11_move_42 rfl rfl ?_
                        refine e_getR dX11_move_43 fl_X11_7 rfl (by assumption) ?_
                        refine e_iconst (v := nI 4) dX11_move_46 rfl ?_
                        refine e_iload_n dX11_move_47 rfl rfl ?_
                        first | ((with_reducible refine mk_nn ?_); refine n_iadd dX11_move_48 ?_) | refine e_iadd dX11_move_48 ?_
                        first | ((with_reducible refine mk_ldw ?_); refine e_ldw dX11_move_49 (by omega) ?_) | refine e_iald _ dX11_move_49 ⟨by decide, by decide⟩ rfl rfl (by simp only [lenK]; omega) ?_
                        first | ((with_reducible refine mk_b ?_); refine b_if_eq (tgt := 91) dX11_move_50 (by decide) (fun h50 => ?_) (fun h50 => ?_)) | ((with_reducible refine mk_ll ?_); refine m_if_eq (tgt := 91) dX11_move_50 (by decide) (by omega) (by omega) (fun h50 => ?_) (fun h50 => ?_)) | ((with_reducible refine mk_lc ?_); refine l_if_eq (tgt := 91) dX11_move_50 (by decide) (fun h50 => ?_) (fun h50 => ?_)) | ((with_reducible refine mk_n ?_); refine n_if_eq (tgt := 91) dX11_move_50 (by decide) (by omega) (fun h50 => ?_) (fun h50 => ?_)) | refine e_if_eq (tgt := 91) dX11_move_50 (by decide) (fun h50 => ?_) (fun h50 => ?_)
                        · try first | contradiction | omega | (simp only [decide_eq_true_eq, decide_eq_false_iff_not] at h50; omega)
                          all_goals
                            contradiction
                        · try first | contradiction | omega | (simp only [decide_eq_true_eq, decide_eq_false_iff_not] at h50; omega)
                          all_goals
                            refine e_aload_n dX11_move_53 rfl rfl ?_
                            refine e_getR dX11_move_54 fl_X11_7 rfl (by assumption) ?_
                            refine e_iconst (v := nI 4) dX11_move_57 rfl ?_
                            refine e_aload_n dX11_move_58 rfl rfl ?_
                            refine e_getR dX11_move_59 fl_X11_7 rfl (by assumption) ?_
                            refine e_bipush (v := nI 42) dX11_move_62 rfl ?_
                            refine e_iload_n dX11_move_64 rfl rfl ?_
                            first | ((with_reducible refine mk_nn ?_); refine n_iadd dX11_move_65 ?_) | refine e_iadd dX11_move_65 ?_
                            first | ((with_reducible refine mk_ldw ?_); refine e_ldw dX11_move_66 (by omega) ?_) | refine e_iald _ dX11_move_66 ⟨by decide, by decide⟩ rfl rfl (by simp only [lenK]; omega) ?_
                            first | ((with_reducible refine mk_nn ?_); refine n_iadd dX11_move_67 ?_) | refine e_iadd dX11_move_67 ?_
                            first | ((with_reducible refine mk_ldw ?_); refine e_ldw dX11_move_68 (by omega) ?_) | refine e_iald _ dX11_move_68 ⟨by decide, by decide⟩ rfl rfl (by simp only [lenK]; omega) ?_
                            first | ((with_reducible refine mk_b ?_); refine b_if_eq (tgt := 91) dX11_move_69 (by decide) (fun h69 => ?_) (fun h69 => ?_)) | ((with_reducible refine mk_ll ?_); refine m_if_eq (tgt := 91) dX11_move_69 (by decide) (by omega) (by omega) (fun h69 => ?_) (fun h69 => ?_)) | ((with_reducible refine mk_lc ?_); refine l_if_eq (tgt := 91) dX11_move_69 (by decide) (fun h69 => ?_) (fun h69 => ?_)) | ((with_reducible refine mk_n ?_); refine n_if_eq (tgt := 91) dX11_move_69 (by decide) (by omega) (fun h69 => ?_) (fun h69 => ?_)) | refine e_if_eq (tgt := 91) dX11_move_69 (by decide) (fun h69 => ?_) (fun h69 => ?_)
                            · try first | contradiction | omega | (simp only [decide_eq_true_eq, decide_eq_false_iff_not] at h69; omega)
                              all_goals
                                contradiction
                            · try first | contradiction | omega | (simp only [decide_eq_true_eq, decide_eq_false_iff_not] at h69; omega)
                              all_goals
                                refine e_aload_n dX11_move_72 rfl rfl ?_
                                refine e_getR dX11_move_73 fl_X11_7 rfl (by assumption) ?_
                                refine e_iconst (v := nI 3) dX11_move_76 rfl ?_
                                first | ((with_reducible refine mk_ldw ?_); refine e_ldw dX11_move_77 (by omega) ?_) | refine e_iald _ dX11_move_77 ⟨by decide, by decide⟩ rfl rfl (by simp only [lenK]; omega) ?_
                                refine e_bipush (v := nI 12) dX11_move_78 rfl ?_
                                first | ((with_reducible refine mk_mo ?_); refine p_icmp_eq (tgt := 91) dX11_move_80 (by decide) (fun h80 => ?_) (fun h80 => ?_)) | ((with_reducible refine mk_ms ?_); refine s_icmp_eq (tgt := 91) dX11_move_80 (by decide) (by omega) (fun h80 => ?_) (fun h80 => ?_)) | ((with_reducible refine mk_mn ?_); refine q_icmp_eq (tgt := 91) dX11_move_80 (by decide) (by omega) (fun h80 => ?_) (fun h80 => ?_)) | ((with_reducible refine mk_nn ?_); refine n_icmp_eq (tgt := 91) dX11_move_80 (by decide) (by omega) (by omega) (fun h80 => ?_) (fun h80 => ?_)) | refine e_icmp_eq (tgt := 91) dX11_move_80 (by decide) (fun h80 => ?_) (fun h80 => ?_)
                                · try first | contradiction | omega
                                  all_goals
                                    contradiction
                                · try first | contradiction | omega
                                  all_goals
                                    refine e_aload_n dX11_move_83 rfl rfl ?_
                                    refine x_V0 (M' := mX11_going) dX11_move_84 ml_X11_164 ok_X11_going (by decide) rfl im_X11_going se_X11_going (ct_X11_going ‹_› ‹_›) (Nat.le_of_ble_eq_true rfl) (by decide) (Nat.le_of_ble_eq_true rfl) ?_
                                    refine e_iconst (v := nI 4) dX11_move_87 rfl ?_
                                    first | ((with_reducible refine mk_mo ?_); refine p_icmp_ne (tgt := 93) dX11_move_88 (by decide) (fun h88 => ?_) (fun h88 => ?_)) | ((with_reducible refine mk_ms ?_); refine s_icmp_ne (tgt := 93) dX11_move_88 (by decide) (by omega) (fun h88 => ?_) (fun h88 => ?_)) | ((with_reducible refine mk_mn ?_); refine q_icmp_ne (tgt := 93) dX11_move_88 (by decide) (by omega) (fun h88 => ?_) (fun h88 => ?_)) | ((with_reducible refine mk_nn ?_); refine n_icmp_ne (tgt := 93) dX11_move_88 (by decide) (by omega) (by omega) (fun h88 => ?_) (fun h88 => ?_)) | refine e_icmp_ne (tgt := 93) dX11_move_88 (by decide) (fun h88 => ?_) (fun h88 => ?_)
                                    · try first | contradiction | omega
                                      all_goals
                                        refine e_aload_n dX11_move_93 rfl rfl ?_
                                        refine y_V0 (M' := mX11_acts) dX11_move_94 ml_X11_86 ok_X11_acts (by decide) rfl im_X11_acts se_X11_acts (ct_X11_acts ‹_› hu hu6 hsc) (Nat.le_of_ble_eq_true rfl) (by decide) (Nat.le_of_ble_eq_true rfl) ?_
                                        refine e_aload_n dX11_move_97 rfl rfl ?_
                                        refine e_getR dX11_move_98 fl_X11_7 rfl (by assumption) ?_
                                        refine e_iconst (v := nI 3) dX11_move_101 rfl ?_
                                        first | ((with_reducible refine mk_ldw ?_); refine e_ldw dX11_move_102 (by omega) ?_) | refine e_iald _ dX11_move_102 ⟨by decide, by decide⟩ rfl rfl (by simp only [lenK]; omega) ?_
                                        refine x_S1 (M' := mX11_moveAt) dX11_move_103 ml_X11_62 ok_X11_moveAt rfl sc_X11_moveAt (ct_X11_moveAt) (Nat.le_of_ble_eq_true rfl) (by decide) (Nat.le_of_ble_eq_true rfl) ?_
                                        refine e_istore dX11_move_106 (Nat.le_of_ble_eq_true rfl) rfl ?_
                                        refine e_iconst (v := nI 0) dX11_move_108 rfl ?_
                                        refine e_istore dX11_move_109 (Nat.le_of_ble_eq_true rfl) rfl ?_
                                        exact kk
                                    · try first | contradiction | omega
                                      all_goals
                                        contradiction
                    · try first | contradiction | omega
                      all_goals
                        contradiction
