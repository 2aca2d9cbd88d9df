theorem stp_lt {w : Nat → Nat} (iv : Inv w) {x y : Int32} {ai : FI} (hB : stpB w x y = true) (h0 : w 0 < 1999) : (stS w ai x.toNatClampNeg y.toNatClampNeg).1 (7694 + 72 * x.toNatClampNeg + 0) < 2147483648 := by
  have hx2 : inR x (w 3) = true := by unfold stpB csT at hB; grind
  obtain ⟨a, ha, ha2, rfl⟩ := inR_ex hx2
  rw [nI_clamp ha2]
  obtain ⟨i1, i2, -⟩ := stS_in iv (ai := ai) ha (fun _ => h0) y.toNatClampNeg
  have := (iv_mv i1 (m := a) (by omega)).1
  omega
/-- a clause: whether it is done, what is then -/
def exO (u : Nat) (v : Nat) (x y z : Int32) (w : Nat → Nat) (ai : FI) : Bool × (Nat → Nat) × FI := match v with
  | 0 => (inR x 6, if inR x 6 then fetW w x.toNatClampNeg else w, ai)
  | 1 => (decide (0 ≤ (redR w x y).toInt), redW w x y, ai)
  | 2 => (decide (wriR w x y z = 0), wriW w x y z, ai)
  | 3 => (spcB w (nmO w x) y, sptW w (nmO w x) y, sptA ai u true w (nmO w x) y)
  | 4 => (decide (mdlR w x ≠ -1), mdlW w x, mdlA ai u true w x)
  | 5 => (joiB w (nmO w x), jonW w (nmO w x), jonA ai u true w (nmO w x))
  | 6 => (mvB w (nmO w x) y, mvW w (nmO w x) y, mvA ai u true w (nmO w x) y)
  | 7 => (stpB w x y, if stpB w x y then (stS w ai x.toNatClampNeg y.toNatClampNeg).1 else w, if stpB w x y then (stS w ai x.toNatClampNeg y.toNatClampNeg).2 else ai)
  | 8 => (faiB w x y, if faiB w x y then upN w (7694 + 72 * x.toNatClampNeg + 10) y.toNatClampNeg else w, ai)
  | 9 => (dowB w x, dowW w x, ai)
  | 10 => (inR x 6 && decide (w (4 + x.toNatClampNeg) ≠ 1), if inR x 6 && decide (w (4 + x.toNatClampNeg) ≠ 1) then upN w (4 + x.toNatClampNeg) 1 else w, ai)
  | 11 => (recB w x, if recB w x then endW w x.toNatClampNeg else w, ai)
  | 12 => (givB w x, if givB w x then endW w x.toNatClampNeg else w, ai)
  | 13 => (true, ageW w, ai)
  | _ => (decide (1 ≤ x.toInt ∧ x.toInt ≤ 16), if 1 ≤ x.toInt ∧ x.toInt ≤ 16 then upN w 2 x.toNatClampNeg else w, ai)
theorem actF_t (fi : FI) (u : Nat) : actF fi u true = fi := rfl
theorem actA_t (ai : FI) (u : Nat) (w : Nat → Nat) : actA ai u true w = ai := rfl
theorem forF_t (fi : FI) : forF fi true = fi := rfl
theorem if_same2 {α : Sort _} {c : Prop} [Decidable c] (a : α) : (if c then a else a) = a := by split <;> rfl
theorem askF_t (fi : FI) (w : Nat → Nat) (c k v : Nat) : askF fi w c k v true = fi := by unfold askF; rw [forF_t, if_same2]
theorem endS_5 (w : Nat → Nat) (m : Nat) : endS w m = 6 ∨ endS w m = 5 := by unfold endS; split <;> simp
theorem isd_sw {fi : FI} {fr : FR} {ai : FI} {ar : FR} {N : Nat} {w : Nat → Nat} (sm : SM fr) {c v : Nat} {x y : Int32} {Q : EQ} (hc : c < 40) (hv : v < 15) (h0 : ai (rf 36 88) (4 * c) = nI v) (h1 : ai (rf 36 88) (4 * c + 1) = x) (h2 : ai (rf 36 88) (4 * c + 2) = y) (k0 : v = 0 → EV mX11_isDone 6 0 0 100 [some (.ref (rf 11 80)), some (.int (nI c)), some (.int x), some (.int y)] [] fi fr (mW ai w) ar N Q) (k1 : v = 1 → EV mX11_isDone 6 0 0 115 [some (.ref (rf 11 80)), some (.int (nI c)), some (.int x), some (.int y)] [] fi fr (mW ai w) ar N Q) (k2 : v = 2 → EV mX11_isDone 6 0 0 130 [some (.ref (rf 11 80)), some (.int (nI c)), some (.int x), some (.int y)] [] fi fr (mW ai w) ar N Q) (k3 : v = 3 → EV mX11_isDone 6 0 0 155 [some (.ref (rf 11 80)), some (.int (nI c)), some (.int x), some (.int y)] [] fi fr (mW ai w) ar N Q) (k4 : v = 4 → EV mX11_isDone 6 0 0 171 [some (.ref (rf 11 80)), some (.int (nI c)), some (.int x), some (.int y)] [] fi fr (mW ai w) ar N Q) (k5 : v = 5 → EV mX11_isDone 6 0 0 186 [some (.ref (rf 11 80)), some (.int (nI c)), some (.int x), some (.int y)] [] fi fr (mW ai w) ar N Q) (k6 : v = 6 → EV mX11_isDone 6 0 0 201 [some (.ref (rf 11 80)), some (.int (nI c)), some (.int x), some (.int y)] [] fi fr (mW ai w) ar N Q) (k7 : v = 7 → EV mX11_isDone 6 0 0 217 [some (.ref (rf 11 80)), some (.int (nI c)), some (.int x), some (.int y)] [] fi fr (mW ai w) ar N Q) (k8 : v = 8 → EV mX11_isDone 6 0 0 233 [some (.ref (rf 11 80)), some (.int (nI c)), some (.int x), some (.int y)] [] fi fr (mW ai w) ar N Q) (k9 : v = 9 → EV mX11_isDone 6 0 0 240 [some (.ref (rf 11 80)), some (.int (nI c)), some (.int x), some (.int y)] [] fi fr (mW ai w) ar N Q) (k10 : v = 10 → EV mX11_isDone 6 0 0 255 [some (.ref (rf 11 80)), some (.int (nI c)), some (.int x), some (.int y)] [] fi fr (mW ai w) ar N Q) (k11 : v = 11 → EV mX11_isDone 6 0 0 261 [some (.ref (rf 11 80)), some (.int (nI c)), some (.int x), some (.int y)] [] fi fr (mW ai w) ar N Q) (k12 : v = 12 → EV mX11_isDone 6 0 0 276 [some (.ref (rf 11 80)), some (.int (nI c)), some (.int x), some (.int y)] [] fi fr (mW ai w) ar N Q) (k13 : v = 13 → EV mX11_isDone 6 0 0 282 [some (.ref (rf 11 80)), some (.int (nI c)), some (.int x), some (.int y)] [] fi fr (mW ai w) ar N Q) (k14 : v = 14 → EV mX11_isDone 6 0 0 297 [some (.ref (rf 11 80)), some (.int (nI c)), some (.int x), some (.int y)] [] fi fr (mW ai w) ar N Q) : CP mX11_isDone 6 0 0 [.ref (rf 11 80), .int (nI c)] fi fr (mW ai w) ar N Q := by
  obtain ⟨sW, sA0, sK, sU, sC, sKC, sT, sCl⟩ := id sm
  change EV mX11_isDone 6 0 0 0 [some (.ref (rf 11 80)), some (.int (nI c)), none, none] [] fi fr (mW ai w) ar N Q
  have hvi := nI_toInt (n := v) (by omega)
  refine e_aload_n dX11_isDone_0 rfl rfl ?_
  refine e_getR dX11_isDone_1 fl_X11_40 rfl (by assumption) ?_
  refine e_iconst (v := nI 4) dX11_isDone_4 rfl ?_
  refine e_iload_n dX11_isDone_5 rfl rfl ?_
  first | ((with_reducible refine mk_nn ?_); refine n_imul dX11_isDone_6 ?_) | refine e_imul dX11_isDone_6 ?_
  refine e_iconst (v := nI 1) dX11_isDone_7 rfl ?_
  first | ((with_reducible refine mk_nn ?_); refine n_iadd dX11_isDone_8 ?_) | refine e_iadd dX11_isDone_8 ?_
  first | ((with_reducible refine mk_ldw ?_); refine e_ldw dX11_isDone_9 (by omega) ?_) | refine e_iald _ dX11_isDone_9 ⟨by decide, by decide⟩ rfl rfl (by simp only [lenK]; omega) ?_
  rw [mW_o (by decide), h1]
  refine e_istore_n dX11_isDone_10 rfl (Nat.le_of_ble_eq_true rfl) rfl ?_
  refine e_aload_n dX11_isDone_11 rfl rfl ?_
  refine e_getR dX11_isDone_12 fl_X11_40 rfl (by assumption) ?_
  refine e_iconst (v := nI 4) dX11_isDone_15 rfl ?_
  refine e_iload_n dX11_isDone_16 rfl rfl ?_
  first | ((with_reducible refine mk_nn ?_); refine n_imul dX11_isDone_17 ?_) | refine e_imul dX11_isDone_17 ?_
  refine e_iconst (v := nI 2) dX11_isDone_18 rfl ?_
  first | ((with_reducible refine mk_nn ?_); refine n_iadd dX11_isDone_19 ?_) | refine e_iadd dX11_isDone_19 ?_
  first | ((with_reducible refine mk_ldw ?_); refine e_ldw dX11_isDone_20 (by omega) ?_) | refine e_iald _ dX11_isDone_20 ⟨by decide, by decide⟩ rfl rfl (by simp only [lenK]; omega) ?_
  rw [mW_o (by decide), h2]
  refine e_istore_n dX11_isDone_21 rfl (Nat.le_of_ble_eq_true rfl) rfl ?_
  refine e_aload_n dX11_isDone_22 rfl rfl ?_
  refine e_getR dX11_isDone_23 fl_X11_40 rfl (by assumption) ?_
  refine e_iconst (v := nI 4) dX11_isDone_26 rfl ?_
  refine e_iload_n dX11_isDone_27 rfl rfl ?_
  first | ((with_reducible refine mk_nn ?_); refine n_imul dX11_isDone_28 ?_) | refine e_imul dX11_isDone_28 ?_
  first | ((with_reducible refine mk_ldw ?_); refine e_ldw dX11_isDone_29 (by omega) ?_) | refine e_iald _ dX11_isDone_29 ⟨by decide, by decide⟩ rfl rfl (by simp only [lenK]; omega) ?_
  rw [mW_o (by decide), h0]
  refine e_swc (tgt := 100) 0 dX11_isDone_30 (by decide) (by decide) rfl (by decide) (fun h30_0 => ?_) (fun h30_0 => ?_)
  · try first | contradiction | omega
    all_goals
      exact k0 (by omega)
  refine e_swc (tgt := 115) 1 dX11_isDone_30 (by decide) (by decide) rfl (by decide) (fun h30_1 => ?_) (fun h30_1 => ?_)
  · try first | contradiction | omega
    all_goals
      exact k1 (by omega)
  refine e_swc (tgt := 130) 2 dX11_isDone_30 (by decide) (by decide) rfl (by decide) (fun h30_2 => ?_) (fun h30_2 => ?_)
  · try first | contradiction | omega
    all_goals
      exact k2 (by omega)
  refine e_swc (tgt := 155) 3 dX11_isDone_30 (by decide) (by decide) rfl (by decide) (fun h30_3 => ?_) (fun h30_3 => ?_)
  · try first | contradiction | omega
    all_goals
      exact k3 (by omega)
  refine e_swc (tgt := 171) 4 dX11_isDone_30 (by decide) (by decide) rfl (by decide) (fun h30_4 => ?_) (fun h30_4 => ?_)
  · try first | contradiction | omega
    all_goals
      exact k4 (by omega)
  refine e_swc (tgt := 186) 5 dX11_isDone_30 (by decide) (by decide) rfl (by decide) (fun h30_5 => ?_) (fun h30_5 => ?_)
  · try first | contradiction | omega
    all_goals
      exact k5 (by omega)
  refine e_swc (tgt := 201) 6 dX11_isDone_30 (by decide) (by decide) rfl (by decide) (fun h30_6 => ?_) (fun h30_6 => ?_)
  · try first | contradiction | omega
    all_goals
      exact k6 (by omega)
  refine e_swc (tgt := 217) 7 dX11_isDone_30 (by decide) (by decide) rfl (by decide) (fun h30_7 => ?_) (fun h30_7 => ?_)
  · try first | contradiction | omega
    all_goals
      exact k7 (by omega)
  refine e_swc (tgt := 233) 8 dX11_isDone_30 (by decide) (by decide) rfl (by decide) (fun h30_8 => ?_) (fun h30_8 => ?_)
  · try first | contradiction | omega
    all_goals
      exact k8 (by omega)
  refine e_swc (tgt := 240) 9 dX11_isDone_30 (by decide) (by decide) rfl (by decide) (fun h30_9 => ?_) (fun h30_9 => ?_)
  · try first | contradiction | omega
    all_goals
      exact k9 (by omega)
  refine e_swc (tgt := 255) 10 dX11_isDone_30 (by decide) (by decide) rfl (by decide) (fun h30_10 => ?_) (fun h30_10 => ?_)
  · try first | contradiction | omega
    all_goals
      exact k10 (by omega)
  refine e_swc (tgt := 261) 11 dX11_isDone_30 (by decide) (by decide) rfl (by decide) (fun h30_11 => ?_) (fun h30_11 => ?_)
  · try first | contradiction | omega
    all_goals
      exact k11 (by omega)
  refine e_swc (tgt := 276) 12 dX11_isDone_30 (by decide) (by decide) rfl (by decide) (fun h30_12 => ?_) (fun h30_12 => ?_)
  · try first | contradiction | omega
    all_goals
      exact k12 (by omega)
  refine e_swc (tgt := 282) 13 dX11_isDone_30 (by decide) (by decide) rfl (by decide) (fun h30_13 => ?_) (fun h30_13 => ?_)
  · try first | contradiction | omega
    all_goals
      exact k13 (by omega)
  refine e_tableOut (tgt := 297) dX11_isDone_30 (by omega) (by decide) ?_
  exact k14 (by omega)
theorem ct_X11_isDone {fi : FI} {fr : FR} {ai : FI} {ar : FR} {N : Nat} {w : Nat → Nat} (sm : SM fr) (iv : Inv w) {c v u : Nat} {x y z : Int32} (hc : c < 40) (hv : v < 15) (h0 : ai (rf 36 88) (4 * c) = nI v) (h1 : ai (rf 36 88) (4 * c + 1) = x) (h2 : ai (rf 36 88) (4 * c + 2) = y) (hz3 : ai (rf 36 88) (4 * c + 3) = z) (hu : fi (32 * 11 + 4) (rf 11 80) = nI u) (hu6 : u ≤ 6) (hsc : fi (32 * 11 + 8) (rf 11 80) = bI true) (hwt : ∀ k, k < 1000 → w (106 + k) + 2 ≤ 100000) (h01 : w 0 < 1999) : CP mX11_isDone 6 0 0 [.ref (rf 11 80), .int (nI c)] fi fr (mW ai w) ar N (xQ (some (.int (bI (exO u v x y z w ai).1))) fi fr (mW (exO u v x y z w ai).2.2 (exO u v x y z w ai).2.1) ar N) := by
  obtain ⟨sW, sA0, sK, sU, sC, sKC, sT, sCl⟩ := id sm
  have hn1 := iv_n iv
  have hm3 := iv_mm iv
  have he0 := iv_ep0 iv
  have g0 : v = 0 → EV mX11_isDone 6 0 0 100 [some (.ref (rf 11 80)), some (.int (nI c)), some (.int x), some (.int y)] [] fi fr (mW ai w) ar N (xQ (some (.int (bI (exO u v x y z w ai).1))) fi fr (mW (exO u v x y z w ai).2.2 (exO u v x y z w ai).2.1) ar N) := by
    intro hvk
    subst hvk
    cases hB : inR x 6 with
    | true =>
      have e0 : (if inR x 6 then nI (w 0) else -1) = nI (w 0) := if_pos hB
      have e1 : (if inR x 6 then forF fi true else fi) = fi := by rw [forF_t, if_same2]
      have eb : (exO u 0 x y z w ai).1 = true := hB
      rw [eb]
      refine e_aload_n dX11_isDone_100 rfl rfl ?_
      refine e_iload_n dX11_isDone_101 rfl rfl ?_
      refine x_V1 (M' := mX11_fetch) dX11_isDone_102 ml_X11_158 ok_X11_fetch (by decide) rfl im_X11_fetch se_X11_fetch (ct_X11_fetch ‹_› ‹_› _ hsc) (Nat.le_of_ble_eq_true rfl) (by decide) (Nat.le_of_ble_eq_true rfl) ?_
      rw [e0, e1]
      refine e_iconst (v := -1) dX11_isDone_105 rfl ?_
      first | ((with_reducible refine mk_mo ?_); refine p_icmp_eq (tgt := 113) dX11_isDone_106 (by decide) (fun h106 => ?_) (fun h106 => ?_)) | ((with_reducible refine mk_ms ?_); refine s_icmp_eq (tgt := 113) dX11_isDone_106 (by decide) (by omega) (fun h106 => ?_) (fun h106 => ?_)) | ((with_reducible refine mk_mn ?_); refine q_icmp_eq (tgt := 113) dX11_isDone_106 (by decide) (by omega) (fun h106 => ?_) (fun h106 => ?_)) | ((with_reducible refine mk_nn ?_); refine n_icmp_eq (tgt := 113) dX11_isDone_106 (by decide) (by omega) (by omega) (fun h106 => ?_) (fun h106 => ?_)) | refine e_icmp_eq (tgt := 113) dX11_isDone_106 (by decide) (fun h106 => ?_) (fun h106 => ?_)
      · try first | contradiction | omega
        all_goals
          contradiction
      · try first | contradiction | omega
        all_goals
          refine e_iconst (v := nI 1) dX11_isDone_109 rfl ?_
          refine e_goto (tgt := 114) dX11_isDone_110 (by decide) ?_
          first | ((with_reducible refine mk_b ?_); refine e_ret (some _) rfl (r_bool dX11_isDone_114 rfl) ?_) | ((with_reducible refine mk_n1 ?_); refine e_ret (some _) rfl (r_b1 dX11_isDone_114 rfl) ?_) | ((with_reducible refine mk_n0 ?_); refine e_ret (some _) rfl (r_b0 dX11_isDone_114 rfl) ?_)
          exact xq rfl rfl rfl rfl rfl rfl
    | false =>
      have e0 : (if inR x 6 then nI (w 0) else -1) = -1 := if_neg (by rw [hB]; decide)
      have e1 : (if inR x 6 then forF fi true else fi) = fi := by rw [forF_t, if_same2]
      have eb : (exO u 0 x y z w ai).1 = false := hB
      rw [eb]
      refine e_aload_n dX11_isDone_100 rfl rfl ?_
      refine e_iload_n dX11_isDone_101 rfl rfl ?_
      refine x_V1 (M' := mX11_fetch) dX11_isDone_102 ml_X11_158 ok_X11_fetch (by decide) rfl im_X11_fetch se_X11_fetch (ct_X11_fetch ‹_› ‹_› _ hsc) (Nat.le_of_ble_eq_true rfl) (by decide) (Nat.le_of_ble_eq_true rfl) ?_
      rw [e0, e1]
      refine e_iconst (v := -1) dX11_isDone_105 rfl ?_
      first | ((with_reducible refine mk_mo ?_); refine p_icmp_eq (tgt := 113) dX11_isDone_106 (by decide) (fun h106 => ?_) (fun h106 => ?_)) | ((with_reducible refine mk_ms ?_); refine s_icmp_eq (tgt := 113) dX11_isDone_106 (by decide) (by omega) (fun h106 => ?_) (fun h106 => ?_)) | ((with_reducible refine mk_mn ?_); refine q_icmp_eq (tgt := 113) dX11_isDone_106 (by decide) (by omega) (fun h106 => ?_) (fun h106 => ?_)) | ((with_reducible refine mk_nn ?_); refine n_icmp_eq (tgt := 113) dX11_isDone_106 (by decide) (by omega) (by omega) (fun h106 => ?_) (fun h106 => ?_)) | refine e_icmp_eq (tgt := 113) dX11_isDone_106 (by decide) (fun h106 => ?_) (fun h106 => ?_)
      · try first | contradiction | omega
        all_goals
          refine e_iconst (v := nI 0) dX11_isDone_113 rfl ?_
          first | ((with_reducible refine mk_b ?_); refine e_ret (some _) rfl (r_bool dX11_isDone_114 rfl) ?_) | ((with_reducible refine mk_n1 ?_); refine e_ret (some _) rfl (r_b1 dX11_isDone_114 rfl) ?_) | ((with_reducible refine mk_n0 ?_); refine e_ret (some _) rfl (r_b0 dX11_isDone_114 rfl) ?_)
          exact xq rfl rfl rfl rfl rfl rfl
      · try first | contradiction | omega
        all_goals
          contradiction
  have g1 : v = 1 → EV mX11_isDone 6 0 0 115 [some (.ref (rf 11 80)), some (.int (nI c)), some (.int x), some (.int y)] [] fi fr (mW ai w) ar N (xQ (some (.int (bI (exO u v x y z w ai).1))) fi fr (mW (exO u v x y z w ai).2.2 (exO u v x y z w ai).2.1) ar N) := by
    intro hvk
    subst hvk
    have e1 : redF fi w x y true = fi := by unfold redF; rw [askF_t, if_same2]
    have eb : (exO u 1 x y z w ai).1 = decide (0 ≤ (redR w x y).toInt) := rfl
    rw [eb]
    refine e_aload_n dX11_isDone_115 rfl rfl ?_
    refine e_iload_n dX11_isDone_116 rfl rfl ?_
    refine e_iload_n dX11_isDone_117 rfl rfl ?_
    refine x_V2 (M' := mX11_read) dX11_isDone_118 ml_X11_266 ok_X11_read (by decide) rfl im_X11_read se_X11_read (ct_X11_read ‹_› ‹_› _ _ hsc hwt) (Nat.le_of_ble_eq_true rfl) (by decide) (Nat.le_of_ble_eq_true rfl) ?_
    rw [e1]
    generalize redR w x y = rr
    first | ((with_reducible refine mk_ll ?_); refine m_if_lt (tgt := 128) dX11_isDone_121 (by decide) (by omega) (by omega) (fun h121 => ?_) (fun h121 => ?_)) | ((with_reducible refine mk_lc ?_); refine l_if_lt (tgt := 128) dX11_isDone_121 (by decide) (fun h121 => ?_) (fun h121 => ?_)) | ((with_reducible refine mk_n ?_); refine n_if_lt (tgt := 128) dX11_isDone_121 (by decide) (by omega) (fun h121 => ?_) (fun h121 => ?_)) | refine e_if_lt (tgt := 128) dX11_isDone_121 (by decide) (fun h121 => ?_) (fun h121 => ?_)
    · try first | contradiction | omega
      all_goals
        refine e_iconst (v := nI 0) dX11_isDone_128 rfl ?_
        first | ((with_reducible refine mk_b ?_); refine e_ret (some _) rfl (r_bool dX11_isDone_129 rfl) ?_) | ((with_reducible refine mk_n1 ?_); refine e_ret (some _) rfl (r_b1 dX11_isDone_129 rfl) ?_) | ((with_reducible refine mk_n0 ?_); refine e_ret (some _) rfl (r_b0 dX11_isDone_129 rfl) ?_)
        first | exact xq (bl0 (decide_eq_false (fun q => absurd (Int32.lt_iff_toInt_lt.mp h121) (Int.not_lt.mpr q)))) rfl rfl rfl rfl rfl | exact xq (bl1 (decide_eq_true (Int.not_lt.mp (fun q => h121 (Int32.lt_iff_toInt_lt.mpr q))))) rfl rfl rfl rfl rfl
    · try first | contradiction | omega
      all_goals
        refine e_iconst (v := nI 1) dX11_isDone_124 rfl ?_
        refine e_goto (tgt := 129) dX11_isDone_125 (by decide) ?_
        first | ((with_reducible refine mk_b ?_); refine e_ret (some _) rfl (r_bool dX11_isDone_129 rfl) ?_) | ((with_reducible refine mk_n1 ?_); refine e_ret (some _) rfl (r_b1 dX11_isDone_129 rfl) ?_) | ((with_reducible refine mk_n0 ?_); refine e_ret (some _) rfl (r_b0 dX11_isDone_129 rfl) ?_)
        first | exact xq (bl0 (decide_eq_false (fun q => absurd (Int32.lt_iff_toInt_lt.mp h121) (Int.not_lt.mpr q)))) rfl rfl rfl rfl rfl | exact xq (bl1 (decide_eq_true (Int.not_lt.mp (fun q => h121 (Int32.lt_iff_toInt_lt.mpr q))))) rfl rfl rfl rfl rfl
  have g2 : v = 2 → EV mX11_isDone 6 0 0 130 [some (.ref (rf 11 80)), some (.int (nI c)), some (.int x), some (.int y)] [] fi fr (mW ai w) ar N (xQ (some (.int (bI (exO u v x y z w ai).1))) fi fr (mW (exO u v x y z w ai).2.2 (exO u v x y z w ai).2.1) ar N) := by
    intro hvk
    subst hvk
    have e1 : wriF fi w x y z true = fi := by unfold wriF; rw [askF_t, if_same2]
    have eb : (exO u 2 x y z w ai).1 = decide (wriR w x y z = 0) := rfl
    rw [eb]
    refine e_aload_n dX11_isDone_130 rfl rfl ?_
    refine e_iload_n dX11_isDone_131 rfl rfl ?_
    refine e_iload_n dX11_isDone_132 rfl rfl ?_
    refine e_aload_n dX11_isDone_133 rfl rfl ?_
    refine e_getR dX11_isDone_134 fl_X11_40 rfl (by assumption) ?_
    refine e_iconst (v := nI 4) dX11_isDone_137 rfl ?_
    refine e_iload_n dX11_isDone_138 rfl rfl ?_
    first | ((with_reducible refine mk_nn ?_); refine n_imul dX11_isDone_139 ?_) | refine e_imul dX11_isDone_139 ?_
    refine e_iconst (v := nI 3) dX11_isDone_140 rfl ?_
    first | ((with_reducible refine mk_nn ?_); refine n_iadd dX11_isDone_141 ?_) | refine e_iadd dX11_isDone_141 ?_
    first | ((with_reducible refine mk_ldw ?_); refine e_ldw dX11_isDone_142 (by omega) ?_) | refine e_iald _ dX11_isDone_142 ⟨by decide, by decide⟩ rfl rfl (by simp only [lenK]; omega) ?_
    rw [mW_o (by decide), hz3]
    refine x_V3 (M' := mX11_write) dX11_isDone_143 ml_X11_269 ok_X11_write (by decide) rfl im_X11_write se_X11_write (ct_X11_write ‹_› ‹_› _ _ _ hsc hwt) (Nat.le_of_ble_eq_true rfl) (by decide) (Nat.le_of_ble_eq_true rfl) ?_
    rw [e1]
    generalize wriR w x y z = rr
    first | ((with_reducible refine mk_b ?_); refine b_if_ne (tgt := 153) dX11_isDone_146 (by decide) (fun h146 => ?_) (fun h146 => ?_)) | ((with_reducible refine mk_ll ?_); refine m_if_ne (tgt := 153) dX11_isDone_146 (by decide) (by omega) (by omega) (fun h146 => ?_) (fun h146 => ?_)) | ((with_reducible refine mk_lc ?_); refine l_if_ne (tgt := 153) dX11_isDone_146 (by decide) (fun h146 => ?_) (fun h146 => ?_)) | ((with_reducible refine mk_n ?_); refine n_if_ne (tgt := 153) dX11_isDone_146 (by decide) (by omega) (fun h146 => ?_) (fun h146 => ?_)) | refine e_if_ne (tgt := 153) dX11_isDone_146 (by decide) (fun h146 => ?_) (fun h146 => ?_)
    · try first | contradiction | omega | (simp only [decide_eq_true_eq, decide_eq_false_iff_not] at h146; omega)
      all_goals
        refine e_iconst (v := nI 0) dX11_isDone_153 rfl ?_
        first | ((with_reducible refine mk_b ?_); refine e_ret (some _) rfl (r_bool dX11_isDone_154 rfl) ?_) | ((with_reducible refine mk_n1 ?_); refine e_ret (some _) rfl (r_b1 dX11_isDone_154 rfl) ?_) | ((with_reducible refine mk_n0 ?_); refine e_ret (some _) rfl (r_b0 dX11_isDone_154 rfl) ?_)
        first | exact xq (bl1 (decide_eq_true h146)) rfl rfl rfl rfl rfl | exact xq (bl1 (decide_eq_true (Decidable.not_not.mp h146))) rfl rfl rfl rfl rfl | exact xq (bl0 (decide_eq_false h146)) rfl rfl rfl rfl rfl
    · try first | contradiction | omega | (simp only [decide_eq_true_eq, decide_eq_false_iff_not] at h146; omega)
      all_goals
        refine e_iconst (v := nI 1) dX11_isDone_149 rfl ?_
        refine e_goto (tgt := 154) dX11_isDone_150 (by decide) ?_
        first | ((with_reducible refine mk_b ?_); refine e_ret (some _) rfl (r_bool dX11_isDone_154 rfl) ?_) | ((with_reducible refine mk_n1 ?_); refine e_ret (some _) rfl (r_b1 dX11_isDone_154 rfl) ?_) | ((with_reducible refine mk_n0 ?_); refine e_ret (some _) rfl (r_b0 dX11_isDone_154 rfl) ?_)
        first | exact xq (bl1 (decide_eq_true h146)) rfl rfl rfl rfl rfl | exact xq (bl1 (decide_eq_true (Decidable.not_not.mp h146))) rfl rfl rfl rfl rfl | exact xq (bl0 (decide_eq_false h146)) rfl rfl rfl rfl rfl
  have g3 : v = 3 → EV mX11_isDone 6 0 0 155 [some (.ref (rf 11 80)), some (.int (nI c)), some (.int x), some (.int y)] [] fi fr (mW ai w) ar N (xQ (some (.int (bI (exO u v x y z w ai).1))) fi fr (mW (exO u v x y z w ai).2.2 (exO u v x y z w ai).2.1) ar N) := by
    intro hvk
    subst hvk
    cases hB : spcB w (nmO w x) y with
    | true =>
      have e0 : sptR w (nmO w x) y (-1) = nI (w 0 + 1) := by unfold sptR; rw [hB]; rfl
      have e1 : sptF fi u true w (nmO w x) y = fi := by unfold sptF; rw [actF_t, if_same2]
      have eb : (exO u 3 x y z w ai).1 = true := hB
      rw [eb]
      refine e_aload_n dX11_isDone_155 rfl rfl ?_
      refine e_iload_n dX11_isDone_156 rfl rfl ?_
      refine e_iload_n dX11_isDone_157 rfl rfl ?_
      refine x_V2 (M' := mX11_split) dX11_isDone_158 ml_X11_272 ok_X11_split (by decide) rfl im_X11_split se_X11_split (ct_X11_split ‹_› ‹_› _ _ hu hu6 hsc) (Nat.le_of_ble_eq_true rfl) (by decide) (Nat.le_of_ble_eq_true rfl) ?_
      rw [e0, e1]
      refine e_iconst (v := -1) dX11_isDone_161 rfl ?_
      first | ((with_reducible refine mk_mo ?_); refine p_icmp_eq (tgt := 169) dX11_isDone_162 (by decide) (fun h162 => ?_) (fun h162 => ?_)) | ((with_reducible refine mk_ms ?_); refine s_icmp_eq (tgt := 169) dX11_isDone_162 (by decide) (by omega) (fun h162 => ?_) (fun h162 => ?_)) | ((with_reducible refine mk_mn ?_); refine q_icmp_eq (tgt := 169) dX11_isDone_162 (by decide) (by omega) (fun h162 => ?_) (fun h162 => ?_)) | ((with_reducible refine mk_nn ?_); refine n_icmp_eq (tgt := 169) dX11_isDone_162 (by decide) (by omega) (by omega) (fun h162 => ?_) (fun h162 => ?_)) | refine e_icmp_eq (tgt := 169) dX11_isDone_162 (by decide) (fun h162 => ?_) (fun h162 => ?_)
      · try first | contradiction | omega
        all_goals
          contradiction
      · try first | contradiction | omega
        all_goals
          refine e_iconst (v := nI 1) dX11_isDone_165 rfl ?_
          refine e_goto (tgt := 170) dX11_isDone_166 (by decide) ?_
          first | ((with_reducible refine mk_b ?_); refine e_ret (some _) rfl (r_bool dX11_isDone_170 rfl) ?_) | ((with_reducible refine mk_n1 ?_); refine e_ret (some _) rfl (r_b1 dX11_isDone_170 rfl) ?_) | ((with_reducible refine mk_n0 ?_); refine e_ret (some _) rfl (r_b0 dX11_isDone_170 rfl) ?_)
          exact xq rfl rfl rfl rfl rfl rfl
    | false =>
      have e0 : sptR w (nmO w x) y (-1) = -1 := by unfold sptR; rw [hB]; rfl
      have e1 : sptF fi u true w (nmO w x) y = fi := by unfold sptF; rw [actF_t, if_same2]
      have eb : (exO u 3 x y z w ai).1 = false := hB
      rw [eb]
      refine e_aload_n dX11_isDone_155 rfl rfl ?_
      refine e_iload_n dX11_isDone_156 rfl rfl ?_
      refine e_iload_n dX11_isDone_157 rfl rfl ?_
      refine x_V2 (M' := mX11_split) dX11_isDone_158 ml_X11_272 ok_X11_split (by decide) rfl im_X11_split se_X11_split (ct_X11_split ‹_› ‹_› _ _ hu hu6 hsc) (Nat.le_of_ble_eq_true rfl) (by decide) (Nat.le_of_ble_eq_true rfl) ?_
      rw [e0, e1]
      refine e_iconst (v := -1) dX11_isDone_161 rfl ?_
      first | ((with_reducible refine mk_mo ?_); refine p_icmp_eq (tgt := 169) dX11_isDone_162 (by decide) (fun h162 => ?_) (fun h162 => ?_)) | ((with_reducible refine mk_ms ?_); refine s_icmp_eq (tgt := 169) dX11_isDone_162 (by decide) (by omega) (fun h162 => ?_) (fun h162 => ?_)) | ((with_reducible refine mk_mn ?_); refine q_icmp_eq (tgt := 169) dX11_isDone_162 (by decide) (by omega) (fun h162 => ?_) (fun h162 => ?_)) | ((with_reducible refine mk_nn ?_); refine n_icmp_eq (tgt := 169) dX11_isDone_162 (by decide) (by omega) (by omega) (fun h162 => ?_) (fun h162 => ?_)) | refine e_icmp_eq (tgt := 169) dX11_isDone_162 (by decide) (fun h162 => ?_) (fun h162 => ?_)
      · try first | contradiction | omega
        all_goals
          refine e_iconst (v := nI 0) dX11_isDone_169 rfl ?_
          first | ((with_reducible refine mk_b ?_); refine e_ret (some _) rfl (r_bool dX11_isDone_170 rfl) ?_) | ((with_reducible refine mk_n1 ?_); refine e_ret (some _) rfl (r_b1 dX11_isDone_170 rfl) ?_) | ((with_reducible refine mk_n0 ?_); refine e_ret (some _) rfl (r_b0 dX11_isDone_170 rfl) ?_)
          exact xq rfl rfl rfl rfl rfl rfl
      · try first | contradiction | omega
        all_goals
          contradiction
  have g4 : v = 4 → EV mX11_isDone 6 0 0 171 [some (.ref (rf 11 80)), some (.int (nI c)), some (.int x), some (.int y)] [] fi fr (mW ai w) ar N (xQ (some (.int (bI (exO u v x y z w ai).1))) fi fr (mW (exO u v x y z w ai).2.2 (exO u v x y z w ai).2.1) ar N) := by
    intro hvk
    subst hvk
    have e1 : mdlF fi u true w x = fi := by
      unfold mdlF
      split
      · rfl
      · unfold sptF; rw [actF_t, if_same2]
    have eb : (exO u 4 x y z w ai).1 = decide (mdlR w x ≠ -1) := rfl
    rw [eb]
    refine e_aload_n dX11_isDone_171 rfl rfl ?_
    refine e_iload_n dX11_isDone_172 rfl rfl ?_
    refine x_V1 (M' := mX11_middle) dX11_isDone_173 ml_X11_275 ok_X11_middle (by decide) rfl im_X11_middle se_X11_middle (ct_X11_middle ‹_› ‹_› _ hu hu6 hsc) (Nat.le_of_ble_eq_true rfl) (by decide) (Nat.le_of_ble_eq_true rfl) ?_
    rw [e1]
    generalize mdlR w x = rr
    refine e_iconst (v := -1) dX11_isDone_176 rfl ?_
    first | ((with_reducible refine mk_mo ?_); refine p_icmp_eq (tgt := 184) dX11_isDone_177 (by decide) (fun h177 => ?_) (fun h177 => ?_)) | ((with_reducible refine mk_ms ?_); refine s_icmp_eq (tgt := 184) dX11_isDone_177 (by decide) (by omega) (fun h177 => ?_) (fun h177 => ?_)) | ((with_reducible refine mk_mn ?_); refine q_icmp_eq (tgt := 184) dX11_isDone_177 (by decide) (by omega) (fun h177 => ?_) (fun h177 => ?_)) | ((with_reducible refine mk_nn ?_); refine n_icmp_eq (tgt := 184) dX11_isDone_177 (by decide) (by omega) (by omega) (fun h177 => ?_) (fun h177 => ?_)) | refine e_icmp_eq (tgt := 184) dX11_isDone_177 (by decide) (fun h177 => ?_) (fun h177 => ?_)
    · try first | contradiction | omega
      all_goals
        refine e_iconst (v := nI 0) dX11_isDone_184 rfl ?_
        first | ((with_reducible refine mk_b ?_); refine e_ret (some _) rfl (r_bool dX11_isDone_185 rfl) ?_) | ((with_reducible refine mk_n1 ?_); refine e_ret (some _) rfl (r_b1 dX11_isDone_185 rfl) ?_) | ((with_reducible refine mk_n0 ?_); refine e_ret (some _) rfl (r_b0 dX11_isDone_185 rfl) ?_)
        first | exact xq (bl1 (decide_eq_true h177)) rfl rfl rfl rfl rfl | exact xq (bl0 (decide_eq_false (fun q => q h177))) rfl rfl rfl rfl rfl
    · try first | contradiction | omega
      all_goals
        refine e_iconst (v := nI 1) dX11_isDone_180 rfl ?_
        refine e_goto (tgt := 185) dX11_isDone_181 (by decide) ?_
        first | ((with_reducible refine mk_b ?_); refine e_ret (some _) rfl (r_bool dX11_isDone_185 rfl) ?_) | ((with_reducible refine mk_n1 ?_); refine e_ret (some _) rfl (r_b1 dX11_isDone_185 rfl) ?_) | ((with_reducible refine mk_n0 ?_); refine e_ret (some _) rfl (r_b0 dX11_isDone_185 rfl) ?_)
        first | exact xq (bl1 (decide_eq_true h177)) rfl rfl rfl rfl rfl | exact xq (bl0 (decide_eq_false (fun q => q h177))) rfl rfl rfl rfl rfl
  have g5 : v = 5 → EV mX11_isDone 6 0 0 186 [some (.ref (rf 11 80)), some (.int (nI c)), some (.int x), some (.int y)] [] fi fr (mW ai w) ar N (xQ (some (.int (bI (exO u v x y z w ai).1))) fi fr (mW (exO u v x y z w ai).2.2 (exO u v x y z w ai).2.1) ar N) := by
    intro hvk
    subst hvk
    cases hB : joiB w (nmO w x) with
    | true =>
      have e0 : jonR w (nmO w x) = nI (w 0 + 1) := by unfold jonR; rw [hB]; rfl
      have e1 : jonF fi u true w (nmO w x) = fi := by unfold jonF; rw [actF_t, if_same2]
      have eb : (exO u 5 x y z w ai).1 = true := hB
      rw [eb]
      refine e_aload_n dX11_isDone_186 rfl rfl ?_
      refine e_iload_n dX11_isDone_187 rfl rfl ?_
      refine x_V1 (M' := mX11_join) dX11_isDone_188 ml_X11_278 ok_X11_join (by decide) rfl im_X11_join se_X11_join (ct_X11_join ‹_› ‹_› _ hu hu6 hsc) (Nat.le_of_ble_eq_true rfl) (by decide) (Nat.le_of_ble_eq_true rfl) ?_
      rw [e0, e1]
      refine e_iconst (v := -1) dX11_isDone_191 rfl ?_
      first | ((with_reducible refine mk_mo ?_); refine p_icmp_eq (tgt := 199) dX11_isDone_192 (by decide) (fun h192 => ?_) (fun h192 => ?_)) | ((with_reducible refine mk_ms ?_); refine s_icmp_eq (tgt := 199) dX11_isDone_192 (by decide) (by omega) (fun h192 => ?_) (fun h192 => ?_)) | ((with_reducible refine mk_mn ?_); refine q_icmp_eq (tgt := 199) dX11_isDone_192 (by decide) (by omega) (fun h192 => ?_) (fun h192 => ?_)) | ((with_reducible refine mk_nn ?_); refine n_icmp_eq (tgt := 199) dX11_isDone_192 (by decide) (by omega) (by omega) (fun h192 => ?_) (fun h192 => ?_)) | refine e_icmp_eq (tgt := 199) dX11_isDone_192 (by decide) (fun h192 => ?_) (fun h192 => ?_)
      · try first | contradiction | omega
        all_goals
          contradiction
      · try first | contradiction | omega
        all_goals
          refine e_iconst (v := nI 1) dX11_isDone_195 rfl ?_
          refine e_goto (tgt := 200) dX11_isDone_196 (by decide) ?_
          first | ((with_reducible refine mk_b ?_); refine e_ret (some _) rfl (r_bool dX11_isDone_200 rfl) ?_) | ((with_reducible refine mk_n1 ?_); refine e_ret (some _) rfl (r_b1 dX11_isDone_200 rfl) ?_) | ((with_reducible refine mk_n0 ?_); refine e_ret (some _) rfl (r_b0 dX11_isDone_200 rfl) ?_)
          exact xq rfl rfl rfl rfl rfl rfl
    | false =>
      have e0 : jonR w (nmO w x) = -1 := by unfold jonR; rw [hB]; rfl
      have e1 : jonF fi u true w (nmO w x) = fi := by unfold jonF; rw [actF_t, if_same2]
      have eb : (exO u 5 x y z w ai).1 = false := hB
      rw [eb]
      refine e_aload_n dX11_isDone_186 rfl rfl ?_
      refine e_iload_n dX11_isDone_187 rfl rfl ?_
      refine x_V1 (M' := mX11_join) dX11_isDone_188 ml_X11_278 ok_X11_join (by decide) rfl im_X11_join se_X11_join (ct_X11_join ‹_› ‹_› _ hu hu6 hsc) (Nat.le_of_ble_eq_true rfl) (by decide) (Nat.le_of_ble_eq_true rfl) ?_
      rw [e0, e1]
      refine e_iconst (v := -1) dX11_isDone_191 rfl ?_
      first | ((with_reducible refine mk_mo ?_); refine p_icmp_eq (tgt := 199) dX11_isDone_192 (by decide) (fun h192 => ?_) (fun h192 => ?_)) | ((with_reducible refine mk_ms ?_); refine s_icmp_eq (tgt := 199) dX11_isDone_192 (by decide) (by omega) (fun h192 => ?_) (fun h192 => ?_)) | ((with_reducible refine mk_mn ?_); refine q_icmp_eq (tgt := 199) dX11_isDone_192 (by decide) (by omega) (fun h192 => ?_) (fun h192 => ?_)) | ((with_reducible refine mk_nn ?_); refine n_icmp_eq (tgt := 199) dX11_isDone_192 (by decide) (by omega) (by omega) (fun h192 => ?_) (fun h192 => ?_)) | refine e_icmp_eq (tgt := 199) dX11_isDone_192 (by decide) (fun h192 => ?_) (fun h192 => ?_)
      · try first | contradiction | omega
        all_goals
          refine e_iconst (v := nI 0) dX11_isDone_199 rfl ?_
          first | ((with_reducible refine mk_b ?_); refine e_ret (some _) rfl (r_bool dX11_isDone_200 rfl) ?_) | ((with_reducible refine mk_n1 ?_); refine e_ret (some _) rfl (r_b1 dX11_isDone_200 rfl) ?_) | ((with_reducible refine mk_n0 ?_); refine e_ret (some _) rfl (r_b0 dX11_isDone_200 rfl) ?_)
          exact xq rfl rfl rfl rfl rfl rfl
      · try first | contradiction | omega
        all_goals
          contradiction
  have g6 : v = 6 → EV mX11_isDone 6 0 0 201 [some (.ref (rf 11 80)), some (.int (nI c)), some (.int x), some (.int y)] [] fi fr (mW ai w) ar N (xQ (some (.int (bI (exO u v x y z w ai).1))) fi fr (mW (exO u v x y z w ai).2.2 (exO u v x y z w ai).2.1) ar N) := by
    intro hvk
    subst hvk
    cases hB : mvB w (nmO w x) y with
    | true =>
      have e0 : mvR w (nmO w x) y = nI (w 3) := by unfold mvR; rw [hB]; rfl
      have e1 : mvF fi u true w (nmO w x) y = fi := by unfold mvF; rw [actF_t, if_same2]
      have eb : (exO u 6 x y z w ai).1 = true := hB
      rw [eb]
      refine e_aload_n dX11_isDone_201 rfl rfl ?_
      refine e_iload_n dX11_isDone_202 rfl rfl ?_
      refine e_iload_n dX11_isDone_203 rfl rfl ?_
      refine x_V2 (M' := mX11_move) dX11_isDone_204 ml_X11_281 ok_X11_move (by decide) rfl im_X11_move se_X11_move (ct_X11_move ‹_› ‹_› _ _ hu hu6 hsc) (Nat.le_of_ble_eq_true rfl) (by decide) (Nat.le_of_ble_eq_true rfl) ?_
      rw [e0, e1]
      refine e_iconst (v := -1) dX11_isDone_207 rfl ?_
      first | ((with_reducible refine mk_mo ?_); refine p_icmp_eq (tgt := 215) dX11_isDone_208 (by decide) (fun h208 => ?_) (fun h208 => ?_)) | ((with_reducible refine mk_ms ?_); refine s_icmp_eq (tgt := 215) dX11_isDone_208 (by decide) (by omega) (fun h208 => ?_) (fun h208 => ?_)) | ((with_reducible refine mk_mn ?_); refine q_icmp_eq (tgt := 215) dX11_isDone_208 (by decide) (by omega) (fun h208 => ?_) (fun h208 => ?_)) | ((with_reducible refine mk_nn ?_); refine n_icmp_eq (tgt := 215) dX11_isDone_208 (by decide) (by omega) (by omega) (fun h208 => ?_) (fun h208 => ?_)) | refine e_icmp_eq (tgt := 215) dX11_isDone_208 (by decide) (fun h208 => ?_) (fun h208 => ?_)
      · try first | contradiction | omega
        all_goals
          contradiction
      · try first | contradiction | omega
        all_goals
          refine e_iconst (v := nI 1) dX11_isDone_211 rfl ?_
          refine e_goto (tgt := 216) dX11_isDone_212 (by decide) ?_
          first | ((with_reducible refine mk_b ?_); refine e_ret (some _) rfl (r_bool dX11_isDone_216 rfl) ?_) | ((with_reducible refine mk_n1 ?_); refine e_ret (some _) rfl (r_b1 dX11_isDone_216 rfl) ?_) | ((with_reducible refine mk_n0 ?_); refine e_ret (some _) rfl (r_b0 dX11_isDone_216 rfl) ?_)
          exact xq rfl rfl rfl rfl rfl rfl
    | false =>
      have e0 : mvR w (nmO w x) y = -1 := by unfold mvR; rw [hB]; rfl
      have e1 : mvF fi u true w (nmO w x) y = fi := by unfold mvF; rw [actF_t, if_same2]
      have eb : (exO u 6 x y z w ai).1 = false := hB
      rw [eb]
      refine e_aload_n dX11_isDone_201 rfl rfl ?_
      refine e_iload_n dX11_isDone_202 rfl rfl ?_
      refine e_iload_n dX11_isDone_203 rfl rfl ?_
      refine x_V2 (M' := mX11_move) dX11_isDone_204 ml_X11_281 ok_X11_move (by decide) rfl im_X11_move se_X11_move (ct_X11_move ‹_› ‹_› _ _ hu hu6 hsc) (Nat.le_of_ble_eq_true rfl) (by decide) (Nat.le_of_ble_eq_true rfl) ?_
      rw [e0, e1]
      refine e_iconst (v := -1) dX11_isDone_207 rfl ?_
      first | ((with_reducible refine mk_mo ?_); refine p_icmp_eq (tgt := 215) dX11_isDone_208 (by decide) (fun h208 => ?_) (fun h208 => ?_)) | ((with_reducible refine mk_ms ?_); refine s_icmp_eq (tgt := 215) dX11_isDone_208 (by decide) (by omega) (fun h208 => ?_) (fun h208 => ?_)) | ((with_reducible refine mk_mn ?_); refine q_icmp_eq (tgt := 215) dX11_isDone_208 (by decide) (by omega) (fun h208 => ?_) (fun h208 => ?_)) | ((with_reducible refine mk_nn ?_); refine n_icmp_eq (tgt := 215) dX11_isDone_208 (by decide) (by omega) (by omega) (fun h208 => ?_) (fun h208 => ?_)) | refine e_icmp_eq (tgt := 215) dX11_isDone_208 (by decide) (fun h208 => ?_) (fun h208 => ?_)
      · try first | contradiction | omega
        all_goals
          refine e_iconst (v := nI 0) dX11_isDone_215 rfl ?_
          first | ((with_reducible refine mk_b ?_); refine e_ret (some _) rfl (r_bool dX11_isDone_216 rfl) ?_) | ((with_reducible refine mk_n1 ?_); refine e_ret (some _) rfl (r_b1 dX11_isDone_216 rfl) ?_) | ((with_reducible refine mk_n0 ?_); refine e_ret (some _) rfl (r_b0 dX11_isDone_216 rfl) ?_)
          exact xq rfl rfl rfl rfl rfl rfl
      · try first | contradiction | omega
        all_goals
          contradiction
  have g7 : v = 7 → EV mX11_isDone 6 0 0 217 [some (.ref (rf 11 80)), some (.int (nI c)), some (.int x), some (.int y)] [] fi fr (mW ai w) ar N (xQ (some (.int (bI (exO u v x y z w ai).1))) fi fr (mW (exO u v x y z w ai).2.2 (exO u v x y z w ai).2.1) ar N) := by
    intro hvk
    subst hvk
    cases hB : stpB w x y with
    | true =>
      have e0 : (if stpB w x y then actF fi u true else fi) = fi := by rw [actF_t, if_same2]
      have e1 : stpR w (actA ai u true w) x y = nI ((stS w ai x.toNatClampNeg y.toNatClampNeg).1 (7694 + 72 * x.toNatClampNeg + 0)) := by unfold stpR; rw [hB]; rfl
      have eb : (exO u 7 x y z w ai).1 = true := hB
      rw [eb]
      refine e_aload_n dX11_isDone_217 rfl rfl ?_
      refine e_iload_n dX11_isDone_218 rfl rfl ?_
      refine e_iload_n dX11_isDone_219 rfl rfl ?_
      refine x_V2 (M' := mX11_step) dX11_isDone_220 ml_X11_284 ok_X11_step (by decide) rfl im_X11_step se_X11_step (ct_X11_step ‹_› ‹_› _ _ hu hu6 hsc h01) (Nat.le_of_ble_eq_true rfl) (by decide) (Nat.le_of_ble_eq_true rfl) ?_
      rw [e0, e1]
      refine e_iconst (v := -1) dX11_isDone_223 rfl ?_
      have hst7 : (stS w ai x.toNatClampNeg y.toNatClampNeg).1 (7694 + 72 * x.toNatClampNeg + 0) < 2147483648 := stp_lt iv hB h01
      first | ((with_reducible refine mk_mo ?_); refine p_icmp_eq (tgt := 231) dX11_isDone_224 (by decide) (fun h224 => ?_) (fun h224 => ?_)) | ((with_reducible refine mk_ms ?_); refine s_icmp_eq (tgt := 231) dX11_isDone_224 (by decide) (by omega) (fun h224 => ?_) (fun h224 => ?_)) | ((with_reducible refine mk_mn ?_); refine q_icmp_eq (tgt := 231) dX11_isDone_224 (by decide) (by omega) (fun h224 => ?_) (fun h224 => ?_)) | ((with_reducible refine mk_nn ?_); refine n_icmp_eq (tgt := 231) dX11_isDone_224 (by decide) (by omega) (by omega) (fun h224 => ?_) (fun h224 => ?_)) | refine e_icmp_eq (tgt := 231) dX11_isDone_224 (by decide) (fun h224 => ?_) (fun h224 => ?_)
      · try first | contradiction | omega
        all_goals
          contradiction
      · try first | contradiction | omega
        all_goals
          refine e_iconst (v := nI 1) dX11_isDone_227 rfl ?_
          refine e_goto (tgt := 232) dX11_isDone_228 (by decide) ?_
          first | ((with_reducible refine mk_b ?_); refine e_ret (some _) rfl (r_bool dX11_isDone_232 rfl) ?_) | ((with_reducible refine mk_n1 ?_); refine e_ret (some _) rfl (r_b1 dX11_isDone_232 rfl) ?_) | ((with_reducible refine mk_n0 ?_); refine e_ret (some _) rfl (r_b0 dX11_isDone_232 rfl) ?_)
          refine xq rfl rfl rfl ?_ rfl rfl
          show _ = mW (if stpB w x y then (stS w ai x.toNatClampNeg y.toNatClampNeg).2 else ai) (if stpB w x y then (stS w ai x.toNatClampNeg y.toNatClampNeg).1 else w)
          rw [hB]
          rfl
    | false =>
      have e0 : (if stpB w x y then actF fi u true else fi) = fi := by rw [actF_t, if_same2]
      have e1 : stpR w (actA ai u true w) x y = -1 := by unfold stpR; rw [hB]; rfl
      have eb : (exO u 7 x y z w ai).1 = false := hB
      rw [eb]
      refine e_aload_n dX11_isDone_217 rfl rfl ?_
      refine e_iload_n dX11_isDone_218 rfl rfl ?_
      refine e_iload_n dX11_isDone_219 rfl rfl ?_
      refine x_V2 (M' := mX11_step) dX11_isDone_220 ml_X11_284 ok_X11_step (by decide) rfl im_X11_step se_X11_step (ct_X11_step ‹_› ‹_› _ _ hu hu6 hsc h01) (Nat.le_of_ble_eq_true rfl) (by decide) (Nat.le_of_ble_eq_true rfl) ?_
      rw [e0, e1]
      refine e_iconst (v := -1) dX11_isDone_223 rfl ?_
      first | ((with_reducible refine mk_mo ?_); refine p_icmp_eq (tgt := 231) dX11_isDone_224 (by decide) (fun h224 => ?_) (fun h224 => ?_)) | ((with_reducible refine mk_ms ?_); refine s_icmp_eq (tgt := 231) dX11_isDone_224 (by decide) (by omega) (fun h224 => ?_) (fun h224 => ?_)) | ((with_reducible refine mk_mn ?_); refine q_icmp_eq (tgt := 231) dX11_isDone_224 (by decide) (by omega) (fun h224 => ?_) (fun h224 => ?_)) | ((with_reducible refine mk_nn ?_); refine n_icmp_eq (tgt := 231) dX11_isDone_224 (by decide) (by omega) (by omega) (fun h224 => ?_) (fun h224 => ?_)) | refine e_icmp_eq (tgt := 231) dX11_isDone_224 (by decide) (fun h224 => ?_) (fun h224 => ?_)
      · try first | contradiction | omega
        all_goals
          refine e_iconst (v := nI 0) dX11_isDone_231 rfl ?_
          first | ((with_reducible refine mk_b ?_); refine e_ret (some _) rfl (r_bool dX11_isDone_232 rfl) ?_) | ((with_reducible refine mk_n1 ?_); refine e_ret (some _) rfl (r_b1 dX11_isDone_232 rfl) ?_) | ((with_reducible refine mk_n0 ?_); refine e_ret (some _) rfl (r_b0 dX11_isDone_232 rfl) ?_)
          refine xq rfl rfl rfl ?_ rfl rfl
          show _ = mW (if stpB w x y then (stS w ai x.toNatClampNeg y.toNatClampNeg).2 else ai) (if stpB w x y then (stS w ai x.toNatClampNeg y.toNatClampNeg).1 else w)
          rw [hB]
          rfl
      · try first | contradiction | omega
        all_goals
          refine e_iconst (v := nI 1) dX11_isDone_227 rfl ?_
          contradiction
  have g8 : v = 8 → EV mX11_isDone 6 0 0 233 [some (.ref (rf 11 80)), some (.int (nI c)), some (.int x), some (.int y)] [] fi fr (mW ai w) ar N (xQ (some (.int (bI (exO u v x y z w ai).1))) fi fr (mW (exO u v x y z w ai).2.2 (exO u v x y z w ai).2.1) ar N) := by
    intro hvk
    subst hvk
    have e1 : (if faiB w x y then forF fi true else fi) = fi := by rw [forF_t, if_same2]
    refine e_aload_n dX11_isDone_233 rfl rfl ?_
    refine e_iload_n dX11_isDone_234 rfl rfl ?_
    refine e_iload_n dX11_isDone_235 rfl rfl ?_
    refine x_V2 (M' := mX11_fail) dX11_isDone_236 ml_X11_287 ok_X11_fail (by decide) rfl im_X11_fail se_X11_fail (ct_X11_fail ‹_› ‹_› _ _ hsc) (Nat.le_of_ble_eq_true rfl) (by decide) (Nat.le_of_ble_eq_true rfl) ?_
    rw [e1]
    first | ((with_reducible refine mk_b ?_); refine e_ret (some _) rfl (r_bool dX11_isDone_239 rfl) ?_) | ((with_reducible refine mk_n1 ?_); refine e_ret (some _) rfl (r_b1 dX11_isDone_239 rfl) ?_) | ((with_reducible refine mk_n0 ?_); refine e_ret (some _) rfl (r_b0 dX11_isDone_239 rfl) ?_)
    exact xq rfl rfl rfl rfl rfl rfl
  have g9 : v = 9 → EV mX11_isDone 6 0 0 240 [some (.ref (rf 11 80)), some (.int (nI c)), some (.int x), some (.int y)] [] fi fr (mW ai w) ar N (xQ (some (.int (bI (exO u v x y z w ai).1))) fi fr (mW (exO u v x y z w ai).2.2 (exO u v x y z w ai).2.1) ar N) := by
    intro hvk
    subst hvk
    cases hB : dowB w x with
    | true =>
      have e0 : dowR w x = nI (cnt (dnB w x.toNatClampNeg) (w 3)) := by unfold dowR; rw [hB]; rfl
      have e1 : (if dowB w x then forF fi true else fi) = fi := by rw [forF_t, if_same2]
      have eb : (exO u 9 x y z w ai).1 = true := hB
      rw [eb]
      refine e_aload_n dX11_isDone_240 rfl rfl ?_
      refine e_iload_n dX11_isDone_241 rfl rfl ?_
      refine x_V1 (M' := mX11_down) dX11_isDone_242 ml_X11_290 ok_X11_down (by decide) rfl im_X11_down se_X11_down (ct_X11_down ‹_› ‹_› _ hsc) (Nat.le_of_ble_eq_true rfl) (by decide) (Nat.le_of_ble_eq_true rfl) ?_
      rw [e0, e1]
      refine e_iconst (v := -1) dX11_isDone_245 rfl ?_
      have hcl := cnt_le (dnB w x.toNatClampNeg) (w 3)
      first | ((with_reducible refine mk_mo ?_); refine p_icmp_eq (tgt := 253) dX11_isDone_246 (by decide) (fun h246 => ?_) (fun h246 => ?_)) | ((with_reducible refine mk_ms ?_); refine s_icmp_eq (tgt := 253) dX11_isDone_246 (by decide) (by omega) (fun h246 => ?_) (fun h246 => ?_)) | ((with_reducible refine mk_mn ?_); refine q_icmp_eq (tgt := 253) dX11_isDone_246 (by decide) (by omega) (fun h246 => ?_) (fun h246 => ?_)) | ((with_reducible refine mk_nn ?_); refine n_icmp_eq (tgt := 253) dX11_isDone_246 (by decide) (by omega) (by omega) (fun h246 => ?_) (fun h246 => ?_)) | refine e_icmp_eq (tgt := 253) dX11_isDone_246 (by decide) (fun h246 => ?_) (fun h246 => ?_)
      · try first | contradiction | omega
        all_goals
          contradiction
      · try first | contradiction | omega
        all_goals
          refine e_iconst (v := nI 1) dX11_isDone_249 rfl ?_
          refine e_goto (tgt := 254) dX11_isDone_250 (by decide) ?_
          first | ((with_reducible refine mk_b ?_); refine e_ret (some _) rfl (r_bool dX11_isDone_254 rfl) ?_) | ((with_reducible refine mk_n1 ?_); refine e_ret (some _) rfl (r_b1 dX11_isDone_254 rfl) ?_) | ((with_reducible refine mk_n0 ?_); refine e_ret (some _) rfl (r_b0 dX11_isDone_254 rfl) ?_)
          exact xq rfl rfl rfl rfl rfl rfl
    | false =>
      have e0 : dowR w x = -1 := by unfold dowR; rw [hB]; rfl
      have e1 : (if dowB w x then forF fi true else fi) = fi := by rw [forF_t, if_same2]
      have eb : (exO u 9 x y z w ai).1 = false := hB
      rw [eb]
      refine e_aload_n dX11_isDone_240 rfl rfl ?_
      refine e_iload_n dX11_isDone_241 rfl rfl ?_
      refine x_V1 (M' := mX11_down) dX11_isDone_242 ml_X11_290 ok_X11_down (by decide) rfl im_X11_down se_X11_down (ct_X11_down ‹_› ‹_› _ hsc) (Nat.le_of_ble_eq_true rfl) (by decide) (Nat.le_of_ble_eq_true rfl) ?_
      rw [e0, e1]
      refine e_iconst (v := -1) dX11_isDone_245 rfl ?_
      first | ((with_reducible refine mk_mo ?_); refine p_icmp_eq (tgt := 253) dX11_isDone_246 (by decide) (fun h246 => ?_) (fun h246 => ?_)) | ((with_reducible refine mk_ms ?_); refine s_icmp_eq (tgt := 253) dX11_isDone_246 (by decide) (by omega) (fun h246 => ?_) (fun h246 => ?_)) | ((with_reducible refine mk_mn ?_); refine q_icmp_eq (tgt := 253) dX11_isDone_246 (by decide) (by omega) (fun h246 => ?_) (fun h246 => ?_)) | ((with_reducible refine mk_nn ?_); refine n_icmp_eq (tgt := 253) dX11_isDone_246 (by decide) (by omega) (by omega) (fun h246 => ?_) (fun h246 => ?_)) | refine e_icmp_eq (tgt := 253) dX11_isDone_246 (by decide) (fun h246 => ?_) (fun h246 => ?_)
      · try first | contradiction | omega
        all_goals
          refine e_iconst (v := nI 0) dX11_isDone_253 rfl ?_
          first | ((with_reducible refine mk_b ?_); refine e_ret (some _) rfl (r_bool dX11_isDone_254 rfl) ?_) | ((with_reducible refine mk_n1 ?_); refine e_ret (some _) rfl (r_b1 dX11_isDone_254 rfl) ?_) | ((with_reducible refine mk_n0 ?_); refine e_ret (some _) rfl (r_b0 dX11_isDone_254 rfl) ?_)
          exact xq rfl rfl rfl rfl rfl rfl
      · try first | contradiction | omega
        all_goals
          refine e_iconst (v := nI 1) dX11_isDone_249 rfl ?_
          contradiction
  have g10 : v = 10 → EV mX11_isDone 6 0 0 255 [some (.ref (rf 11 80)), some (.int (nI c)), some (.int x), some (.int y)] [] fi fr (mW ai w) ar N (xQ (some (.int (bI (exO u v x y z w ai).1))) fi fr (mW (exO u v x y z w ai).2.2 (exO u v x y z w ai).2.1) ar N) := by
    intro hvk
    subst hvk
    have e1 : (if inR x 6 && decide (w (4 + x.toNatClampNeg) ≠ 1) then forF fi true else fi) = fi := by rw [forF_t, if_same2]
    refine e_aload_n dX11_isDone_255 rfl rfl ?_
    refine e_iload_n dX11_isDone_256 rfl rfl ?_
    refine x_V1 (M' := mX11_up) dX11_isDone_257 ml_X11_293 ok_X11_up (by decide) rfl im_X11_up se_X11_up (ct_X11_up ‹_› ‹_› _ hsc) (Nat.le_of_ble_eq_true rfl) (by decide) (Nat.le_of_ble_eq_true rfl) ?_
    rw [e1]
    first | ((with_reducible refine mk_b ?_); refine e_ret (some _) rfl (r_bool dX11_isDone_260 rfl) ?_) | ((with_reducible refine mk_n1 ?_); refine e_ret (some _) rfl (r_b1 dX11_isDone_260 rfl) ?_) | ((with_reducible refine mk_n0 ?_); refine e_ret (some _) rfl (r_b0 dX11_isDone_260 rfl) ?_)
    exact xq rfl rfl rfl rfl rfl rfl
  have g11 : v = 11 → EV mX11_isDone 6 0 0 261 [some (.ref (rf 11 80)), some (.int (nI c)), some (.int x), some (.int y)] [] fi fr (mW ai w) ar N (xQ (some (.int (bI (exO u v x y z w ai).1))) fi fr (mW (exO u v x y z w ai).2.2 (exO u v x y z w ai).2.1) ar N) := by
    intro hvk
    subst hvk
    cases hB : recB w x with
    | true =>
      have e0 : (if recB w x then nI (endS w x.toNatClampNeg) else -1) = nI (endS w x.toNatClampNeg) := if_pos hB
      have e1 : (if recB w x then actF fi u true else fi) = fi := by rw [actF_t, if_same2]
      have e2 : (if recB w x then actA ai u true w else ai) = ai := by rw [actA_t, if_same2]
      have eb : (exO u 11 x y z w ai).1 = true := hB
      rw [eb]
      refine e_aload_n dX11_isDone_261 rfl rfl ?_
      refine e_iload_n dX11_isDone_262 rfl rfl ?_
      refine x_V1 (M' := mX11_recover) dX11_isDone_263 ml_X11_296 ok_X11_recover (by decide) rfl im_X11_recover se_X11_recover (ct_X11_recover ‹_› ‹_› _ hu hu6 hsc) (Nat.le_of_ble_eq_true rfl) (by decide) (Nat.le_of_ble_eq_true rfl) ?_
      rw [e0, e1, e2]
      refine e_iconst (v := -1) dX11_isDone_266 rfl ?_
      have hes := endS_5 w x.toNatClampNeg
      first | ((with_reducible refine mk_mo ?_); refine p_icmp_eq (tgt := 274) dX11_isDone_267 (by decide) (fun h267 => ?_) (fun h267 => ?_)) | ((with_reducible refine mk_ms ?_); refine s_icmp_eq (tgt := 274) dX11_isDone_267 (by decide) (by omega) (fun h267 => ?_) (fun h267 => ?_)) | ((with_reducible refine mk_mn ?_); refine q_icmp_eq (tgt := 274) dX11_isDone_267 (by decide) (by omega) (fun h267 => ?_) (fun h267 => ?_)) | ((with_reducible refine mk_nn ?_); refine n_icmp_eq (tgt := 274) dX11_isDone_267 (by decide) (by omega) (by omega) (fun h267 => ?_) (fun h267 => ?_)) | refine e_icmp_eq (tgt := 274) dX11_isDone_267 (by decide) (fun h267 => ?_) (fun h267 => ?_)
      · try first | contradiction | omega
        all_goals
          contradiction
      · try first | contradiction | omega
        all_goals
          refine e_iconst (v := nI 1) dX11_isDone_270 rfl ?_
          refine e_goto (tgt := 275) dX11_isDone_271 (by decide) ?_
          first | ((with_reducible refine mk_b ?_); refine e_ret (some _) rfl (r_bool dX11_isDone_275 rfl) ?_) | ((with_reducible refine mk_n1 ?_); refine e_ret (some _) rfl (r_b1 dX11_isDone_275 rfl) ?_) | ((with_reducible refine mk_n0 ?_); refine e_ret (some _) rfl (r_b0 dX11_isDone_275 rfl) ?_)
          exact xq rfl rfl rfl rfl rfl rfl
    | false =>
      have e0 : (if recB w x then nI (endS w x.toNatClampNeg) else -1) = -1 := if_neg (by rw [hB]; decide)
      have e1 : (if recB w x then actF fi u true else fi) = fi := by rw [actF_t, if_same2]
      have e2 : (if recB w x then actA ai u true w else ai) = ai := by rw [actA_t, if_same2]
      have eb : (exO u 11 x y z w ai).1 = false := hB
      rw [eb]
      refine e_aload_n dX11_isDone_261 rfl rfl ?_
      refine e_iload_n dX11_isDone_262 rfl rfl ?_
      refine x_V1 (M' := mX11_recover) dX11_isDone_263 ml_X11_296 ok_X11_recover (by decide) rfl im_X11_recover se_X11_recover (ct_X11_recover ‹_› ‹_› _ hu hu6 hsc) (Nat.le_of_ble_eq_true rfl) (by decide) (Nat.le_of_ble_eq_true rfl) ?_
      rw [e0, e1, e2]
      refine e_iconst (v := -1) dX11_isDone_266 rfl ?_
      first | ((with_reducible refine mk_mo ?_); refine p_icmp_eq (tgt := 274) dX11_isDone_267 (by decide) (fun h267 => ?_) (fun h267 => ?_)) | ((with_reducible refine mk_ms ?_); refine s_icmp_eq (tgt := 274) dX11_isDone_267 (by decide) (by omega) (fun h267 => ?_) (fun h267 => ?_)) | ((with_reducible refine mk_mn ?_); refine q_icmp_eq (tgt := 274) dX11_isDone_267 (by decide) (by omega) (fun h267 => ?_) (fun h267 => ?_)) | ((with_reducible refine mk_nn ?_); refine n_icmp_eq (tgt := 274) dX11_isDone_267 (by decide) (by omega) (by omega) (fun h267 => ?_) (fun h267 => ?_)) | refine e_icmp_eq (tgt := 274) dX11_isDone_267 (by decide) (fun h267 => ?_) (fun h267 => ?_)
      · try first | contradiction | omega
        all_goals
          refine e_iconst (v := nI 0) dX11_isDone_274 rfl ?_
          first | ((with_reducible refine mk_b ?_); refine e_ret (some _) rfl (r_bool dX11_isDone_275 rfl) ?_) | ((with_reducible refine mk_n1 ?_); refine e_ret (some _) rfl (r_b1 dX11_isDone_275 rfl) ?_) | ((with_reducible refine mk_n0 ?_); refine e_ret (some _) rfl (r_b0 dX11_isDone_275 rfl) ?_)
          exact xq rfl rfl rfl rfl rfl rfl
      · try first | contradiction | omega
        all_goals
          refine e_iconst (v := nI 1) dX11_isDone_270 rfl ?_
          contradiction
  have g12 : v = 12 → EV mX11_isDone 6 0 0 276 [some (.ref (rf 11 80)), some (.int (nI c)), some (.int x), some (.int y)] [] fi fr (mW ai w) ar N (xQ (some (.int (bI (exO u v x y z w ai).1))) fi fr (mW (exO u v x y z w ai).2.2 (exO u v x y z w ai).2.1) ar N) := by
    intro hvk
    subst hvk
    have e1 : (if givB w x then actF fi u true else fi) = fi := by rw [actF_t, if_same2]
    have e2 : (if givB w x then actA ai u true w else ai) = ai := by rw [actA_t, if_same2]
    refine e_aload_n dX11_isDone_276 rfl rfl ?_
    refine e_iload_n dX11_isDone_277 rfl rfl ?_
    refine x_V1 (M' := mX11_give) dX11_isDone_278 ml_X11_299 ok_X11_give (by decide) rfl im_X11_give se_X11_give (ct_X11_give ‹_› ‹_› _ hu hu6 hsc) (Nat.le_of_ble_eq_true rfl) (by decide) (Nat.le_of_ble_eq_true rfl) ?_
    rw [e1, e2]
    first | ((with_reducible refine mk_b ?_); refine e_ret (some _) rfl (r_bool dX11_isDone_281 rfl) ?_) | ((with_reducible refine mk_n1 ?_); refine e_ret (some _) rfl (r_b1 dX11_isDone_281 rfl) ?_) | ((with_reducible refine mk_n0 ?_); refine e_ret (some _) rfl (r_b0 dX11_isDone_281 rfl) ?_)
    exact xq rfl rfl rfl rfl rfl rfl
  have g13 : v = 13 → EV mX11_isDone 6 0 0 282 [some (.ref (rf 11 80)), some (.int (nI c)), some (.int x), some (.int y)] [] fi fr (mW ai w) ar N (xQ (some (.int (bI (exO u v x y z w ai).1))) fi fr (mW (exO u v x y z w ai).2.2 (exO u v x y z w ai).2.1) ar N) := by
    intro hvk
    subst hvk
    obtain ⟨rr, hrr, hA⟩ : ∃ rr, rs (fun k => ageW w (106 + k)) 0 1000 = rr ∧ rr ≤ 100000 * 1000 := ⟨_, rfl, rs_le 1000 (fun j hj => iv_wt (ageW_Inv iv) (by omega))⟩
    refine e_aload_n dX11_isDone_282 rfl rfl ?_
    refine x_V0 (M' := mX11_age) dX11_isDone_283 ml_X11_302 ok_X11_age (by decide) rfl im_X11_age se_X11_age (ct_X11_age ‹_› ‹_› hu hu6 hsc) (Nat.le_of_ble_eq_true rfl) (by decide) (Nat.le_of_ble_eq_true rfl) ?_
    rw [hrr]
    refine e_lconst (v := lN 0) dX11_isDone_286 rfl ?_
    refine e_lcmp dX11_isDone_287 ?_
    first | ((with_reducible refine mk_ll ?_); refine m_if_lt (tgt := 295) dX11_isDone_288 (by decide) (by omega) (by omega) (fun h288 => ?_) (fun h288 => ?_)) | ((with_reducible refine mk_lc ?_); refine l_if_lt (tgt := 295) dX11_isDone_288 (by decide) (fun h288 => ?_) (fun h288 => ?_)) | ((with_reducible refine mk_n ?_); refine n_if_lt (tgt := 295) dX11_isDone_288 (by decide) (by omega) (fun h288 => ?_) (fun h288 => ?_)) | refine e_if_lt (tgt := 295) dX11_isDone_288 (by decide) (fun h288 => ?_) (fun h288 => ?_)
    · try first | contradiction | omega
      all_goals
        contradiction
    · try first | contradiction | omega
      all_goals
        refine e_iconst (v := nI 1) dX11_isDone_291 rfl ?_
        refine e_goto (tgt := 296) dX11_isDone_292 (by decide) ?_
        first | ((with_reducible refine mk_b ?_); refine e_ret (some _) rfl (r_bool dX11_isDone_296 rfl) ?_) | ((with_reducible refine mk_n1 ?_); refine e_ret (some _) rfl (r_b1 dX11_isDone_296 rfl) ?_) | ((with_reducible refine mk_n0 ?_); refine e_ret (some _) rfl (r_b0 dX11_isDone_296 rfl) ?_)
        exact xq rfl rfl rfl rfl rfl rfl
  have g14 : v = 14 → EV mX11_isDone 6 0 0 297 [some (.ref (rf 11 80)), some (.int (nI c)), some (.int x), some (.int y)] [] fi fr (mW ai w) ar N (xQ (some (.int (bI (exO u v x y z w ai).1))) fi fr (mW (exO u v x y z w ai).2.2 (exO u v x y z w ai).2.1) ar N) := by
    intro hvk
    subst hvk
    have e1 : (if 1 ≤ x.toInt ∧ x.toInt ≤ 16 then forF fi true else fi) = fi := by rw [forF_t, if_same2]
    refine e_aload_n dX11_isDone_297 rfl rfl ?_
    refine e_iload_n dX11_isDone_298 rfl rfl ?_
    refine x_V1 (M' := mX11_chunk) dX11_isDone_299 ml_X11_305 ok_X11_chunk (by decide) rfl im_X11_chunk se_X11_chunk (ct_X11_chunk ‹_› ‹_› _ hsc) (Nat.le_of_ble_eq_true rfl) (by decide) (Nat.le_of_ble_eq_true rfl) ?_
    rw [e1]
    first | ((with_reducible refine mk_b ?_); refine e_ret (some _) rfl (r_bool dX11_isDone_302 rfl) ?_) | ((with_reducible refine mk_n1 ?_); refine e_ret (some _) rfl (r_b1 dX11_isDone_302 rfl) ?_) | ((with_reducible refine mk_n0 ?_); refine e_ret (some _) rfl (r_b0 dX11_isDone_302 rfl) ?_)
    exact xq rfl rfl rfl rfl rfl rfl
  exact isd_sw sm hc hv h0 h1 h2 g0 g1 g2 g3 g4 g5 g6 g7 g8 g9 g10 g11 g12 g13 g14
