theorem GB_lt {w : Nat → Nat} {n t t' : Nat} (h : GB w n t) (ht : t' ≤ t) : GB w n t' := ⟨h.1, h.2.1, by have := h.2.2; omega⟩
theorem PG_0 {n : Nat} {w w' : Nat → Nat} {u : Nat} {V : Nat → Nat → Nat} {im : Option ((Nat → Nat) × (Nat → Nat))} {tp : Nat → Nat} {t : Nat} (p : PG n w u V im tp t) (g : GB w' n 0) (h0 : w 0 ≤ w' 0) : PG n w' u V im tp 0 :=
  ⟨g, fun j hj => GB_lt (p.2.1 j hj) (Nat.zero_le t), p.2.2.1, fun j hj => Nat.le_trans (p.2.2.2.1 j hj) h0, fun q hq => GB_lt (p.2.2.2.2.1 q hq) (Nat.zero_le t), Nat.zero_le _, p.2.2.2.2.2.2⟩
theorem LS_scr {f1 a1 f2 a2 : FI} {fr ar : FR} {N n : Nat} {w lg : Nat → Nat} {u : Nat} {V : Nat → Nat → Nat} {im : Option ((Nat → Nat) × (Nat → Nat))} {tp : Nat → Nat} {t : Nat} {fl pl rs : Int32} {w' lg' : Nat → Nat} {u' : Nat} {V' : Nat → Nat → Nat} {fl' pl' rs' : Int32} (cs : CLS f1 fr a1 ar N w' lg' (w' 0) u' V' im) (g3 : f1 (32 * 7 + 3) (rf 7 76) = nI 0) (g5 : f1 (32 * 7 + 5) (rf 7 76) = fl') (g6 : f1 (32 * 7 + 6) (rf 7 76) = pl') (gx : f1 (32 * 10 + 10) (rf 10 0) = rs') (r : RS f1 a1 w lg u V im tp t fl pl rs)
    (j4 : f2 (32 * 11 + 4) (rf 11 80) = nI u') (j5 : f2 (32 * 11 + 5) (rf 11 80) = f1 (32 * 11 + 5) (rf 11 80)) (j8 : f2 (32 * 11 + 8) (rf 11 80) = nI 0) (j10 : f2 (32 * 11 + 10) (rf 11 80) = nI 0) (j12 : f2 (32 * 11 + 12) (rf 11 80) = fl') (j13 : f2 (32 * 11 + 13) (rf 11 80) = pl') (j14 : f2 (32 * 11 + 14) (rf 11 80) = rs') (jq : ∀ g q, q ≠ rf 11 80 → f2 g q = f1 g q) (j81 : a2 (rf 32 81) = fun i => nI (w' i)) (ja : ∀ a, a ≠ rf 32 81 → a ≠ rf 32 82 → a ≠ rf 33 84 → a ≠ rf 34 85 → a ≠ rf 36 88 → a2 a = a1 a) (hU : UR (a2 (rf 33 84)) u' V') (hC : CHG (a2 (rf 34 85)) lg' (w' 0)) (p : PG n w' u' V' im tp 0) : LSt f2 fr a2 ar N n := by
  have ts : TS f1 a1 tp 0 fl' pl' rs' := ⟨g3, fun i hi => absurd hi (Nat.not_lt_zero i), g5, g6, gx⟩
  obtain ⟨r1, r2, r3, r4, r5, r6, r7, r8, r9, r10, r11, r12⟩ := r
  refine LS_mk cs ts (fun f x hx => jq f x (fun e => hx (by rw [e, rf_div (by decide)]))) (fun a ha => ja a (fun e => by rw [e, rf_div (by decide)] at ha; omega) (fun e => by rw [e, rf_div (by decide)] at ha; omega) (fun e => by rw [e, rf_div (by decide)] at ha; omega) (fun e => by rw [e, rf_div (by decide)] at ha; omega) (fun e => by rw [e, rf_div (by decide)] at ha; omega)) ⟨j81, j4, j8, j10, fun i hi => absurd hi (Nat.not_lt_zero i), hU, hC, fun q => j5.trans (r8 q), fun q hq => ?_, j12, j13, j14⟩ p
  rw [ja _ (by decide) (by decide) (by decide) (by decide) (by decide), ja _ (by decide) (by decide) (by decide) (by decide) (by decide), j5]
  exact r9 q hq
theorem lc_18 {L n k z : Nat} {xs : Nat → Int32} {fi : FI} {fr : FR} {ai : FI} {ar : FR} {N : Nat} {Q : EQ} (hL : 6 * n + 6 ≤ L) (hL2 : L ≤ 3072) (h : LSt fi fr ai ar N n) (kk : ∀ fi fr ai ar N, LSt fi fr ai ar N (n + 1) → EV (mL L xs) 11 k z 1538 [some (.ref 60), some (.ref (rf 10 0)), some (.ref (rf 11 80)), some (.int (nI (6 * n)))] [] fi fr ai ar N Q) : EV (mL L xs) 11 (64 + k) (10800 + z) 771 [some (.ref 60), some (.ref (rf 10 0)), some (.ref (rf 11 80)), some (.int (nI (6 * n)))] [] fi fr ai ar N Q := by
  obtain ⟨w, lg, u, V, im, tp, t, fl, pl, rs, cs, ts, r, p⟩ := h
  have gw := p.1.1
  have hb := GB_0 p.1 (show n < 512 by omega)
  have hu6 := p.2.2.2.2.2.2.2
  have hep := hb.1
  have ht4 := p.2.2.2.2.2.1
  have htp := p.2.2.2.2.2.2.1
  have hwj : ∀ j, j < 1000 → w (106 + j) + 82 ≤ 100000 := fun j hj => by have := hb.2 j hj; omega
  refine e_aload_n dL_law_771 rfl rfl ?_
  have hs1 : (parS tp t).1 ≤ t ∧ (parS tp t).2.1 ≤ 40 := psL_le 41 (s := par0 tp t) (skb_le tp (Nat.zero_le t)).2 (Nat.zero_le _)
  rcases par_rel (tp := tp) ht4 ai (ai (rf 36 88)) with hrp | hrf
  · skip
    obtain ⟨cl, cl2, h1, h2, h3⟩ := par_cl hrp.2.2.2.2.2.2.2.2.1
    have hev : evS cl (parS tp t).2.1 0 = evA (parA tp t ai) (parS tp t).2.1 := by
      have := evS_A (cl := cl) (A := parA tp t ai) (parS tp t).2.1 0 (fun i _ hi => ⟨(h1 i (by omega)).1, (h1 i (by omega)).2.1⟩)
      rw [Nat.zero_add] at this
      exact (Nat.zero_add _).symm.trans this
    have he6 : 6 * evS cl (parS tp t).2.1 0 ≤ t := by rw [hev]; exact Nat.le_trans hrp.2.2.2.2.2.2.2.2.2 hs1.1
    have hpb := p.1.2.2
    have hes : w 0 + evS cl (parS tp t).2.1 0 < 1999 := by omega
    have hfl := hrp.2.2.2.1
    have xa := fun lg => exR_arg (cl := cl) (cl' := cl2) (parS tp t).2.1 0 w lg (fun i _ hi => ⟨h3 i (by omega), (h1 i (by omega)).2.1⟩)
    have tr := exR_T (cl := cl) (parS tp t).2.1 0 gw (fun j _ hj => (h1 j (by omega)).2.1) hes (fun j hj => by have := hwj j hj; omega)
    refine e_callV (M' := mX10_script) (k' := 57) (z' := 8609) (k2 := 7 + k) (z2 := 2191 + z) (As := []) dL_law_772 ml_L_92 ok_X10_script (by decide) rfl im_X10_script se_X10_script (ct_X10_script (cl := cl) cs gw ts.1 ht4 htp ts.2.1 (fun _ => h1) (fun _ => hes) hwj) rfl rfl (Nat.le_of_ble_eq_true rfl) (by decide) ⟨by omega, by omega⟩ (Nat.le_of_ble_eq_true rfl) (fun r1 f1 g1 a1 q1 n1 hI => ?_)
    rw [if_pos hfl] at hI
    obtain ⟨i1, cs1, g3, g5, g6, gx, k1, k2⟩ := hI
    rw [i1]
    clear i1 r1
    dsimp only [Option.toList, List.cons_append, List.nil_append]
    have sm := cs1.2.1
    have r1 := RS_fx r k1 k2
    have e81 : mW a1 w = a1 := mW_self r1.1
    have e36 : a1 (rf 36 88) = ai (rf 36 88) := k2 _ (by decide) (by decide)
    have hc2 : (rpS tp t (ai (rf 36 88))).2.2.2.2.1 = (parS tp t).2.1 := hrp.2.1.symm
    refine e_aload_n dL_law_775 rfl rfl ?_
    have hR := ct_X11_script (fi := f1) (ai := a1) (ar := q1) (N := n1) (w := w) sm (tp := tp) (t := t) (u := u) (cl := cl2) r1.2.2.2.1 ht4 r1.2.2.2.2.1 htp gw r1.2.1 hu6 r1.2.2.1 (by rw [e36, hc2]; exact fun _ => h2) (by rw [e36, hc2]; exact fun _ => by rw [← (xa lg).2.2]; exact hes) hwj
    rw [e36, hc2, if_pos hrp.2.2.2.2.2.1, e81, ← (xa lg).1] at hR
    refine e_callV (M' := mX11_script) (k' := 0) (z' := 0) (k2 := 7 + k) (z2 := 2191 + z) (As := []) dL_law_776 ml_L_96 ok_X11_script (by decide) rfl im_X11_script se_X11_script (hR) rfl rfl (Nat.le_of_ble_eq_true rfl) (by decide) ⟨by omega, by omega⟩ (Nat.le_of_ble_eq_true rfl) (fun r2 f2 g2 a2 q2 n2 hJ => ?_)
    obtain ⟨j1, j2, j3, j4, u4, u5, u8, u10, u12, u13, u14, jq, j81, jU, ja, jP⟩ := hJ
    rw [j1, j2, j3, j4]
    clear j1 j2 j3 j4 r2 g2 q2 n2
    dsimp only [Option.toList, List.cons_append, List.nil_append]
    have hu1 : (if 0 < (exR cl (parS tp t).2.1 0 w).1 then u1 u else u) = acU (decide (0 < (exR cl (parS tp t).2.1 0 w).1)) u := by
      rw [u1_e hu6]
      by_cases hm : 0 < (exR cl (parS tp t).2.1 0 w).1
      · rw [if_pos hm, decide_eq_true hm]; rfl
      · rw [if_neg hm, decide_eq_false hm]; rfl
    have hUR : UR (a2 (rf 33 84)) (acU (decide (0 < (exR cl (parS tp t).2.1 0 w).1)) u) (acV (decide (0 < (exR cl (parS tp t).2.1 0 w).1)) u V w) := by
      rw [jU]
      by_cases hm : 0 < (exR cl (parS tp t).2.1 0 w).1
      · rw [if_pos hm, decide_eq_true hm]
        exact UR_push r1.2.2.2.2.2.1 hu6 (fun k hk => if_pos ⟨Nat.zero_le k, by omega⟩)
      · rw [if_neg hm, decide_eq_false hm]
        exact r1.2.2.2.2.2.1
    have hls : LSt f2 g1 a2 q1 n1 (n + 1) := LS_scr cs1 g3 g5 g6 gx r1 (u4.trans (by rw [hu1])) u5 u8 u10 (u12.trans (hrp.2.2.2.2.2.2.1.trans hfl.symm)) (u13.trans (hrp.2.2.2.2.2.2.2.1.trans hrp.2.2.2.2.1.symm)) u14 jq j81 ja hUR (by have := jP lg r1.2.2.2.2.2.2.1; rw [← (xa lg).2.1] at this; exact this) (PG_0 (PG_act p (w' := w) (TR_rf gw)) ⟨tr.1.1, fun k hk => by have := tr.1.2.2.2 k hk; have := p.1.2.1 k hk; omega, by have := tr.1.2.2.1; omega⟩ tr.1.2.1)
    refine e_icmp_eq (tgt := 1538) dL_law_779 (by decide) (fun _ => ?_) (fun hne => absurd rfl hne)
    exact e_wk (by omega) (by omega) (kk _ _ _ _ _ hls)
  · skip
    have hfl := hrf.1
    refine e_callV (M' := mX10_script) (k' := 57) (z' := 8609) (k2 := 7 + k) (z2 := 2191 + z) (As := []) dL_law_772 ml_L_92 ok_X10_script (by decide) rfl im_X10_script se_X10_script (ct_X10_script (cl := fun _ => (0, 0, 0, 0)) cs gw ts.1 ht4 htp ts.2.1 (fun q => absurd q hfl) (fun q => absurd q hfl) hwj) rfl rfl (Nat.le_of_ble_eq_true rfl) (by decide) ⟨by omega, by omega⟩ (Nat.le_of_ble_eq_true rfl) (fun r1 f1 g1 a1 q1 n1 hI => ?_)
    rw [if_neg hfl] at hI
    obtain ⟨i1, cs1, g3, g5, g6, gx, k1, k2⟩ := hI
    rw [i1]
    clear i1 r1
    dsimp only [Option.toList, List.cons_append, List.nil_append]
    have sm := cs1.2.1
    have r1 := RS_fx r k1 k2
    have e81 : mW a1 w = a1 := mW_self r1.1
    have e36 : a1 (rf 36 88) = ai (rf 36 88) := k2 _ (by decide) (by decide)
    refine e_aload_n dL_law_775 rfl rfl ?_
    have hwr : ¬ (rpS tp t (ai (rf 36 88))).2.1 = false := by rw [hrf.2.1]; exact Bool.noConfusion
    have hR := ct_X11_script (fi := f1) (ai := a1) (ar := q1) (N := n1) (w := w) sm (tp := tp) (t := t) (u := u) (cl := fun _ => (0, 0, 0, 0)) r1.2.2.2.1 ht4 r1.2.2.2.2.1 htp gw r1.2.1 hu6 r1.2.2.1 (by rw [e36]; exact fun q => absurd q hwr) (by rw [e36]; exact fun q => absurd q hwr) hwj
    rw [e36, if_neg hwr, e81] at hR
    refine e_callV (M' := mX11_script) (k' := 0) (z' := 0) (k2 := 7 + k) (z2 := 2191 + z) (As := []) dL_law_776 ml_L_96 ok_X11_script (by decide) rfl im_X11_script se_X11_script (hR) rfl rfl (Nat.le_of_ble_eq_true rfl) (by decide) ⟨by omega, by omega⟩ (Nat.le_of_ble_eq_true rfl) (fun r2 f2 g2 a2 q2 n2 hJ => ?_)
    obtain ⟨j1, j2, j3, j4, u4, u5, u8, u10, u12, u13, u14, jq, j81, jU, ja, jP⟩ := hJ
    rw [j1, j2, j3, j4]
    clear j1 j2 j3 j4 r2 g2 q2 n2
    dsimp only [Option.toList, List.cons_append, List.nil_append]
    have hls : LSt f2 g1 a2 q1 n1 (n + 1) := LS_scr cs1 g3 g5 g6 gx r1 u4 u5 u8 u10 (u12.trans hrf.2.2.1) (u13.trans hrf.2.2.2) u14 jq j81 ja (by rw [jU]; exact r1.2.2.2.2.2.1) (by rw [jP]; exact r1.2.2.2.2.2.2.1) (PG_0 (PG_q p) (GB_lt (GB_mo p.1 (by omega : t ≤ t + 20)) (Nat.zero_le _)) (Nat.le_refl _))
    refine e_icmp_eq (tgt := 1538) dL_law_779 (by decide) (fun _ => ?_) (fun hne => absurd rfl hne)
    exact e_wk (by omega) (by omega) (kk _ _ _ _ _ hls)
