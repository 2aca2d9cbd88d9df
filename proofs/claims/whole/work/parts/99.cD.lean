theorem lc_4 {L n k z : Nat} {xs : Nat → Int32} {fi : FI} {fr : FR} {ai : FI} {ar : FR} {N : Nat} {Q : EQ} (hL : 6 * n + 6 ≤ L) (hL2 : L ≤ 3072) (h : LSt fi fr ai ar N n) (kk : ∀ fi fr ai ar N, LSt fi fr ai ar N (n + 1) → EV (mL L xs) 11 k z 1538 [some (.ref 60), some (.ref (rf 10 0)), some (.ref (rf 11 80)), some (.int (nI (6 * n)))] [] fi fr ai ar N Q) : EV (mL L xs) 11 (64 + k) (10800 + z) 378 [some (.ref 60), some (.ref (rf 10 0)), some (.ref (rf 11 80)), some (.int (nI (6 * n)))] [] fi fr ai ar N Q := by
  obtain ⟨w, lg, u, V, im, tp, t, fl, pl, rs, cs, ts, r, p⟩ := h
  have gw := p.1.1
  have hb := GB_0 p.1 (show n < 512 by omega)
  have hu6 := p.2.2.2.2.2.2.2
  have hep := hb.1
  refine e_aload_n dL_law_378 rfl rfl ?_
  refine e_aload_n dL_law_379 rfl rfl ?_
  refine e_iload_n dL_law_380 rfl rfl ?_
  refine e_iconst (v := nI 1) dL_law_381 rfl ?_
  refine n_iadd dL_law_382 ?_
  refine e_sl dL_law_383 (show 6 * n + 1 < L by omega) hL2 ?_
  refine e_aload_n dL_law_384 rfl rfl ?_
  refine e_iload_n dL_law_385 rfl rfl ?_
  refine e_iconst (v := nI 2) dL_law_386 rfl ?_
  refine n_iadd dL_law_387 ?_
  refine e_sl dL_law_388 (show 6 * n + 2 < L by omega) hL2 ?_
  have tr := T_spt gw (show w 0 < 1999 by omega) (nmO_i gw (xs (6 * n + 1))) (xs (6 * n + 2))
  refine e_callV (M' := mX10_split) (k' := 57) (z' := 8609) (k2 := 7 + k) (z2 := 2191 + z) (As := [_, _]) dL_law_389 ml_L_32 ok_X10_split (by decide) rfl im_X10_split se_X10_split (ct_X10_split cs gw.1 (by omega) (xs (6 * n + 1)) (xs (6 * n + 2)) (tr3 tr)) rfl rfl (Nat.le_of_ble_eq_true rfl) (by decide) ⟨by omega, by omega⟩ (Nat.le_of_ble_eq_true rfl) (fun r1 f1 g1 a1 q1 n1 hI => ?_)
  obtain ⟨i1, cs1, fx⟩ := hI
  rw [i1]
  clear i1 r1
  dsimp only [Option.toList, List.cons_append, List.nil_append]
  have sm := cs1.2.1
  have r1 : RS f1 a1 w lg u V im tp t fl pl rs := RS_fx r (fun f r x y => fx.1 f r (by omega)) (fun a x y => fx.2 a (by omega))
  have e81 : mW a1 w = a1 := mW_self r1.1
  have hsc : f1 (32 * 11 + 8) (rf 11 80) = bI false := r1.2.2.1
  rw [spt_b gw] at cs1
  refine e_aload_n dL_law_392 rfl rfl ?_
  refine e_aload_n dL_law_393 rfl rfl ?_
  refine e_iload_n dL_law_394 rfl rfl ?_
  refine e_iconst (v := nI 1) dL_law_395 rfl ?_
  refine n_iadd dL_law_396 ?_
  refine e_sl dL_law_397 (show 6 * n + 1 < L by omega) hL2 ?_
  refine e_aload_n dL_law_398 rfl rfl ?_
  refine e_iload_n dL_law_399 rfl rfl ?_
  refine e_iconst (v := nI 2) dL_law_400 rfl ?_
  refine n_iadd dL_law_401 ?_
  refine e_sl dL_law_402 (show 6 * n + 2 < L by omega) hL2 ?_
  have hR := ct_X11_split (fi := f1) (ai := a1) (ar := q1) (N := n1) (w := w) sm gw.1 (xs (6 * n + 1)) (xs (6 * n + 2)) (u := u) r1.2.1 hu6 (sc := false) hsc
  unfold sptF at hR
  rw [e81] at hR
  refine e_callV (M' := mX11_split) (k' := 0) (z' := 0) (k2 := 7 + k) (z2 := 2191 + z) (As := [_, _]) dL_law_403 ml_L_35 ok_X11_split (by decide) rfl im_X11_split se_X11_split (hR) rfl rfl (Nat.le_of_ble_eq_true rfl) (by decide) ⟨by omega, by omega⟩ (Nat.le_of_ble_eq_true rfl) (fun r2 f2 g2 a2 q2 n2 hJ => ?_)
  obtain ⟨j1, j2, j3, j4, j5, j6⟩ := hJ
  rw [j1, j2, j3, j4, j5, j6]
  clear j1 j2 j3 j4 j5 j6 r2 f2 g2 a2 q2 n2
  dsimp only [Option.toList, List.cons_append, List.nil_append]
  have hls := LS_act (b := (spcB w (nmO w (xs (6 * n + 1))) (xs (6 * n + 2)))) (A := (sptA a1 u false w (nmO w (xs (6 * n + 1))) (xs (6 * n + 2)))) cs1 (Nat.le_refl _) fx ts r p tr (by decide) (by decide) (C_spt gw (by omega) r1.2.2.2.2.2.2.1 (nmO_i gw (xs (6 * n + 1))) (xs (6 * n + 2))).2 (C_spt gw (by omega) r1.2.2.2.2.2.2.1 (nmO_i gw (xs (6 * n + 1))) (xs (6 * n + 2))).1
  refine e_icmp_eq (tgt := 1538) dL_law_406 (by decide) (fun _ => ?_) (fun hne => absurd rfl hne)
  exact e_wk (by omega) (by omega) (kk _ _ _ _ _ hls)
theorem lc_5 {L n k z : Nat} {xs : Nat → Int32} {fi : FI} {fr : FR} {ai : FI} {ar : FR} {N : Nat} {Q : EQ} (hL : 6 * n + 6 ≤ L) (hL2 : L ≤ 3072) (h : LSt fi fr ai ar N n) (kk : ∀ fi fr ai ar N, LSt fi fr ai ar N (n + 1) → EV (mL L xs) 11 k z 1538 [some (.ref 60), some (.ref (rf 10 0)), some (.ref (rf 11 80)), some (.int (nI (6 * n)))] [] fi fr ai ar N Q) : EV (mL L xs) 11 (64 + k) (10800 + z) 411 [some (.ref 60), some (.ref (rf 10 0)), some (.ref (rf 11 80)), some (.int (nI (6 * n)))] [] fi fr ai ar N Q := by
  obtain ⟨w, lg, u, V, im, tp, t, fl, pl, rs, cs, ts, r, p⟩ := h
  have gw := p.1.1
  have hb := GB_0 p.1 (show n < 512 by omega)
  have hu6 := p.2.2.2.2.2.2.2
  have hep := hb.1
  refine e_aload_n dL_law_411 rfl rfl ?_
  refine e_aload_n dL_law_412 rfl rfl ?_
  refine e_iload_n dL_law_413 rfl rfl ?_
  refine e_iconst (v := nI 1) dL_law_414 rfl ?_
  refine n_iadd dL_law_415 ?_
  refine e_sl dL_law_416 (show 6 * n + 1 < L by omega) hL2 ?_
  have tr := T_mdl gw (show w 0 < 1999 by omega) (xs (6 * n + 1))
  refine e_callV (M' := mX10_middle) (k' := 57) (z' := 8609) (k2 := 7 + k) (z2 := 2191 + z) (As := [_]) dL_law_417 ml_L_36 ok_X10_middle (by decide) rfl im_X10_middle se_X10_middle (ct_X10_middle cs gw.1 (by omega) (xs (6 * n + 1)) (tr3 tr)) rfl rfl (Nat.le_of_ble_eq_true rfl) (by decide) ⟨by omega, by omega⟩ (Nat.le_of_ble_eq_true rfl) (fun r1 f1 g1 a1 q1 n1 hI => ?_)
  obtain ⟨i1, cs1, fx⟩ := hI
  rw [i1]
  clear i1 r1
  dsimp only [Option.toList, List.cons_append, List.nil_append]
  have sm := cs1.2.1
  have r1 : RS f1 a1 w lg u V im tp t fl pl rs := RS_fx r (fun f r x y => fx.1 f r (by omega)) (fun a x y => fx.2 a (by omega))
  have e81 : mW a1 w = a1 := mW_self r1.1
  have hsc : f1 (32 * 11 + 8) (rf 11 80) = bI false := r1.2.2.1
  rw [mdl_b gw] at cs1
  refine e_aload_n dL_law_420 rfl rfl ?_
  refine e_aload_n dL_law_421 rfl rfl ?_
  refine e_iload_n dL_law_422 rfl rfl ?_
  refine e_iconst (v := nI 1) dL_law_423 rfl ?_
  refine n_iadd dL_law_424 ?_
  refine e_sl dL_law_425 (show 6 * n + 1 < L by omega) hL2 ?_
  have hR := ct_X11_middle (fi := f1) (ai := a1) (ar := q1) (N := n1) (w := w) sm gw.1 (xs (6 * n + 1)) (u := u) r1.2.1 hu6 (sc := false) hsc
  rw [mdlF_b] at hR
  rw [e81] at hR
  refine e_callV (M' := mX11_middle) (k' := 0) (z' := 0) (k2 := 7 + k) (z2 := 2191 + z) (As := [_]) dL_law_426 ml_L_39 ok_X11_middle (by decide) rfl im_X11_middle se_X11_middle (hR) rfl rfl (Nat.le_of_ble_eq_true rfl) (by decide) ⟨by omega, by omega⟩ (Nat.le_of_ble_eq_true rfl) (fun r2 f2 g2 a2 q2 n2 hJ => ?_)
  obtain ⟨j1, j2, j3, j4, j5, j6⟩ := hJ
  rw [j1, j2, j3, j4, j5, j6]
  clear j1 j2 j3 j4 j5 j6 r2 f2 g2 a2 q2 n2
  dsimp only [Option.toList, List.cons_append, List.nil_append]
  have hls := LS_act (b := (mdB w (xs (6 * n + 1)))) (A := (mdlA a1 u false w (xs (6 * n + 1)))) cs1 (Nat.le_refl _) fx ts r p tr (by decide) (by decide) (C_mdl gw (by omega) r1.2.2.2.2.2.2.1 (xs (6 * n + 1))).2 (C_mdl gw (by omega) r1.2.2.2.2.2.2.1 (xs (6 * n + 1))).1
  refine e_icmp_eq (tgt := 1538) dL_law_429 (by decide) (fun _ => ?_) (fun hne => absurd rfl hne)
  exact e_wk (by omega) (by omega) (kk _ _ _ _ _ hls)
theorem lc_6 {L n k z : Nat} {xs : Nat → Int32} {fi : FI} {fr : FR} {ai : FI} {ar : FR} {N : Nat} {Q : EQ} (hL : 6 * n + 6 ≤ L) (hL2 : L ≤ 3072) (h : LSt fi fr ai ar N n) (kk : ∀ fi fr ai ar N, LSt fi fr ai ar N (n + 1) → EV (mL L xs) 11 k z 1538 [some (.ref 60), some (.ref (rf 10 0)), some (.ref (rf 11 80)), some (.int (nI (6 * n)))] [] fi fr ai ar N Q) : EV (mL L xs) 11 (64 + k) (10800 + z) 434 [some (.ref 60), some (.ref (rf 10 0)), some (.ref (rf 11 80)), some (.int (nI (6 * n)))] [] fi fr ai ar N Q := by
  obtain ⟨w, lg, u, V, im, tp, t, fl, pl, rs, cs, ts, r, p⟩ := h
  have gw := p.1.1
  have hb := GB_0 p.1 (show n < 512 by omega)
  have hu6 := p.2.2.2.2.2.2.2
  have hep := hb.1
  refine e_aload_n dL_law_434 rfl rfl ?_
  refine e_aload_n dL_law_435 rfl rfl ?_
  refine e_iload_n dL_law_436 rfl rfl ?_
  refine e_iconst (v := nI 1) dL_law_437 rfl ?_
  refine n_iadd dL_law_438 ?_
  refine e_sl dL_law_439 (show 6 * n + 1 < L by omega) hL2 ?_
  have tr := T_jon gw (show w 0 < 1999 by omega) (nmO_i gw (xs (6 * n + 1)))
  refine e_callV (M' := mX10_join) (k' := 57) (z' := 8609) (k2 := 7 + k) (z2 := 2191 + z) (As := [_]) dL_law_440 ml_L_40 ok_X10_join (by decide) rfl im_X10_join se_X10_join (ct_X10_join cs gw.1 (by omega) (xs (6 * n + 1)) (tr3 tr)) rfl rfl (Nat.le_of_ble_eq_true rfl) (by decide) ⟨by omega, by omega⟩ (Nat.le_of_ble_eq_true rfl) (fun r1 f1 g1 a1 q1 n1 hI => ?_)
  obtain ⟨i1, cs1, fx⟩ := hI
  rw [i1]
  clear i1 r1
  dsimp only [Option.toList, List.cons_append, List.nil_append]
  have sm := cs1.2.1
  have r1 : RS f1 a1 w lg u V im tp t fl pl rs := RS_fx r (fun f r x y => fx.1 f r (by omega)) (fun a x y => fx.2 a (by omega))
  have e81 : mW a1 w = a1 := mW_self r1.1
  have hsc : f1 (32 * 11 + 8) (rf 11 80) = bI false := r1.2.2.1
  rw [jon_b gw] at cs1
  refine e_aload_n dL_law_443 rfl rfl ?_
  refine e_aload_n dL_law_444 rfl rfl ?_
  refine e_iload_n dL_law_445 rfl rfl ?_
  refine e_iconst (v := nI 1) dL_law_446 rfl ?_
  refine n_iadd dL_law_447 ?_
  refine e_sl dL_law_448 (show 6 * n + 1 < L by omega) hL2 ?_
  have hR := ct_X11_join (fi := f1) (ai := a1) (ar := q1) (N := n1) (w := w) sm gw.1 (xs (6 * n + 1)) (u := u) r1.2.1 hu6 (sc := false) hsc
  unfold jonF at hR
  rw [e81] at hR
  refine e_callV (M' := mX11_join) (k' := 0) (z' := 0) (k2 := 7 + k) (z2 := 2191 + z) (As := [_]) dL_law_449 ml_L_43 ok_X11_join (by decide) rfl im_X11_join se_X11_join (hR) rfl rfl (Nat.le_of_ble_eq_true rfl) (by decide) ⟨by omega, by omega⟩ (Nat.le_of_ble_eq_true rfl) (fun r2 f2 g2 a2 q2 n2 hJ => ?_)
  obtain ⟨j1, j2, j3, j4, j5, j6⟩ := hJ
  rw [j1, j2, j3, j4, j5, j6]
  clear j1 j2 j3 j4 j5 j6 r2 f2 g2 a2 q2 n2
  dsimp only [Option.toList, List.cons_append, List.nil_append]
  have hls := LS_act (b := (joiB w (nmO w (xs (6 * n + 1))))) (A := (jonA a1 u false w (nmO w (xs (6 * n + 1))))) cs1 (Nat.le_refl _) fx ts r p tr (by decide) (by decide) (C_jon gw (by omega) r1.2.2.2.2.2.2.1 (nmO_i gw (xs (6 * n + 1)))).2 (C_jon gw (by omega) r1.2.2.2.2.2.2.1 (nmO_i gw (xs (6 * n + 1)))).1
  refine e_icmp_eq (tgt := 1538) dL_law_452 (by decide) (fun _ => ?_) (fun hne => absurd rfl hne)
  exact e_wk (by omega) (by omega) (kk _ _ _ _ _ hls)
theorem lc_7 {L n k z : Nat} {xs : Nat → Int32} {fi : FI} {fr : FR} {ai : FI} {ar : FR} {N : Nat} {Q : EQ} (hL : 6 * n + 6 ≤ L) (hL2 : L ≤ 3072) (h : LSt fi fr ai ar N n) (kk : ∀ fi fr ai ar N, LSt fi fr ai ar N (n + 1) → EV (mL L xs) 11 k z 1538 [some (.ref 60), some (.ref (rf 10 0)), some (.ref (rf 11 80)), some (.int (nI (6 * n)))] [] fi fr ai ar N Q) : EV (mL L xs) 11 (64 + k) (10800 + z) 457 [some (.ref 60), some (.ref (rf 10 0)), some (.ref (rf 11 80)), some (.int (nI (6 * n)))] [] fi fr ai ar N Q := by
  obtain ⟨w, lg, u, V, im, tp, t, fl, pl, rs, cs, ts, r, p⟩ := h
  have gw := p.1.1
  have hb := GB_0 p.1 (show n < 512 by omega)
  have hu6 := p.2.2.2.2.2.2.2
  have hep := hb.1
  refine e_aload_n dL_law_457 rfl rfl ?_
  refine e_aload_n dL_law_458 rfl rfl ?_
  refine e_iload_n dL_law_459 rfl rfl ?_
  refine e_iconst (v := nI 1) dL_law_460 rfl ?_
  refine n_iadd dL_law_461 ?_
  refine e_sl dL_law_462 (show 6 * n + 1 < L by omega) hL2 ?_
  refine e_aload_n dL_law_463 rfl rfl ?_
  refine e_iload_n dL_law_464 rfl rfl ?_
  refine e_iconst (v := nI 2) dL_law_465 rfl ?_
  refine n_iadd dL_law_466 ?_
  refine e_sl dL_law_467 (show 6 * n + 2 < L by omega) hL2 ?_
  have tr := T_mv gw (nmO_i gw (xs (6 * n + 1))) (xs (6 * n + 2))
  refine e_callV (M' := mX10_move) (k' := 57) (z' := 8609) (k2 := 7 + k) (z2 := 2191 + z) (As := [_, _]) dL_law_468 ml_L_44 ok_X10_move (by decide) rfl im_X10_move se_X10_move (ct_X10_move cs gw.1 gw.2.2 (xs (6 * n + 1)) (xs (6 * n + 2)) (tr3 tr)) rfl rfl (Nat.le_of_ble_eq_true rfl) (by decide) ⟨by omega, by omega⟩ (Nat.le_of_ble_eq_true rfl) (fun r1 f1 g1 a1 q1 n1 hI => ?_)
  obtain ⟨i1, cs1, fx⟩ := hI
  rw [i1]
  clear i1 r1
  dsimp only [Option.toList, List.cons_append, List.nil_append]
  have sm := cs1.2.1
  have r1 : RS f1 a1 w lg u V im tp t fl pl rs := RS_fx r (fun f r x y => fx.1 f r (by omega)) (fun a x y => fx.2 a (by omega))
  have e81 : mW a1 w = a1 := mW_self r1.1
  have hsc : f1 (32 * 11 + 8) (rf 11 80) = bI false := r1.2.2.1
  rw [mv_b gw] at cs1
  refine e_aload_n dL_law_471 rfl rfl ?_
  refine e_aload_n dL_law_472 rfl rfl ?_
  refine e_iload_n dL_law_473 rfl rfl ?_
  refine e_iconst (v := nI 1) dL_law_474 rfl ?_
  refine n_iadd dL_law_475 ?_
  refine e_sl dL_law_476 (show 6 * n + 1 < L by omega) hL2 ?_
  refine e_aload_n dL_law_477 rfl rfl ?_
  refine e_iload_n dL_law_478 rfl rfl ?_
  refine e_iconst (v := nI 2) dL_law_479 rfl ?_
  refine n_iadd dL_law_480 ?_
  refine e_sl dL_law_481 (show 6 * n + 2 < L by omega) hL2 ?_
  have hR := ct_X11_move (fi := f1) (ai := a1) (ar := q1) (N := n1) (w := w) sm gw.1 (xs (6 * n + 1)) (xs (6 * n + 2)) (u := u) r1.2.1 hu6 (sc := false) hsc
  unfold mvF at hR
  rw [e81] at hR
  refine e_callV (M' := mX11_move) (k' := 0) (z' := 0) (k2 := 7 + k) (z2 := 2191 + z) (As := [_, _]) dL_law_482 ml_L_47 ok_X11_move (by decide) rfl im_X11_move se_X11_move (hR) rfl rfl (Nat.le_of_ble_eq_true rfl) (by decide) ⟨by omega, by omega⟩ (Nat.le_of_ble_eq_true rfl) (fun r2 f2 g2 a2 q2 n2 hJ => ?_)
  obtain ⟨j1, j2, j3, j4, j5, j6⟩ := hJ
  rw [j1, j2, j3, j4, j5, j6]
  clear j1 j2 j3 j4 j5 j6 r2 f2 g2 a2 q2 n2
  dsimp only [Option.toList, List.cons_append, List.nil_append]
  have hls := LS_act (b := (mvB w (nmO w (xs (6 * n + 1))) (xs (6 * n + 2)))) (A := (mvA a1 u false w (nmO w (xs (6 * n + 1))) (xs (6 * n + 2)))) cs1 tr.2.2.1 fx ts r p tr (by decide) (by decide) (fun a _ => if_app _ _ a) (CHG_le (by unfold mvA; rw [if_app, actA_o (by decide), if_same2]; exact r1.2.2.2.2.2.2.1) tr.2.2.1)
  refine e_icmp_eq (tgt := 1538) dL_law_485 (by decide) (fun _ => ?_) (fun hne => absurd rfl hne)
  exact e_wk (by omega) (by omega) (kk _ _ _ _ _ hls)
theorem lc_8 {L n k z : Nat} {xs : Nat → Int32} {fi : FI} {fr : FR} {ai : FI} {ar : FR} {N : Nat} {Q : EQ} (hL : 6 * n + 6 ≤ L) (hL2 : L ≤ 3072) (h : LSt fi fr ai ar N n) (kk : ∀ fi fr ai ar N, LSt fi fr ai ar N (n + 1) → EV (mL L xs) 11 k z 1538 [some (.ref 60), some (.ref (rf 10 0)), some (.ref (rf 11 80)), some (.int (nI (6 * n)))] [] fi fr ai ar N Q) : EV (mL L xs) 11 (64 + k) (10800 + z) 490 [some (.ref 60), some (.ref (rf 10 0)), some (.ref (rf 11 80)), some (.int (nI (6 * n)))] [] fi fr ai ar N Q := by
  obtain ⟨w, lg, u, V, im, tp, t, fl, pl, rs, cs, ts, r, p⟩ := h
  have gw := p.1.1
  have hb := GB_0 p.1 (show n < 512 by omega)
  have hu6 := p.2.2.2.2.2.2.2
  have hep := hb.1
  refine e_aload_n dL_law_490 rfl rfl ?_
  refine e_aload_n dL_law_491 rfl rfl ?_
  refine e_iload_n dL_law_492 rfl rfl ?_
  refine e_iconst (v := nI 1) dL_law_493 rfl ?_
  refine n_iadd dL_law_494 ?_
  refine e_sl dL_law_495 (show 6 * n + 1 < L by omega) hL2 ?_
  refine e_aload_n dL_law_496 rfl rfl ?_
  refine e_iload_n dL_law_497 rfl rfl ?_
  refine e_iconst (v := nI 2) dL_law_498 rfl ?_
  refine n_iadd dL_law_499 ?_
  refine e_sl dL_law_500 (show 6 * n + 2 < L by omega) hL2 ?_
  have tr := T_stp gw (show w 0 < 1999 by omega) (xs (6 * n + 1)) (xs (6 * n + 2))
  refine e_callV (M' := mX10_step) (k' := 57) (z' := 8609) (k2 := 7 + k) (z2 := 2191 + z) (As := [_, _]) dL_law_501 ml_L_48 ok_X10_step (by decide) rfl im_X10_step se_X10_step (ct_X10_step cs gw.1 gw.2.1 (by omega) (xs (6 * n + 1)) (xs (6 * n + 2)) (tr3 tr)) rfl rfl (Nat.le_of_ble_eq_true rfl) (by decide) ⟨by omega, by omega⟩ (Nat.le_of_ble_eq_true rfl) (fun r1 f1 g1 a1 q1 n1 hI => ?_)
  obtain ⟨i1, cs1, fx⟩ := hI
  rw [i1]
  clear i1 r1
  dsimp only [Option.toList, List.cons_append, List.nil_append]
  have sm := cs1.2.1
  have r1 : RS f1 a1 w lg u V im tp t fl pl rs := RS_fx r (fun f r x y => fx.1 f r (by omega)) (fun a x y => fx.2 a (by omega))
  have e81 : mW a1 w = a1 := mW_self r1.1
  have hsc : f1 (32 * 11 + 8) (rf 11 80) = bI false := r1.2.2.1
  rw [stp_b gw (show w 0 < 1999 by omega)] at cs1
  refine e_aload_n dL_law_504 rfl rfl ?_
  refine e_aload_n dL_law_505 rfl rfl ?_
  refine e_iload_n dL_law_506 rfl rfl ?_
  refine e_iconst (v := nI 1) dL_law_507 rfl ?_
  refine n_iadd dL_law_508 ?_
  refine e_sl dL_law_509 (show 6 * n + 1 < L by omega) hL2 ?_
  refine e_aload_n dL_law_510 rfl rfl ?_
  refine e_iload_n dL_law_511 rfl rfl ?_
  refine e_iconst (v := nI 2) dL_law_512 rfl ?_
  refine n_iadd dL_law_513 ?_
  refine e_sl dL_law_514 (show 6 * n + 2 < L by omega) hL2 ?_
  have hR := ct_X11_step (fi := f1) (ai := a1) (ar := q1) (N := n1) (w := w) sm gw.1 (xs (6 * n + 1)) (xs (6 * n + 2)) (u := u) r1.2.1 hu6 (sc := false) hsc (by omega)
  unfold stpR at hR
  rw [stS_1] at hR
  rw [if_mW] at hR
  rw [e81] at hR
  refine e_callV (M' := mX11_step) (k' := 0) (z' := 0) (k2 := 7 + k) (z2 := 2191 + z) (As := [_, _]) dL_law_515 ml_L_51 ok_X11_step (by decide) rfl im_X11_step se_X11_step (hR) rfl rfl (Nat.le_of_ble_eq_true rfl) (by decide) ⟨by omega, by omega⟩ (Nat.le_of_ble_eq_true rfl) (fun r2 f2 g2 a2 q2 n2 hJ => ?_)
  obtain ⟨j1, j2, j3, j4, j5, j6⟩ := hJ
  rw [j1, j2, j3, j4, j5, j6]
  clear j1 j2 j3 j4 j5 j6 r2 f2 g2 a2 q2 n2
  dsimp only [Option.toList, List.cons_append, List.nil_append]
  have hls := LS_act (b := (stpB w (xs (6 * n + 1)) (xs (6 * n + 2)))) (A := (if stpB w (xs (6 * n + 1)) (xs (6 * n + 2)) then (stS w (actA a1 u false w) (xs (6 * n + 1)).toNatClampNeg (xs (6 * n + 2)).toNatClampNeg).2 else a1)) cs1 (Nat.le_refl _) fx ts r p tr (by decide) (by decide) (fun a ha => st_hA ha) (st_hC gw (show w 0 < 1999 by omega) r1.2.2.2.2.2.2.1 (xs (6 * n + 1)) (xs (6 * n + 2)))
  refine e_icmp_eq (tgt := 1538) dL_law_518 (by decide) (fun _ => ?_) (fun hne => absurd rfl hne)
  exact e_wk (by omega) (by omega) (kk _ _ _ _ _ hls)
theorem lc_12 {L n k z : Nat} {xs : Nat → Int32} {fi : FI} {fr : FR} {ai : FI} {ar : FR} {N : Nat} {Q : EQ} (hL : 6 * n + 6 ≤ L) (hL2 : L ≤ 3072) (h : LSt fi fr ai ar N n) (kk : ∀ fi fr ai ar N, LSt fi fr ai ar N (n + 1) → EV (mL L xs) 11 k z 1538 [some (.ref 60), some (.ref (rf 10 0)), some (.ref (rf 11 80)), some (.int (nI (6 * n)))] [] fi fr ai ar N Q) : EV (mL L xs) 11 (64 + k) (10800 + z) 602 [some (.ref 60), some (.ref (rf 10 0)), some (.ref (rf 11 80)), some (.int (nI (6 * n)))] [] fi fr ai ar N Q := by
  obtain ⟨w, lg, u, V, im, tp, t, fl, pl, rs, cs, ts, r, p⟩ := h
  have gw := p.1.1
  have hb := GB_0 p.1 (show n < 512 by omega)
  have hu6 := p.2.2.2.2.2.2.2
  have hep := hb.1
  refine e_aload_n dL_law_602 rfl rfl ?_
  refine e_aload_n dL_law_603 rfl rfl ?_
  refine e_iload_n dL_law_604 rfl rfl ?_
  refine e_iconst (v := nI 1) dL_law_605 rfl ?_
  refine n_iadd dL_law_606 ?_
  refine e_sl dL_law_607 (show 6 * n + 1 < L by omega) hL2 ?_
  have tr := T_rec gw (xs (6 * n + 1))
  refine e_callV (M' := mX10_recover) (k' := 57) (z' := 8609) (k2 := 7 + k) (z2 := 2191 + z) (As := [_]) dL_law_608 ml_L_66 ok_X10_recover (by decide) rfl im_X10_recover se_X10_recover (ct_X10_recover cs gw.1 gw.2.1 (xs (6 * n + 1)) (tr3 tr)) rfl rfl (Nat.le_of_ble_eq_true rfl) (by decide) ⟨by omega, by omega⟩ (Nat.le_of_ble_eq_true rfl) (fun r1 f1 g1 a1 q1 n1 hI => ?_)
  obtain ⟨i1, cs1, fx⟩ := hI
  rw [i1]
  clear i1 r1
  dsimp only [Option.toList, List.cons_append, List.nil_append]
  have sm := cs1.2.1
  have r1 : RS f1 a1 w lg u V im tp t fl pl rs := RS_fx r (fun f r x y => fx.1 f r (by omega)) (fun a x y => fx.2 a (by omega))
  have e81 : mW a1 w = a1 := mW_self r1.1
  have hsc : f1 (32 * 11 + 8) (rf 11 80) = bI false := r1.2.2.1
  rw [rec_b] at cs1
  refine e_aload_n dL_law_611 rfl rfl ?_
  refine e_aload_n dL_law_612 rfl rfl ?_
  refine e_iload_n dL_law_613 rfl rfl ?_
  refine e_iconst (v := nI 1) dL_law_614 rfl ?_
  refine n_iadd dL_law_615 ?_
  refine e_sl dL_law_616 (show 6 * n + 1 < L by omega) hL2 ?_
  have hR := ct_X11_recover (fi := f1) (ai := a1) (ar := q1) (N := n1) (w := w) sm gw.1 (xs (6 * n + 1)) (u := u) r1.2.1 hu6 (sc := false) hsc
  rw [e81] at hR
  refine e_callV (M' := mX11_recover) (k' := 0) (z' := 0) (k2 := 7 + k) (z2 := 2191 + z) (As := [_]) dL_law_617 ml_L_69 ok_X11_recover (by decide) rfl im_X11_recover se_X11_recover (hR) rfl rfl (Nat.le_of_ble_eq_true rfl) (by decide) ⟨by omega, by omega⟩ (Nat.le_of_ble_eq_true rfl) (fun r2 f2 g2 a2 q2 n2 hJ => ?_)
  obtain ⟨j1, j2, j3, j4, j5, j6⟩ := hJ
  rw [j1, j2, j3, j4, j5, j6]
  clear j1 j2 j3 j4 j5 j6 r2 f2 g2 a2 q2 n2
  dsimp only [Option.toList, List.cons_append, List.nil_append]
  have hls := LS_act (b := (recB w (xs (6 * n + 1)))) (A := (if recB w (xs (6 * n + 1)) then actA a1 u false w else a1)) cs1 tr.2.2.1 fx ts r p tr (by decide) (by decide) (fun a _ => if_app _ _ a) (CHG_le (by rw [if_app, actA_o (by decide), if_same2]; exact r1.2.2.2.2.2.2.1) tr.2.2.1)
  refine e_icmp_eq (tgt := 1538) dL_law_620 (by decide) (fun _ => ?_) (fun hne => absurd rfl hne)
  exact e_wk (by omega) (by omega) (kk _ _ _ _ _ hls)
theorem lc_13 {L n k z : Nat} {xs : Nat → Int32} {fi : FI} {fr : FR} {ai : FI} {ar : FR} {N : Nat} {Q : EQ} (hL : 6 * n + 6 ≤ L) (hL2 : L ≤ 3072) (h : LSt fi fr ai ar N n) (kk : ∀ fi fr ai ar N, LSt fi fr ai ar N (n + 1) → EV (mL L xs) 11 k z 1538 [some (.ref 60), some (.ref (rf 10 0)), some (.ref (rf 11 80)), some (.int (nI (6 * n)))] [] fi fr ai ar N Q) : EV (mL L xs) 11 (64 + k) (10800 + z) 625 [some (.ref 60), some (.ref (rf 10 0)), some (.ref (rf 11 80)), some (.int (nI (6 * n)))] [] fi fr ai ar N Q := by
  obtain ⟨w, lg, u, V, im, tp, t, fl, pl, rs, cs, ts, r, p⟩ := h
  have gw := p.1.1
  have hb := GB_0 p.1 (show n < 512 by omega)
  have hu6 := p.2.2.2.2.2.2.2
  have hep := hb.1
  refine e_aload_n dL_law_625 rfl rfl ?_
  refine e_aload_n dL_law_626 rfl rfl ?_
  refine e_iload_n dL_law_627 rfl rfl ?_
  refine e_iconst (v := nI 1) dL_law_628 rfl ?_
  refine n_iadd dL_law_629 ?_
  refine e_sl dL_law_630 (show 6 * n + 1 < L by omega) hL2 ?_
  have tr := T_giv gw (xs (6 * n + 1))
  refine e_callV (M' := mX10_give) (k' := 57) (z' := 8609) (k2 := 7 + k) (z2 := 2191 + z) (As := [_]) dL_law_631 ml_L_70 ok_X10_give (by decide) rfl im_X10_give se_X10_give (ct_X10_give cs gw.1 gw.2.1 (xs (6 * n + 1)) (tr3 tr)) rfl rfl (Nat.le_of_ble_eq_true rfl) (by decide) ⟨by omega, by omega⟩ (Nat.le_of_ble_eq_true rfl) (fun r1 f1 g1 a1 q1 n1 hI => ?_)
  obtain ⟨i1, cs1, fx⟩ := hI
  rw [i1]
  clear i1 r1
  dsimp only [Option.toList, List.cons_append, List.nil_append]
  have sm := cs1.2.1
  have r1 : RS f1 a1 w lg u V im tp t fl pl rs := RS_fx r (fun f r x y => fx.1 f r (by omega)) (fun a x y => fx.2 a (by omega))
  have e81 : mW a1 w = a1 := mW_self r1.1
  have hsc : f1 (32 * 11 + 8) (rf 11 80) = bI false := r1.2.2.1
  refine e_aload_n dL_law_634 rfl rfl ?_
  refine e_aload_n dL_law_635 rfl rfl ?_
  refine e_iload_n dL_law_636 rfl rfl ?_
  refine e_iconst (v := nI 1) dL_law_637 rfl ?_
  refine n_iadd dL_law_638 ?_
  refine e_sl dL_law_639 (show 6 * n + 1 < L by omega) hL2 ?_
  have hR := ct_X11_give (fi := f1) (ai := a1) (ar := q1) (N := n1) (w := w) sm gw.1 (xs (6 * n + 1)) (u := u) r1.2.1 hu6 (sc := false) hsc
  rw [e81] at hR
  refine e_callV (M' := mX11_give) (k' := 0) (z' := 0) (k2 := 7 + k) (z2 := 2191 + z) (As := [_]) dL_law_640 ml_L_73 ok_X11_give (by decide) rfl im_X11_give se_X11_give (hR) rfl rfl (Nat.le_of_ble_eq_true rfl) (by decide) ⟨by omega, by omega⟩ (Nat.le_of_ble_eq_true rfl) (fun r2 f2 g2 a2 q2 n2 hJ => ?_)
  obtain ⟨j1, j2, j3, j4, j5, j6⟩ := hJ
  rw [j1, j2, j3, j4, j5, j6]
  clear j1 j2 j3 j4 j5 j6 r2 f2 g2 a2 q2 n2
  dsimp only [Option.toList, List.cons_append, List.nil_append]
  have hls := LS_act (b := (givB w (xs (6 * n + 1)))) (A := (if givB w (xs (6 * n + 1)) then actA a1 u false w else a1)) cs1 tr.2.2.1 fx ts r p tr (by decide) (by decide) (fun a _ => if_app _ _ a) (CHG_le (by rw [if_app, actA_o (by decide), if_same2]; exact r1.2.2.2.2.2.2.1) tr.2.2.1)
  refine e_icmp_eq (tgt := 1538) dL_law_643 (by decide) (fun _ => ?_) (fun hne => absurd rfl hne)
  exact e_wk (by omega) (by omega) (kk _ _ _ _ _ hls)
theorem lc_14 {L n k z : Nat} {xs : Nat → Int32} {fi : FI} {fr : FR} {ai : FI} {ar : FR} {N : Nat} {Q : EQ} (hL : 6 * n + 6 ≤ L) (hL2 : L ≤ 3072) (h : LSt fi fr ai ar N n) (kk : ∀ fi fr ai ar N, LSt fi fr ai ar N (n + 1) → EV (mL L xs) 11 k z 1538 [some (.ref 60), some (.ref (rf 10 0)), some (.ref (rf 11 80)), some (.int (nI (6 * n)))] [] fi fr ai ar N Q) : EV (mL L xs) 11 (64 + k) (10800 + z) 648 [some (.ref 60), some (.ref (rf 10 0)), some (.ref (rf 11 80)), some (.int (nI (6 * n)))] [] fi fr ai ar N Q := by
  obtain ⟨w, lg, u, V, im, tp, t, fl, pl, rs, cs, ts, r, p⟩ := h
  have gw := p.1.1
  have hb := GB_0 p.1 (show n < 512 by omega)
  have hu6 := p.2.2.2.2.2.2.2
  have hep := hb.1
  refine e_aload_n dL_law_648 rfl rfl ?_
  have tr := T_age gw
  refine e_callV (M' := mX10_age) (k' := 57) (z' := 8609) (k2 := 7 + k) (z2 := 2191 + z) (As := []) dL_law_649 ml_L_74 ok_X10_age (by decide) rfl im_X10_age se_X10_age (ct_X10_age cs gw.1 (tr3 tr)) rfl rfl (Nat.le_of_ble_eq_true rfl) (by decide) ⟨by omega, by omega⟩ (Nat.le_of_ble_eq_true rfl) (fun r1 f1 g1 a1 q1 n1 hI => ?_)
  obtain ⟨i1, cs1, fx⟩ := hI
  rw [i1]
  clear i1 r1
  dsimp only [Option.toList, List.cons_append, List.nil_append]
  have sm := cs1.2.1
  have r1 : RS f1 a1 w lg u V im tp t fl pl rs := RS_fx r (fun f r x y => fx.1 f r (by omega)) (fun a x y => fx.2 a (by omega))
  have e81 : mW a1 w = a1 := mW_self r1.1
  have hsc : f1 (32 * 11 + 8) (rf 11 80) = bI false := r1.2.2.1
  refine e_aload_n dL_law_652 rfl rfl ?_
  have hR := ct_X11_age (fi := f1) (ai := a1) (ar := q1) (N := n1) (w := w) sm gw.1 (u := u) r1.2.1 hu6 (sc := false) hsc
  rw [e81] at hR
  refine e_callV (M' := mX11_age) (k' := 0) (z' := 0) (k2 := 7 + k) (z2 := 2191 + z) (As := []) dL_law_653 ml_L_78 ok_X11_age (by decide) rfl im_X11_age se_X11_age (hR) rfl rfl (Nat.le_of_ble_eq_true rfl) (by decide) ⟨by omega, by omega⟩ (Nat.le_of_ble_eq_true rfl) (fun r2 f2 g2 a2 q2 n2 hJ => ?_)
  obtain ⟨j1, j2, j3, j4, j5, j6⟩ := hJ
  rw [j1, j2, j3, j4, j5, j6]
  clear j1 j2 j3 j4 j5 j6 r2 f2 g2 a2 q2 n2
  dsimp only [Option.toList, List.cons_append, List.nil_append]
  have hls := LS_act (b := true) (A := (actA a1 u false w)) cs1 tr.2.2.1 fx ts r p tr (by decide) (by decide) (fun a _ => rfl) (CHG_le (by rw [actA_o (by decide)]; exact r1.2.2.2.2.2.2.1) tr.2.2.1)
  refine e_lcmp dL_law_656 ?_
  refine l_if_eq (tgt := 1538) dL_law_657 (by decide) (fun _ => ?_) (fun hne => absurd rfl hne)
  exact e_wk (by omega) (by omega) (kk _ _ _ _ _ hls)
