theorem T_ifet {w : Nat → Nat} (h : GW w) (x : Int32) : TR w (if inR x 6 then fetW w x.toNatClampNeg else w) 0 0 := by
  split
  · rename_i hb
    exact T_fet h (inR_c hb).1
  · exact TR_rf h
theorem if_dec {α : Sort _} {p : Prop} [Decidable p] (a b : α) : (if p then a else b) = if decide p = true then a else b := by
  by_cases h : p
  · rw [if_pos h, if_pos (decide_eq_true h)]
  · rw [if_neg h, if_neg (fun q => h (of_decide_eq_true q))]
theorem T_chkB {w : Nat → Nat} (h : GW w) (x : Int32) : TR w (if decide (1 ≤ x.toInt ∧ x.toInt ≤ 16) = true then upN w 2 x.toNatClampNeg else w) 0 0 := by
  rw [← if_dec]
  exact T_chk h x
theorem if_app {α β : Type} {p : Prop} [Decidable p] (f g : α → β) (a : α) : (if p then f else g) a = if p then f a else g a := by split <;> rfl
theorem if_mW {p : Prop} [Decidable p] {A B : FI} {w w' : Nat → Nat} : (if p then mW A w' else mW B w) = mW (if p then A else B) (if p then w' else w) := by split <;> rfl
theorem st_hA {ai : FI} {u m k : Nat} {w : Nat → Nat} {b : Bool} {a : Nat} (ha : a ≠ rf 34 85) : (if b then (stS w (actA ai u false w) m k).2 else ai) a = if b then actA ai u false w a else ai a := by
  cases b with
  | false => rfl
  | true => exact stS_o ha k
theorem st_hC {ai : FI} {u : Nat} {w lg : Nat → Nat} (h : GW w) (h0 : w 0 < 1999) (hc : CHG (ai (rf 34 85)) lg (w 0)) (x y : Int32) : CHG ((if stpB w x y then (stS w (actA ai u false w) x.toNatClampNeg y.toNatClampNeg).2 else ai) (rf 34 85)) (if stpB w x y then stL lg w x.toNatClampNeg y.toNatClampNeg else lg) ((if stpB w x y then st1 w x.toNatClampNeg y.toNatClampNeg else w) 0) := by
  by_cases hb : stpB w x y = true
  · rw [if_pos hb, if_pos hb, if_pos hb]
    exact (C_st h h0 (by rw [actA_o (by decide)]; exact hc) (stpB_m hb) _).1
  · rw [if_neg hb, if_neg hb, if_neg hb]
    exact hc
theorem sA_k (a1 : FI) (g : Nat → Int32) : sA (sA a1 (rf 32 82) g) (rf 34 85) (a1 (rf 34 85)) = sA a1 (rf 32 82) g := by
  have e : sA a1 (rf 32 82) g (rf 34 85) = a1 (rf 34 85) := sA_o (by decide)
  have := sA_self (sA a1 (rf 32 82) g) (rf 34 85)
  rw [e] at this
  exact this
theorem CLS_ct {fi : FI} {fr : FR} {ai : FI} {ar : FR} {N : Nat} {w lg : Nat → Nat} {E u : Nat} {V : Nat → Nat → Nat} {im : Option ((Nat → Nat) × (Nat → Nat))} (h : CLS fi fr ai ar N w lg E u V im) : fi (32 * 0 + 2) (rf 0 74) = nI u := by
  obtain ⟨_, _, _, B, t, cb⟩ := h
  exact cb.2.2.2.2.1
theorem nxH_self (fi : FI) : nxH fi (fi (32 * 11 + 18) (rf 11 80)) (fi (32 * 11 + 19) (rf 11 80)) (fi (32 * 11 + 20) (rf 11 80)) = fi := by
  funext f r
  unfold nxH up2
  repeat' split
  all_goals first | rfl | (rename_i h; rw [h.1, h.2])
theorem LS_ny {f1 a1 : FI} {fr ar : FR} {N n : Nat} {w lg : Nat → Nat} {u : Nat} {V : Nat → Nat → Nat} {im : Option ((Nat → Nat) × (Nat → Nat))} {tp : Nat → Nat} {t : Nat} {fl pl rs : Int32} {a2 : FI} (cs : CLS f1 fr a1 ar N w lg (w 0) u V im) (ts : TS f1 a1 tp t fl pl rs) (r : RS f1 a1 w lg u V im tp t fl pl rs) (p : PG n w u V im tp t) (ha : ∃ g h, a2 = mW (sA (sA a1 (rf 32 82) g) (rf 34 85) h) w ∧ ∀ i, i < 3 * (w 0 + 1) → h i = a1 (rf 34 85) i) : LSt f1 fr a2 ar N n := by
  have key := LS_nx (a := f1 (32 * 11 + 18) (rf 11 80)) (b := f1 (32 * 11 + 19) (rf 11 80)) (c := f1 (32 * 11 + 20) (rf 11 80)) (a2 := a2) cs ts r p (Or.inr ha)
  rw [nxH_self] at key
  exact key
theorem lc_0 {L n k z : Nat} {xs : Nat → Int32} {fi : FI} {fr : FR} {ai : FI} {ar : FR} {N : Nat} {Q : EQ} (hL : 6 * n + 6 ≤ L) (hL2 : L ≤ 3072) (h : LSt fi fr ai ar N n) (kk : ∀ fi fr ai ar N, LSt fi fr ai ar N (n + 1) → EV (mL L xs) 11 k z 1538 [some (.ref 60), some (.ref (rf 10 0)), some (.ref (rf 11 80)), some (.int (nI (6 * n)))] [] fi fr ai ar N Q) : EV (mL L xs) 11 (64 + k) (10800 + z) 236 [some (.ref 60), some (.ref (rf 10 0)), some (.ref (rf 11 80)), some (.int (nI (6 * n)))] [] fi fr ai ar N Q := by
  obtain ⟨w, lg, u, V, im, tp, t, fl, pl, rs, cs, ts, r, p⟩ := h
  have gw := p.1.1
  have hb := GB_0 p.1 (show n < 512 by omega)
  have hu6 := p.2.2.2.2.2.2.2
  have hep := hb.1
  refine e_aload_n dL_law_236 rfl rfl ?_
  refine e_aload_n dL_law_237 rfl rfl ?_
  refine e_iload_n dL_law_238 rfl rfl ?_
  refine e_iconst (v := nI 1) dL_law_239 rfl ?_
  refine n_iadd dL_law_240 ?_
  refine e_sl dL_law_241 (show 6 * n + 1 < L by omega) hL2 ?_
  refine e_callV (M' := mX10_fetch) (k' := 0) (z' := 0) (k2 := 64 + k) (z2 := 10800 + z) (As := [_]) dL_law_242 ml_L_13 ok_X10_fetch (by decide) rfl im_X10_fetch se_X10_fetch (ct_X10_fetch cs.1 gw.1 cs.2.2.1  (xs (6 * n + 1)) ) rfl rfl (Nat.le_of_ble_eq_true rfl) (by decide) ⟨by omega, by omega⟩ (Nat.le_of_ble_eq_true rfl) (fun r1 f1 g1 a1 q1 n1 hI => ?_)
  obtain ⟨i1, i2, i3, i4, hF, hct, hK⟩ := hI
  rw [i1, i2, i3, i4]
  clear i1 i2 i3 i4 r1 g1 q1 n1
  obtain ⟨cs1, fx⟩ := CLS_g (b := (inR (xs (6 * n + 1)) 6)) cs hF hct hK
  dsimp only [Option.toList, List.cons_append, List.nil_append]
  have sm := cs1.2.1
  have r1 : RS f1 a1 w lg u V im tp t fl pl rs := RS_fx r (fun f r x y => fx.1 f r (by omega)) (fun a x y => fx.2 a (by omega))
  have e81 : mW a1 w = a1 := mW_self r1.1
  have hsc : f1 (32 * 11 + 8) (rf 11 80) = bI false := r1.2.2.1
  refine e_aload_n dL_law_245 rfl rfl ?_
  refine e_aload_n dL_law_246 rfl rfl ?_
  refine e_iload_n dL_law_247 rfl rfl ?_
  refine e_iconst (v := nI 1) dL_law_248 rfl ?_
  refine n_iadd dL_law_249 ?_
  refine e_sl dL_law_250 (show 6 * n + 1 < L by omega) hL2 ?_
  have hR := ct_X11_fetch (fi := f1) (ai := a1) (ar := ar) (N := N) (w := w) sm gw.1 (xs (6 * n + 1)) (sc := false) hsc 
  rw [e81] at hR
  refine e_callV (M' := mX11_fetch) (k' := 0) (z' := 0) (k2 := 64 + k) (z2 := 10800 + z) (As := [_]) dL_law_251 ml_L_17 ok_X11_fetch (by decide) rfl im_X11_fetch se_X11_fetch (hR) rfl rfl (Nat.le_of_ble_eq_true rfl) (by decide) ⟨by omega, by omega⟩ (Nat.le_of_ble_eq_true rfl) (fun r2 f2 g2 a2 q2 n2 hJ => ?_)
  obtain ⟨j1, j2, j3, j4, j5, j6⟩ := hJ
  rw [j1, j2, j3, j4, j5, j6]
  clear j1 j2 j3 j4 j5 j6 r2 f2 g2 a2 q2 n2
  dsimp only [Option.toList, List.cons_append, List.nil_append]
  have hls := LS_for (b := (inR (xs (6 * n + 1)) 6)) cs1 fx ts r p (T_ifet gw (xs (6 * n + 1))) (by decide)
  refine e_icmp_eq (tgt := 1538) dL_law_254 (by decide) (fun _ => ?_) (fun hne => absurd rfl hne)
  exact e_wk (by omega) (by omega) (kk _ _ _ _ _ hls)
theorem lc_1 {L n k z : Nat} {xs : Nat → Int32} {fi : FI} {fr : FR} {ai : FI} {ar : FR} {N : Nat} {Q : EQ} (hL : 6 * n + 6 ≤ L) (hL2 : L ≤ 3072) (h : LSt fi fr ai ar N n) (kk : ∀ fi fr ai ar N, LSt fi fr ai ar N (n + 1) → EV (mL L xs) 11 k z 1538 [some (.ref 60), some (.ref (rf 10 0)), some (.ref (rf 11 80)), some (.int (nI (6 * n)))] [] fi fr ai ar N Q) : EV (mL L xs) 11 (64 + k) (10800 + z) 259 [some (.ref 60), some (.ref (rf 10 0)), some (.ref (rf 11 80)), some (.int (nI (6 * n)))] [] fi fr ai ar N Q := by
  obtain ⟨w, lg, u, V, im, tp, t, fl, pl, rs, cs, ts, r, p⟩ := h
  have gw := p.1.1
  have hb := GB_0 p.1 (show n < 512 by omega)
  have hu6 := p.2.2.2.2.2.2.2
  have hep := hb.1
  refine e_aload_n dL_law_259 rfl rfl ?_
  refine e_aload_n dL_law_260 rfl rfl ?_
  refine e_iload_n dL_law_261 rfl rfl ?_
  refine e_iconst (v := nI 1) dL_law_262 rfl ?_
  refine n_iadd dL_law_263 ?_
  refine e_sl dL_law_264 (show 6 * n + 1 < L by omega) hL2 ?_
  refine e_aload_n dL_law_265 rfl rfl ?_
  refine e_iload_n dL_law_266 rfl rfl ?_
  refine e_iconst (v := nI 2) dL_law_267 rfl ?_
  refine n_iadd dL_law_268 ?_
  refine e_sl dL_law_269 (show 6 * n + 2 < L by omega) hL2 ?_
  refine e_callV (M' := mX10_read) (k' := 0) (z' := 0) (k2 := 64 + k) (z2 := 10800 + z) (As := [_, _]) dL_law_270 ml_L_18 ok_X10_read (by decide) rfl im_X10_read se_X10_read (ct_X10_read cs.1 gw.1 cs.2.2.1  (xs (6 * n + 1)) (xs (6 * n + 2)) (fun j hj => by have := hb.2 j hj; omega)) rfl rfl (Nat.le_of_ble_eq_true rfl) (by decide) ⟨by omega, by omega⟩ (Nat.le_of_ble_eq_true rfl) (fun r1 f1 g1 a1 q1 n1 hI => ?_)
  obtain ⟨i1, i2, i3, i4, hF, hct, hK⟩ := hI
  rw [i1, i2, i3, i4]
  clear i1 i2 i3 i4 r1 g1 q1 n1
  obtain ⟨cs1, fx⟩ := CLS_g (b := (inR (xs (6 * n + 1)) 6 && inR (xs (6 * n + 2)) 1000 && decide (anF w (xs (6 * n + 1)).toNatClampNeg (xs (6 * n + 2)).toNatClampNeg = 0))) cs hF hct hK
  dsimp only [Option.toList, List.cons_append, List.nil_append]
  have sm := cs1.2.1
  have r1 : RS f1 a1 w lg u V im tp t fl pl rs := RS_fx r (fun f r x y => fx.1 f r (by omega)) (fun a x y => fx.2 a (by omega))
  have e81 : mW a1 w = a1 := mW_self r1.1
  have hsc : f1 (32 * 11 + 8) (rf 11 80) = bI false := r1.2.2.1
  refine e_aload_n dL_law_273 rfl rfl ?_
  refine e_aload_n dL_law_274 rfl rfl ?_
  refine e_iload_n dL_law_275 rfl rfl ?_
  refine e_iconst (v := nI 1) dL_law_276 rfl ?_
  refine n_iadd dL_law_277 ?_
  refine e_sl dL_law_278 (show 6 * n + 1 < L by omega) hL2 ?_
  refine e_aload_n dL_law_279 rfl rfl ?_
  refine e_iload_n dL_law_280 rfl rfl ?_
  refine e_iconst (v := nI 2) dL_law_281 rfl ?_
  refine n_iadd dL_law_282 ?_
  refine e_sl dL_law_283 (show 6 * n + 2 < L by omega) hL2 ?_
  have hR := ct_X11_read (fi := f1) (ai := a1) (ar := ar) (N := N) (w := w) sm gw.1 (xs (6 * n + 1)) (xs (6 * n + 2)) (sc := false) hsc (fun j hj => by have := hb.2 j hj; omega)
  rw [e81] at hR
  rw [redF_b] at hR
  refine e_callV (M' := mX11_read) (k' := 0) (z' := 0) (k2 := 64 + k) (z2 := 10800 + z) (As := [_, _]) dL_law_284 ml_L_22 ok_X11_read (by decide) rfl im_X11_read se_X11_read (hR) rfl rfl (Nat.le_of_ble_eq_true rfl) (by decide) ⟨by omega, by omega⟩ (Nat.le_of_ble_eq_true rfl) (fun r2 f2 g2 a2 q2 n2 hJ => ?_)
  obtain ⟨j1, j2, j3, j4, j5, j6⟩ := hJ
  rw [j1, j2, j3, j4, j5, j6]
  clear j1 j2 j3 j4 j5 j6 r2 f2 g2 a2 q2 n2
  dsimp only [Option.toList, List.cons_append, List.nil_append]
  have hls := LS_for (b := (inR (xs (6 * n + 1)) 6 && inR (xs (6 * n + 2)) 1000 && decide (anF w (xs (6 * n + 1)).toNatClampNeg (xs (6 * n + 2)).toNatClampNeg = 0))) cs1 fx ts r p (T_red gw (fun j hj => by have := hb.2 j hj; omega) (xs (6 * n + 1)) (xs (6 * n + 2))) (by decide)
  refine e_icmp_eq (tgt := 1538) dL_law_287 (by decide) (fun _ => ?_) (fun hne => absurd rfl hne)
  exact e_wk (by omega) (by omega) (kk _ _ _ _ _ hls)
theorem lc_2 {L n k z : Nat} {xs : Nat → Int32} {fi : FI} {fr : FR} {ai : FI} {ar : FR} {N : Nat} {Q : EQ} (hL : 6 * n + 6 ≤ L) (hL2 : L ≤ 3072) (h : LSt fi fr ai ar N n) (kk : ∀ fi fr ai ar N, LSt fi fr ai ar N (n + 1) → EV (mL L xs) 11 k z 1538 [some (.ref 60), some (.ref (rf 10 0)), some (.ref (rf 11 80)), some (.int (nI (6 * n)))] [] fi fr ai ar N Q) : EV (mL L xs) 11 (64 + k) (10800 + z) 292 [some (.ref 60), some (.ref (rf 10 0)), some (.ref (rf 11 80)), some (.int (nI (6 * n)))] [] fi fr ai ar N Q := by
  obtain ⟨w, lg, u, V, im, tp, t, fl, pl, rs, cs, ts, r, p⟩ := h
  have gw := p.1.1
  have hb := GB_0 p.1 (show n < 512 by omega)
  have hu6 := p.2.2.2.2.2.2.2
  have hep := hb.1
  refine e_aload_n dL_law_292 rfl rfl ?_
  refine e_aload_n dL_law_293 rfl rfl ?_
  refine e_iload_n dL_law_294 rfl rfl ?_
  refine e_iconst (v := nI 1) dL_law_295 rfl ?_
  refine n_iadd dL_law_296 ?_
  refine e_sl dL_law_297 (show 6 * n + 1 < L by omega) hL2 ?_
  refine e_aload_n dL_law_298 rfl rfl ?_
  refine e_iload_n dL_law_299 rfl rfl ?_
  refine e_iconst (v := nI 2) dL_law_300 rfl ?_
  refine n_iadd dL_law_301 ?_
  refine e_sl dL_law_302 (show 6 * n + 2 < L by omega) hL2 ?_
  refine e_aload_n dL_law_303 rfl rfl ?_
  refine e_iload_n dL_law_304 rfl rfl ?_
  refine e_iconst (v := nI 3) dL_law_305 rfl ?_
  refine n_iadd dL_law_306 ?_
  refine e_sl dL_law_307 (show 6 * n + 3 < L by omega) hL2 ?_
  refine e_callV (M' := mX10_write) (k' := 0) (z' := 0) (k2 := 64 + k) (z2 := 10800 + z) (As := [_, _, _]) dL_law_308 ml_L_23 ok_X10_write (by decide) rfl im_X10_write se_X10_write (ct_X10_write cs.1 gw.1 cs.2.2.1  (xs (6 * n + 1)) (xs (6 * n + 2)) (xs (6 * n + 3)) (fun j hj => by have := hb.2 j hj; omega)) rfl rfl (Nat.le_of_ble_eq_true rfl) (by decide) ⟨by omega, by omega⟩ (Nat.le_of_ble_eq_true rfl) (fun r1 f1 g1 a1 q1 n1 hI => ?_)
  obtain ⟨i1, i2, i3, i4, hF, hct, hK⟩ := hI
  rw [i1, i2, i3, i4]
  clear i1 i2 i3 i4 r1 g1 q1 n1
  obtain ⟨cs1, fx⟩ := CLS_g (b := (cwB (xs (6 * n + 1)) (xs (6 * n + 2)) (xs (6 * n + 3)) && decide (asA w (xs (6 * n + 1)).toNatClampNeg (xs (6 * n + 2)).toNatClampNeg (xs (6 * n + 3)).toNatClampNeg = 0))) cs hF hct hK
  dsimp only [Option.toList, List.cons_append, List.nil_append]
  have sm := cs1.2.1
  have r1 : RS f1 a1 w lg u V im tp t fl pl rs := RS_fx r (fun f r x y => fx.1 f r (by omega)) (fun a x y => fx.2 a (by omega))
  have e81 : mW a1 w = a1 := mW_self r1.1
  have hsc : f1 (32 * 11 + 8) (rf 11 80) = bI false := r1.2.2.1
  refine e_aload_n dL_law_311 rfl rfl ?_
  refine e_aload_n dL_law_312 rfl rfl ?_
  refine e_iload_n dL_law_313 rfl rfl ?_
  refine e_iconst (v := nI 1) dL_law_314 rfl ?_
  refine n_iadd dL_law_315 ?_
  refine e_sl dL_law_316 (show 6 * n + 1 < L by omega) hL2 ?_
  refine e_aload_n dL_law_317 rfl rfl ?_
  refine e_iload_n dL_law_318 rfl rfl ?_
  refine e_iconst (v := nI 2) dL_law_319 rfl ?_
  refine n_iadd dL_law_320 ?_
  refine e_sl dL_law_321 (show 6 * n + 2 < L by omega) hL2 ?_
  refine e_aload_n dL_law_322 rfl rfl ?_
  refine e_iload_n dL_law_323 rfl rfl ?_
  refine e_iconst (v := nI 3) dL_law_324 rfl ?_
  refine n_iadd dL_law_325 ?_
  refine e_sl dL_law_326 (show 6 * n + 3 < L by omega) hL2 ?_
  have hR := ct_X11_write (fi := f1) (ai := a1) (ar := ar) (N := N) (w := w) sm gw.1 (xs (6 * n + 1)) (xs (6 * n + 2)) (xs (6 * n + 3)) (sc := false) hsc (fun j hj => by have := hb.2 j hj; omega)
  rw [e81] at hR
  rw [wriF_b] at hR
  refine e_callV (M' := mX11_write) (k' := 0) (z' := 0) (k2 := 64 + k) (z2 := 10800 + z) (As := [_, _, _]) dL_law_327 ml_L_27 ok_X11_write (by decide) rfl im_X11_write se_X11_write (hR) rfl rfl (Nat.le_of_ble_eq_true rfl) (by decide) ⟨by omega, by omega⟩ (Nat.le_of_ble_eq_true rfl) (fun r2 f2 g2 a2 q2 n2 hJ => ?_)
  obtain ⟨j1, j2, j3, j4, j5, j6⟩ := hJ
  rw [j1, j2, j3, j4, j5, j6]
  clear j1 j2 j3 j4 j5 j6 r2 f2 g2 a2 q2 n2
  dsimp only [Option.toList, List.cons_append, List.nil_append]
  have hls := LS_for (b := (cwB (xs (6 * n + 1)) (xs (6 * n + 2)) (xs (6 * n + 3)) && decide (asA w (xs (6 * n + 1)).toNatClampNeg (xs (6 * n + 2)).toNatClampNeg (xs (6 * n + 3)).toNatClampNeg = 0))) cs1 fx ts r p (T_wri gw (fun j hj => by have := hb.2 j hj; omega) (xs (6 * n + 1)) (xs (6 * n + 2)) (xs (6 * n + 3))) (by decide)
  refine e_icmp_eq (tgt := 1538) dL_law_330 (by decide) (fun _ => ?_) (fun hne => absurd rfl hne)
  exact e_wk (by omega) (by omega) (kk _ _ _ _ _ hls)
theorem lc_3 {L n k z : Nat} {xs : Nat → Int32} {fi : FI} {fr : FR} {ai : FI} {ar : FR} {N : Nat} {Q : EQ} (hL : 6 * n + 6 ≤ L) (hL2 : L ≤ 3072) (h : LSt fi fr ai ar N n) (kk : ∀ fi fr ai ar N, LSt fi fr ai ar N (n + 1) → EV (mL L xs) 11 k z 1538 [some (.ref 60), some (.ref (rf 10 0)), some (.ref (rf 11 80)), some (.int (nI (6 * n)))] [] fi fr ai ar N Q) : EV (mL L xs) 11 (64 + k) (10800 + z) 335 [some (.ref 60), some (.ref (rf 10 0)), some (.ref (rf 11 80)), some (.int (nI (6 * n)))] [] fi fr ai ar N Q := by
  obtain ⟨w, lg, u, V, im, tp, t, fl, pl, rs, cs, ts, r, p⟩ := h
  have gw := p.1.1
  have hb := GB_0 p.1 (show n < 512 by omega)
  have hu6 := p.2.2.2.2.2.2.2
  have hep := hb.1
  refine e_aload_n dL_law_335 rfl rfl ?_
  refine e_aload_n dL_law_336 rfl rfl ?_
  refine e_iload_n dL_law_337 rfl rfl ?_
  refine e_iconst (v := nI 1) dL_law_338 rfl ?_
  refine n_iadd dL_law_339 ?_
  refine e_sl dL_law_340 (show 6 * n + 1 < L by omega) hL2 ?_
  refine e_aload_n dL_law_341 rfl rfl ?_
  refine e_iload_n dL_law_342 rfl rfl ?_
  refine e_iconst (v := nI 2) dL_law_343 rfl ?_
  refine n_iadd dL_law_344 ?_
  refine e_sl dL_law_345 (show 6 * n + 2 < L by omega) hL2 ?_
  refine e_aload_n dL_law_346 rfl rfl ?_
  refine e_iload_n dL_law_347 rfl rfl ?_
  refine e_iconst (v := nI 3) dL_law_348 rfl ?_
  refine n_iadd dL_law_349 ?_
  refine e_sl dL_law_350 (show 6 * n + 3 < L by omega) hL2 ?_
  refine e_callV (M' := mX10_insist) (k' := 0) (z' := 0) (k2 := 64 + k) (z2 := 10800 + z) (As := [_, _, _]) dL_law_351 ml_L_28 ok_X10_insist (by decide) rfl im_X10_insist se_X10_insist (ct_X10_insist cs.1 gw.1 cs.2.2.1 gw.2.1.1 (xs (6 * n + 1)) (xs (6 * n + 2)) (xs (6 * n + 3)) (fun j hj => by have := hb.2 j hj; omega)) rfl rfl (Nat.le_of_ble_eq_true rfl) (by decide) ⟨by omega, by omega⟩ (Nat.le_of_ble_eq_true rfl) (fun r1 f1 g1 a1 q1 n1 hI => ?_)
  obtain ⟨i1, i2, i3, i4, hF, hct, hK⟩ := hI
  rw [i1, i2, i3, i4]
  clear i1 i2 i3 i4 r1 g1 q1 n1
  obtain ⟨cs1, fx⟩ := CLS_g (b := (cwB (xs (6 * n + 1)) (xs (6 * n + 2)) (xs (6 * n + 3)) && (decide (asA w (xs (6 * n + 1)).toNatClampNeg (xs (6 * n + 2)).toNatClampNeg (xs (6 * n + 3)).toNatClampNeg = 0) || decide (asA w (xs (6 * n + 1)).toNatClampNeg (xs (6 * n + 2)).toNatClampNeg (xs (6 * n + 3)).toNatClampNeg = 3)))) cs hF hct hK
  dsimp only [Option.toList, List.cons_append, List.nil_append]
  have sm := cs1.2.1
  have r1 : RS f1 a1 w lg u V im tp t fl pl rs := RS_fx r (fun f r x y => fx.1 f r (by omega)) (fun a x y => fx.2 a (by omega))
  have e81 : mW a1 w = a1 := mW_self r1.1
  have hsc : f1 (32 * 11 + 8) (rf 11 80) = bI false := r1.2.2.1
  refine e_aload_n dL_law_354 rfl rfl ?_
  refine e_aload_n dL_law_355 rfl rfl ?_
  refine e_iload_n dL_law_356 rfl rfl ?_
  refine e_iconst (v := nI 1) dL_law_357 rfl ?_
  refine n_iadd dL_law_358 ?_
  refine e_sl dL_law_359 (show 6 * n + 1 < L by omega) hL2 ?_
  refine e_aload_n dL_law_360 rfl rfl ?_
  refine e_iload_n dL_law_361 rfl rfl ?_
  refine e_iconst (v := nI 2) dL_law_362 rfl ?_
  refine n_iadd dL_law_363 ?_
  refine e_sl dL_law_364 (show 6 * n + 2 < L by omega) hL2 ?_
  refine e_aload_n dL_law_365 rfl rfl ?_
  refine e_iload_n dL_law_366 rfl rfl ?_
  refine e_iconst (v := nI 3) dL_law_367 rfl ?_
  refine n_iadd dL_law_368 ?_
  refine e_sl dL_law_369 (show 6 * n + 3 < L by omega) hL2 ?_
  have hR := ct_X11_insist (fi := f1) (ai := a1) (ar := ar) (N := N) (w := w) sm gw.1 (xs (6 * n + 1)) (xs (6 * n + 2)) (xs (6 * n + 3)) (sc := false) hsc (fun j hj => by have := hb.2 j hj; omega) gw.2.1.1
  rw [e81] at hR
  rw [insF_b] at hR
  refine e_callV (M' := mX11_insist) (k' := 0) (z' := 0) (k2 := 64 + k) (z2 := 10800 + z) (As := [_, _, _]) dL_law_370 ml_L_31 ok_X11_insist (by decide) rfl im_X11_insist se_X11_insist (hR) rfl rfl (Nat.le_of_ble_eq_true rfl) (by decide) ⟨by omega, by omega⟩ (Nat.le_of_ble_eq_true rfl) (fun r2 f2 g2 a2 q2 n2 hJ => ?_)
  obtain ⟨j1, j2, j3, j4, j5, j6⟩ := hJ
  rw [j1, j2, j3, j4, j5, j6]
  clear j1 j2 j3 j4 j5 j6 r2 f2 g2 a2 q2 n2
  dsimp only [Option.toList, List.cons_append, List.nil_append]
  have hls := LS_for (b := (cwB (xs (6 * n + 1)) (xs (6 * n + 2)) (xs (6 * n + 3)) && (decide (asA w (xs (6 * n + 1)).toNatClampNeg (xs (6 * n + 2)).toNatClampNeg (xs (6 * n + 3)).toNatClampNeg = 0) || decide (asA w (xs (6 * n + 1)).toNatClampNeg (xs (6 * n + 2)).toNatClampNeg (xs (6 * n + 3)).toNatClampNeg = 3)))) cs1 fx ts r p (T_ins gw (fun j hj => by have := hb.2 j hj; omega) (xs (6 * n + 1)) (xs (6 * n + 2)) (xs (6 * n + 3))) (by decide)
  refine e_icmp_eq (tgt := 1538) dL_law_373 (by decide) (fun _ => ?_) (fun hne => absurd rfl hne)
  exact e_wk (by omega) (by omega) (kk _ _ _ _ _ hls)
theorem lc_9 {L n k z : Nat} {xs : Nat → Int32} {fi : FI} {fr : FR} {ai : FI} {ar : FR} {N : Nat} {Q : EQ} (hL : 6 * n + 6 ≤ L) (hL2 : L ≤ 3072) (h : LSt fi fr ai ar N n) (kk : ∀ fi fr ai ar N, LSt fi fr ai ar N (n + 1) → EV (mL L xs) 11 k z 1538 [some (.ref 60), some (.ref (rf 10 0)), some (.ref (rf 11 80)), some (.int (nI (6 * n)))] [] fi fr ai ar N Q) : EV (mL L xs) 11 (64 + k) (10800 + z) 523 [some (.ref 60), some (.ref (rf 10 0)), some (.ref (rf 11 80)), some (.int (nI (6 * n)))] [] fi fr ai ar N Q := by
  obtain ⟨w, lg, u, V, im, tp, t, fl, pl, rs, cs, ts, r, p⟩ := h
  have gw := p.1.1
  have hb := GB_0 p.1 (show n < 512 by omega)
  have hu6 := p.2.2.2.2.2.2.2
  have hep := hb.1
  refine e_aload_n dL_law_523 rfl rfl ?_
  refine e_aload_n dL_law_524 rfl rfl ?_
  refine e_iload_n dL_law_525 rfl rfl ?_
  refine e_iconst (v := nI 1) dL_law_526 rfl ?_
  refine n_iadd dL_law_527 ?_
  refine e_sl dL_law_528 (show 6 * n + 1 < L by omega) hL2 ?_
  refine e_aload_n dL_law_529 rfl rfl ?_
  refine e_iload_n dL_law_530 rfl rfl ?_
  refine e_iconst (v := nI 2) dL_law_531 rfl ?_
  refine n_iadd dL_law_532 ?_
  refine e_sl dL_law_533 (show 6 * n + 2 < L by omega) hL2 ?_
  refine e_callV (M' := mX10_fail) (k' := 0) (z' := 0) (k2 := 64 + k) (z2 := 10800 + z) (As := [_, _]) dL_law_534 ml_L_52 ok_X10_fail (by decide) rfl im_X10_fail se_X10_fail (ct_X10_fail cs.1 gw.1 cs.2.2.1  (xs (6 * n + 1)) (xs (6 * n + 2)) ) rfl rfl (Nat.le_of_ble_eq_true rfl) (by decide) ⟨by omega, by omega⟩ (Nat.le_of_ble_eq_true rfl) (fun r1 f1 g1 a1 q1 n1 hI => ?_)
  obtain ⟨i1, i2, i3, i4, hF, hct, hK⟩ := hI
  rw [i1, i2, i3, i4]
  clear i1 i2 i3 i4 r1 g1 q1 n1
  obtain ⟨cs1, fx⟩ := CLS_g (b := (faiB w (xs (6 * n + 1)) (xs (6 * n + 2)))) cs hF hct hK
  dsimp only [Option.toList, List.cons_append, List.nil_append]
  have sm := cs1.2.1
  have r1 : RS f1 a1 w lg u V im tp t fl pl rs := RS_fx r (fun f r x y => fx.1 f r (by omega)) (fun a x y => fx.2 a (by omega))
  have e81 : mW a1 w = a1 := mW_self r1.1
  have hsc : f1 (32 * 11 + 8) (rf 11 80) = bI false := r1.2.2.1
  refine e_aload_n dL_law_537 rfl rfl ?_
  refine e_aload_n dL_law_538 rfl rfl ?_
  refine e_iload_n dL_law_539 rfl rfl ?_
  refine e_iconst (v := nI 1) dL_law_540 rfl ?_
  refine n_iadd dL_law_541 ?_
  refine e_sl dL_law_542 (show 6 * n + 1 < L by omega) hL2 ?_
  refine e_aload_n dL_law_543 rfl rfl ?_
  refine e_iload_n dL_law_544 rfl rfl ?_
  refine e_iconst (v := nI 2) dL_law_545 rfl ?_
  refine n_iadd dL_law_546 ?_
  refine e_sl dL_law_547 (show 6 * n + 2 < L by omega) hL2 ?_
  have hR := ct_X11_fail (fi := f1) (ai := a1) (ar := ar) (N := N) (w := w) sm gw.1 (xs (6 * n + 1)) (xs (6 * n + 2)) (sc := false) hsc 
  rw [e81] at hR
  refine e_callV (M' := mX11_fail) (k' := 0) (z' := 0) (k2 := 64 + k) (z2 := 10800 + z) (As := [_, _]) dL_law_548 ml_L_56 ok_X11_fail (by decide) rfl im_X11_fail se_X11_fail (hR) rfl rfl (Nat.le_of_ble_eq_true rfl) (by decide) ⟨by omega, by omega⟩ (Nat.le_of_ble_eq_true rfl) (fun r2 f2 g2 a2 q2 n2 hJ => ?_)
  obtain ⟨j1, j2, j3, j4, j5, j6⟩ := hJ
  rw [j1, j2, j3, j4, j5, j6]
  clear j1 j2 j3 j4 j5 j6 r2 f2 g2 a2 q2 n2
  dsimp only [Option.toList, List.cons_append, List.nil_append]
  have hls := LS_for (b := (faiB w (xs (6 * n + 1)) (xs (6 * n + 2)))) cs1 fx ts r p (T_fai gw (xs (6 * n + 1)) (xs (6 * n + 2))) (by decide)
  refine e_icmp_eq (tgt := 1538) dL_law_551 (by decide) (fun _ => ?_) (fun hne => absurd rfl hne)
  exact e_wk (by omega) (by omega) (kk _ _ _ _ _ hls)
theorem lc_10 {L n k z : Nat} {xs : Nat → Int32} {fi : FI} {fr : FR} {ai : FI} {ar : FR} {N : Nat} {Q : EQ} (hL : 6 * n + 6 ≤ L) (hL2 : L ≤ 3072) (h : LSt fi fr ai ar N n) (kk : ∀ fi fr ai ar N, LSt fi fr ai ar N (n + 1) → EV (mL L xs) 11 k z 1538 [some (.ref 60), some (.ref (rf 10 0)), some (.ref (rf 11 80)), some (.int (nI (6 * n)))] [] fi fr ai ar N Q) : EV (mL L xs) 11 (64 + k) (10800 + z) 556 [some (.ref 60), some (.ref (rf 10 0)), some (.ref (rf 11 80)), some (.int (nI (6 * n)))] [] fi fr ai ar N Q := by
  obtain ⟨w, lg, u, V, im, tp, t, fl, pl, rs, cs, ts, r, p⟩ := h
  have gw := p.1.1
  have hb := GB_0 p.1 (show n < 512 by omega)
  have hu6 := p.2.2.2.2.2.2.2
  have hep := hb.1
  refine e_aload_n dL_law_556 rfl rfl ?_
  refine e_aload_n dL_law_557 rfl rfl ?_
  refine e_iload_n dL_law_558 rfl rfl ?_
  refine e_iconst (v := nI 1) dL_law_559 rfl ?_
  refine n_iadd dL_law_560 ?_
  refine e_sl dL_law_561 (show 6 * n + 1 < L by omega) hL2 ?_
  refine e_callV (M' := mX10_down) (k' := 0) (z' := 0) (k2 := 64 + k) (z2 := 10800 + z) (As := [_]) dL_law_562 ml_L_57 ok_X10_down (by decide) rfl im_X10_down se_X10_down (ct_X10_down cs.1 gw.1 cs.2.2.1  (xs (6 * n + 1)) ) rfl rfl (Nat.le_of_ble_eq_true rfl) (by decide) ⟨by omega, by omega⟩ (Nat.le_of_ble_eq_true rfl) (fun r1 f1 g1 a1 q1 n1 hI => ?_)
  obtain ⟨i1, i2, i3, i4, hF, hct, hK⟩ := hI
  rw [i1, i2, i3, i4]
  clear i1 i2 i3 i4 r1 g1 q1 n1
  obtain ⟨cs1, fx⟩ := CLS_g (b := (dowB w (xs (6 * n + 1)))) cs hF hct hK
  dsimp only [Option.toList, List.cons_append, List.nil_append]
  have sm := cs1.2.1
  have r1 : RS f1 a1 w lg u V im tp t fl pl rs := RS_fx r (fun f r x y => fx.1 f r (by omega)) (fun a x y => fx.2 a (by omega))
  have e81 : mW a1 w = a1 := mW_self r1.1
  have hsc : f1 (32 * 11 + 8) (rf 11 80) = bI false := r1.2.2.1
  refine e_aload_n dL_law_565 rfl rfl ?_
  refine e_aload_n dL_law_566 rfl rfl ?_
  refine e_iload_n dL_law_567 rfl rfl ?_
  refine e_iconst (v := nI 1) dL_law_568 rfl ?_
  refine n_iadd dL_law_569 ?_
  refine e_sl dL_law_570 (show 6 * n + 1 < L by omega) hL2 ?_
  have hR := ct_X11_down (fi := f1) (ai := a1) (ar := ar) (N := N) (w := w) sm gw.1 (xs (6 * n + 1)) (sc := false) hsc 
  rw [e81] at hR
  refine e_callV (M' := mX11_down) (k' := 0) (z' := 0) (k2 := 64 + k) (z2 := 10800 + z) (As := [_]) dL_law_571 ml_L_60 ok_X11_down (by decide) rfl im_X11_down se_X11_down (hR) rfl rfl (Nat.le_of_ble_eq_true rfl) (by decide) ⟨by omega, by omega⟩ (Nat.le_of_ble_eq_true rfl) (fun r2 f2 g2 a2 q2 n2 hJ => ?_)
  obtain ⟨j1, j2, j3, j4, j5, j6⟩ := hJ
  rw [j1, j2, j3, j4, j5, j6]
  clear j1 j2 j3 j4 j5 j6 r2 f2 g2 a2 q2 n2
  dsimp only [Option.toList, List.cons_append, List.nil_append]
  have hls := LS_for (b := (dowB w (xs (6 * n + 1)))) cs1 fx ts r p (T_dow gw (xs (6 * n + 1))) (by decide)
  refine e_icmp_eq (tgt := 1538) dL_law_574 (by decide) (fun _ => ?_) (fun hne => absurd rfl hne)
  exact e_wk (by omega) (by omega) (kk _ _ _ _ _ hls)
theorem lc_11 {L n k z : Nat} {xs : Nat → Int32} {fi : FI} {fr : FR} {ai : FI} {ar : FR} {N : Nat} {Q : EQ} (hL : 6 * n + 6 ≤ L) (hL2 : L ≤ 3072) (h : LSt fi fr ai ar N n) (kk : ∀ fi fr ai ar N, LSt fi fr ai ar N (n + 1) → EV (mL L xs) 11 k z 1538 [some (.ref 60), some (.ref (rf 10 0)), some (.ref (rf 11 80)), some (.int (nI (6 * n)))] [] fi fr ai ar N Q) : EV (mL L xs) 11 (64 + k) (10800 + z) 579 [some (.ref 60), some (.ref (rf 10 0)), some (.ref (rf 11 80)), some (.int (nI (6 * n)))] [] fi fr ai ar N Q := by
  obtain ⟨w, lg, u, V, im, tp, t, fl, pl, rs, cs, ts, r, p⟩ := h
  have gw := p.1.1
  have hb := GB_0 p.1 (show n < 512 by omega)
  have hu6 := p.2.2.2.2.2.2.2
  have hep := hb.1
  refine e_aload_n dL_law_579 rfl rfl ?_
  refine e_aload_n dL_law_580 rfl rfl ?_
  refine e_iload_n dL_law_581 rfl rfl ?_
  refine e_iconst (v := nI 1) dL_law_582 rfl ?_
  refine n_iadd dL_law_583 ?_
  refine e_sl dL_law_584 (show 6 * n + 1 < L by omega) hL2 ?_
  refine e_callV (M' := mX10_up) (k' := 0) (z' := 0) (k2 := 64 + k) (z2 := 10800 + z) (As := [_]) dL_law_585 ml_L_61 ok_X10_up (by decide) rfl im_X10_up se_X10_up (ct_X10_up cs.1 gw.1 cs.2.2.1  (xs (6 * n + 1)) ) rfl rfl (Nat.le_of_ble_eq_true rfl) (by decide) ⟨by omega, by omega⟩ (Nat.le_of_ble_eq_true rfl) (fun r1 f1 g1 a1 q1 n1 hI => ?_)
  obtain ⟨i1, i2, i3, i4, hF, hct, hK⟩ := hI
  rw [i1, i2, i3, i4]
  clear i1 i2 i3 i4 r1 g1 q1 n1
  obtain ⟨cs1, fx⟩ := CLS_g (b := (inR (xs (6 * n + 1)) 6 && decide (w (4 + (xs (6 * n + 1)).toNatClampNeg) ≠ 1))) cs hF hct hK
  dsimp only [Option.toList, List.cons_append, List.nil_append]
  have sm := cs1.2.1
  have r1 : RS f1 a1 w lg u V im tp t fl pl rs := RS_fx r (fun f r x y => fx.1 f r (by omega)) (fun a x y => fx.2 a (by omega))
  have e81 : mW a1 w = a1 := mW_self r1.1
  have hsc : f1 (32 * 11 + 8) (rf 11 80) = bI false := r1.2.2.1
  refine e_aload_n dL_law_588 rfl rfl ?_
  refine e_aload_n dL_law_589 rfl rfl ?_
  refine e_iload_n dL_law_590 rfl rfl ?_
  refine e_iconst (v := nI 1) dL_law_591 rfl ?_
  refine n_iadd dL_law_592 ?_
  refine e_sl dL_law_593 (show 6 * n + 1 < L by omega) hL2 ?_
  have hR := ct_X11_up (fi := f1) (ai := a1) (ar := ar) (N := N) (w := w) sm gw.1 (xs (6 * n + 1)) (sc := false) hsc 
  rw [e81] at hR
  refine e_callV (M' := mX11_up) (k' := 0) (z' := 0) (k2 := 64 + k) (z2 := 10800 + z) (As := [_]) dL_law_594 ml_L_65 ok_X11_up (by decide) rfl im_X11_up se_X11_up (hR) rfl rfl (Nat.le_of_ble_eq_true rfl) (by decide) ⟨by omega, by omega⟩ (Nat.le_of_ble_eq_true rfl) (fun r2 f2 g2 a2 q2 n2 hJ => ?_)
  obtain ⟨j1, j2, j3, j4, j5, j6⟩ := hJ
  rw [j1, j2, j3, j4, j5, j6]
  clear j1 j2 j3 j4 j5 j6 r2 f2 g2 a2 q2 n2
  dsimp only [Option.toList, List.cons_append, List.nil_append]
  have hls := LS_for (b := (inR (xs (6 * n + 1)) 6 && decide (w (4 + (xs (6 * n + 1)).toNatClampNeg) ≠ 1))) cs1 fx ts r p (T_upp gw (xs (6 * n + 1))) (by decide)
  refine e_icmp_eq (tgt := 1538) dL_law_597 (by decide) (fun _ => ?_) (fun hne => absurd rfl hne)
  exact e_wk (by omega) (by omega) (kk _ _ _ _ _ hls)
theorem lc_15 {L n k z : Nat} {xs : Nat → Int32} {fi : FI} {fr : FR} {ai : FI} {ar : FR} {N : Nat} {Q : EQ} (hL : 6 * n + 6 ≤ L) (hL2 : L ≤ 3072) (h : LSt fi fr ai ar N n) (kk : ∀ fi fr ai ar N, LSt fi fr ai ar N (n + 1) → EV (mL L xs) 11 k z 1538 [some (.ref 60), some (.ref (rf 10 0)), some (.ref (rf 11 80)), some (.int (nI (6 * n)))] [] fi fr ai ar N Q) : EV (mL L xs) 11 (64 + k) (10800 + z) 662 [some (.ref 60), some (.ref (rf 10 0)), some (.ref (rf 11 80)), some (.int (nI (6 * n)))] [] fi fr ai ar N Q := by
  obtain ⟨w, lg, u, V, im, tp, t, fl, pl, rs, cs, ts, r, p⟩ := h
  have gw := p.1.1
  have hb := GB_0 p.1 (show n < 512 by omega)
  have hu6 := p.2.2.2.2.2.2.2
  have hep := hb.1
  refine e_aload_n dL_law_662 rfl rfl ?_
  refine e_aload_n dL_law_663 rfl rfl ?_
  refine e_iload_n dL_law_664 rfl rfl ?_
  refine e_iconst (v := nI 1) dL_law_665 rfl ?_
  refine n_iadd dL_law_666 ?_
  refine e_sl dL_law_667 (show 6 * n + 1 < L by omega) hL2 ?_
  refine e_callV (M' := mX10_chunk) (k' := 0) (z' := 0) (k2 := 64 + k) (z2 := 10800 + z) (As := [_]) dL_law_668 ml_L_79 ok_X10_chunk (by decide) rfl im_X10_chunk se_X10_chunk (ct_X10_chunk cs.1 gw.1 cs.2.2.1  (xs (6 * n + 1)) ) rfl rfl (Nat.le_of_ble_eq_true rfl) (by decide) ⟨by omega, by omega⟩ (Nat.le_of_ble_eq_true rfl) (fun r1 f1 g1 a1 q1 n1 hI => ?_)
  obtain ⟨i1, i2, i3, i4, hF, hct, hK⟩ := hI
  rw [i1, i2, i3, i4]
  clear i1 i2 i3 i4 r1 g1 q1 n1
  obtain ⟨cs1, fx⟩ := CLS_g (b := (decide (1 ≤ (xs (6 * n + 1)).toInt ∧ (xs (6 * n + 1)).toInt ≤ 16))) cs hF hct hK
  dsimp only [Option.toList, List.cons_append, List.nil_append]
  have sm := cs1.2.1
  have r1 : RS f1 a1 w lg u V im tp t fl pl rs := RS_fx r (fun f r x y => fx.1 f r (by omega)) (fun a x y => fx.2 a (by omega))
  have e81 : mW a1 w = a1 := mW_self r1.1
  have hsc : f1 (32 * 11 + 8) (rf 11 80) = bI false := r1.2.2.1
  refine e_aload_n dL_law_671 rfl rfl ?_
  refine e_aload_n dL_law_672 rfl rfl ?_
  refine e_iload_n dL_law_673 rfl rfl ?_
  refine e_iconst (v := nI 1) dL_law_674 rfl ?_
  refine n_iadd dL_law_675 ?_
  refine e_sl dL_law_676 (show 6 * n + 1 < L by omega) hL2 ?_
  have hR := ct_X11_chunk (fi := f1) (ai := a1) (ar := ar) (N := N) (w := w) sm gw.1 (xs (6 * n + 1)) (sc := false) hsc 
  rw [e81] at hR
  rw [if_dec (p := 1 ≤ (xs (6 * n + 1)).toInt ∧ (xs (6 * n + 1)).toInt ≤ 16) (forF f1 false) f1, if_dec (p := 1 ≤ (xs (6 * n + 1)).toInt ∧ (xs (6 * n + 1)).toInt ≤ 16) (upN w 2 (xs (6 * n + 1)).toNatClampNeg) w] at hR
  refine e_callV (M' := mX11_chunk) (k' := 0) (z' := 0) (k2 := 64 + k) (z2 := 10800 + z) (As := [_]) dL_law_677 ml_L_82 ok_X11_chunk (by decide) rfl im_X11_chunk se_X11_chunk (hR) rfl rfl (Nat.le_of_ble_eq_true rfl) (by decide) ⟨by omega, by omega⟩ (Nat.le_of_ble_eq_true rfl) (fun r2 f2 g2 a2 q2 n2 hJ => ?_)
  obtain ⟨j1, j2, j3, j4, j5, j6⟩ := hJ
  rw [j1, j2, j3, j4, j5, j6]
  clear j1 j2 j3 j4 j5 j6 r2 f2 g2 a2 q2 n2
  dsimp only [Option.toList, List.cons_append, List.nil_append]
  have hls := LS_for (b := (decide (1 ≤ (xs (6 * n + 1)).toInt ∧ (xs (6 * n + 1)).toInt ≤ 16))) cs1 fx ts r p (T_chkB gw (xs (6 * n + 1))) (by decide)
  refine e_icmp_eq (tgt := 1538) dL_law_680 (by decide) (fun _ => ?_) (fun hne => absurd rfl hne)
  exact e_wk (by omega) (by omega) (kk _ _ _ _ _ hls)
theorem lc_34 {L n k z : Nat} {xs : Nat → Int32} {fi : FI} {fr : FR} {ai : FI} {ar : FR} {N : Nat} {Q : EQ} (hL : 6 * n + 6 ≤ L) (hL2 : L ≤ 3072) (h : LSt fi fr ai ar N n) (kk : ∀ fi fr ai ar N, LSt fi fr ai ar N (n + 1) → EV (mL L xs) 11 k z 1538 [some (.ref 60), some (.ref (rf 10 0)), some (.ref (rf 11 80)), some (.int (nI (6 * n)))] [] fi fr ai ar N Q) : EV (mL L xs) 11 (64 + k) (10800 + z) 1211 [some (.ref 60), some (.ref (rf 10 0)), some (.ref (rf 11 80)), some (.int (nI (6 * n)))] [] fi fr ai ar N Q := by
  obtain ⟨w, lg, u, V, im, tp, t, fl, pl, rs, cs, ts, r, p⟩ := h
  have gw := p.1.1
  have hb := GB_0 p.1 (show n < 512 by omega)
  have hu6 := p.2.2.2.2.2.2.2
  have hep := hb.1
  refine e_aload_n dL_law_1211 rfl rfl ?_
  refine e_aload_n dL_law_1212 rfl rfl ?_
  refine e_iload_n dL_law_1213 rfl rfl ?_
  refine e_iconst (v := nI 1) dL_law_1214 rfl ?_
  refine n_iadd dL_law_1215 ?_
  refine e_sl dL_law_1216 (show 6 * n + 1 < L by omega) hL2 ?_
  refine e_aload_n dL_law_1217 rfl rfl ?_
  refine e_iload_n dL_law_1218 rfl rfl ?_
  refine e_iconst (v := nI 2) dL_law_1219 rfl ?_
  refine n_iadd dL_law_1220 ?_
  refine e_sl dL_law_1221 (show 6 * n + 2 < L by omega) hL2 ?_
  refine e_aload_n dL_law_1222 rfl rfl ?_
  refine e_iload_n dL_law_1223 rfl rfl ?_
  refine e_iconst (v := nI 3) dL_law_1224 rfl ?_
  refine n_iadd dL_law_1225 ?_
  refine e_sl dL_law_1226 (show 6 * n + 3 < L by omega) hL2 ?_
  refine e_callV (M' := mX10_scan) (k' := 0) (z' := 0) (k2 := 64 + k) (z2 := 10800 + z) (As := [_, _, _]) dL_law_1227 ml_L_158 ok_X10_scan (by decide) rfl im_X10_scan se_X10_scan (ct_X10_scan cs.1 gw.1 cs.2.2.1  (xs (6 * n + 1)) (xs (6 * n + 2)) (xs (6 * n + 3)) (fun j hj => by have := hb.2 j hj; omega)) rfl rfl (Nat.le_of_ble_eq_true rfl) (by decide) ⟨by omega, by omega⟩ (Nat.le_of_ble_eq_true rfl) (fun r1 f1 g1 a1 q1 n1 hI => ?_)
  obtain ⟨i1, i2, i3, i4, hF, hct, hK⟩ := hI
  rw [i1, i2, i3, i4]
  clear i1 i2 i3 i4 r1 g1 q1 n1
  obtain ⟨cs1, fx⟩ := CLS_g (b := (scnB (xs (6 * n + 1)) (xs (6 * n + 2)) (xs (6 * n + 3)) && decide (anF w (xs (6 * n + 1)).toNatClampNeg (xs (6 * n + 2)).toNatClampNeg = 0))) cs hF hct hK
  dsimp only [Option.toList, List.cons_append, List.nil_append]
  have sm := cs1.2.1
  have r1 : RS f1 a1 w lg u V im tp t fl pl rs := RS_fx r (fun f r x y => fx.1 f r (by omega)) (fun a x y => fx.2 a (by omega))
  have e81 : mW a1 w = a1 := mW_self r1.1
  have hsc : f1 (32 * 11 + 8) (rf 11 80) = bI false := r1.2.2.1
  refine e_aload_n dL_law_1230 rfl rfl ?_
  refine e_aload_n dL_law_1231 rfl rfl ?_
  refine e_iload_n dL_law_1232 rfl rfl ?_
  refine e_iconst (v := nI 1) dL_law_1233 rfl ?_
  refine n_iadd dL_law_1234 ?_
  refine e_sl dL_law_1235 (show 6 * n + 1 < L by omega) hL2 ?_
  refine e_aload_n dL_law_1236 rfl rfl ?_
  refine e_iload_n dL_law_1237 rfl rfl ?_
  refine e_iconst (v := nI 2) dL_law_1238 rfl ?_
  refine n_iadd dL_law_1239 ?_
  refine e_sl dL_law_1240 (show 6 * n + 2 < L by omega) hL2 ?_
  refine e_aload_n dL_law_1241 rfl rfl ?_
  refine e_iload_n dL_law_1242 rfl rfl ?_
  refine e_iconst (v := nI 3) dL_law_1243 rfl ?_
  refine n_iadd dL_law_1244 ?_
  refine e_sl dL_law_1245 (show 6 * n + 3 < L by omega) hL2 ?_
  have hR := ct_X11_scan (fi := f1) (ai := a1) (ar := ar) (N := N) (w := w) sm gw.1 (xs (6 * n + 1)) (xs (6 * n + 2)) (xs (6 * n + 3)) (sc := false) hsc (fun j hj => by have := hb.2 j hj; omega)
  rw [e81] at hR
  refine e_callV (M' := mX11_scan) (k' := 0) (z' := 0) (k2 := 64 + k) (z2 := 10800 + z) (As := [_, _, _]) dL_law_1246 ml_L_161 ok_X11_scan (by decide) rfl im_X11_scan se_X11_scan (hR) rfl rfl (Nat.le_of_ble_eq_true rfl) (by decide) ⟨by omega, by omega⟩ (Nat.le_of_ble_eq_true rfl) (fun r2 f2 g2 a2 q2 n2 hJ => ?_)
  obtain ⟨j1, j2, j3, j4, j5, j6⟩ := hJ
  rw [j1, j2, j3, j4, j5, j6]
  clear j1 j2 j3 j4 j5 j6 r2 f2 g2 a2 q2 n2
  dsimp only [Option.toList, List.cons_append, List.nil_append]
  have hls := LS_for (b := (scnB (xs (6 * n + 1)) (xs (6 * n + 2)) (xs (6 * n + 3)) && decide (anF w (xs (6 * n + 1)).toNatClampNeg (xs (6 * n + 2)).toNatClampNeg = 0))) cs1 fx ts r p (T_scn gw (fun j hj => by have := hb.2 j hj; omega) (xs (6 * n + 1)) (xs (6 * n + 2)) (xs (6 * n + 3))) (by decide)
  refine e_icmp_eq (tgt := 1538) dL_law_1249 (by decide) (fun _ => ?_) (fun hne => absurd rfl hne)
  exact e_wk (by omega) (by omega) (kk _ _ _ _ _ hls)
