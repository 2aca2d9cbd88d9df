theorem lc_19 {L n k z : Nat} {xs : Nat → Int32} {fi : FI} {fr : FR} {ai : FI} {ar : FR} {N : Nat} {Q : EQ} (hL : 6 * n + 6 ≤ L) (hL2 : L ≤ 3072) (h : LSt fi fr ai ar N n) (kk : ∀ fi fr ai ar N, LSt fi fr ai ar N (n + 1) → EV (mL L xs) 11 k z 1538 [some (.ref 60), some (.ref (rf 10 0)), some (.ref (rf 11 80)), some (.int (nI (6 * n)))] [] fi fr ai ar N Q) : EV (mL L xs) 11 (64 + k) (10800 + z) 784 [some (.ref 60), some (.ref (rf 10 0)), some (.ref (rf 11 80)), some (.int (nI (6 * n)))] [] fi fr ai ar N Q := by
  obtain ⟨w, lg, u, V, im, tp, t, fl, pl, rs, cs, ts, r, p⟩ := h
  have gw := p.1.1
  have hb := GB_0 p.1 (show n < 512 by omega)
  have hu6 := p.2.2.2.2.2.2.2
  have hep := hb.1
  refine e_aload_n dL_law_784 rfl rfl ?_
  refine e_aload_n dL_law_785 rfl rfl ?_
  refine e_iload_n dL_law_786 rfl rfl ?_
  refine e_iconst (v := nI 1) dL_law_787 rfl ?_
  refine n_iadd dL_law_788 ?_
  refine e_sl dL_law_789 (show 6 * n + 1 < L by omega) hL2 ?_
  refine e_callV (M' := mX10_fault) (k' := 0) (z' := 0) (k2 := 64 + k) (z2 := 10800 + z) (As := [_]) dL_law_790 ml_L_97 ok_X10_fault (by decide) rfl im_X10_fault se_X10_fault (ct_X10_fault cs.1 gw.1 cs.2.2.1  (xs (6 * n + 1)) ) rfl rfl (Nat.le_of_ble_eq_true rfl) (by decide) ⟨by omega, by omega⟩ (Nat.le_of_ble_eq_true rfl) (fun r1 f1 g1 a1 q1 n1 hI => ?_)
  obtain ⟨i1, i2, i3, i4, i5, i6⟩ := hI
  rw [i1, i2, i3, i4, i5, i6]
  clear i1 i2 i3 i4 i5 i6 r1 f1 g1 a1 q1 n1
  have cs1 := cs
  have fx : FX fi ai fi ai := FX_rf
  dsimp only [Option.toList, List.cons_append, List.nil_append]
  rw [ts.2.2.1, ts.2.2.2.1, ts.2.2.2.2]
  have sm := cs1.2.1
  have r1 : RS fi ai w lg u V im tp t fl pl rs := RS_fx r (fun f r x y => fx.1 f r (by omega)) (fun a x y => fx.2 a (by omega))
  have e81 : mW ai w = ai := mW_self r1.1
  have hsc : fi (32 * 11 + 8) (rf 11 80) = bI false := r1.2.2.1
  refine e_aload_n dL_law_793 rfl rfl ?_
  refine e_aload_n dL_law_794 rfl rfl ?_
  refine e_iload_n dL_law_795 rfl rfl ?_
  refine e_iconst (v := nI 1) dL_law_796 rfl ?_
  refine n_iadd dL_law_797 ?_
  refine e_sl dL_law_798 (show 6 * n + 1 < L by omega) hL2 ?_
  have hR := ct_X11_fault (fi := fi) (ai := ai) (ar := ar) (N := N) (w := w) sm gw.1 (xs (6 * n + 1)) 
  rw [e81] at hR
  rw [r1.2.2.2.2.2.2.2.2.2.1, r1.2.2.2.2.2.2.2.2.2.2.1, r1.2.2.2.2.2.2.2.2.2.2.2] at hR
  refine e_callV (M' := mX11_fault) (k' := 0) (z' := 0) (k2 := 64 + k) (z2 := 10800 + z) (As := [_]) dL_law_799 ml_L_100 ok_X11_fault (by decide) rfl im_X11_fault se_X11_fault (hR) rfl rfl (Nat.le_of_ble_eq_true rfl) (by decide) ⟨by omega, by omega⟩ (Nat.le_of_ble_eq_true rfl) (fun r2 f2 g2 a2 q2 n2 hJ => ?_)
  obtain ⟨j1, j2, j3, j4, j5, j6⟩ := hJ
  rw [j1, j2, j3, j4, j5, j6]
  clear j1 j2 j3 j4 j5 j6 r2 f2 g2 a2 q2 n2
  dsimp only [Option.toList, List.cons_append, List.nil_append]
  have hls := LS_q cs1 fx ts r p
  refine e_icmp_eq (tgt := 1538) dL_law_802 (by decide) (fun _ => ?_) (fun hne => absurd rfl hne)
  exact e_wk (by omega) (by omega) (kk _ _ _ _ _ hls)
theorem lc_35 {L n k z : Nat} {xs : Nat → Int32} {fi : FI} {fr : FR} {ai : FI} {ar : FR} {N : Nat} {Q : EQ} (hL : 6 * n + 6 ≤ L) (hL2 : L ≤ 3072) (h : LSt fi fr ai ar N n) (kk : ∀ fi fr ai ar N, LSt fi fr ai ar N (n + 1) → EV (mL L xs) 11 k z 1538 [some (.ref 60), some (.ref (rf 10 0)), some (.ref (rf 11 80)), some (.int (nI (6 * n)))] [] fi fr ai ar N Q) : EV (mL L xs) 11 (64 + k) (10800 + z) 1254 [some (.ref 60), some (.ref (rf 10 0)), some (.ref (rf 11 80)), some (.int (nI (6 * n)))] [] fi fr ai ar N Q := by
  obtain ⟨w, lg, u, V, im, tp, t, fl, pl, rs, cs, ts, r, p⟩ := h
  have gw := p.1.1
  have hb := GB_0 p.1 (show n < 512 by omega)
  have hu6 := p.2.2.2.2.2.2.2
  have hep := hb.1
  refine e_aload_n dL_law_1254 rfl rfl ?_
  refine e_aload_n dL_law_1255 rfl rfl ?_
  refine e_iload_n dL_law_1256 rfl rfl ?_
  refine e_iconst (v := nI 1) dL_law_1257 rfl ?_
  refine n_iadd dL_law_1258 ?_
  refine e_sl dL_law_1259 (show 6 * n + 1 < L by omega) hL2 ?_
  refine e_aload_n dL_law_1260 rfl rfl ?_
  refine e_iload_n dL_law_1261 rfl rfl ?_
  refine e_iconst (v := nI 2) dL_law_1262 rfl ?_
  refine n_iadd dL_law_1263 ?_
  refine e_sl dL_law_1264 (show 6 * n + 2 < L by omega) hL2 ?_
  refine e_callV (M' := mX10_emptied) (k' := 0) (z' := 0) (k2 := 64 + k) (z2 := 10800 + z) (As := [_, _]) dL_law_1265 ml_L_162 ok_X10_emptied (by decide) rfl im_X10_emptied se_X10_emptied (ct_X10_emptied cs.1 gw.1 cs.2.2.1  (xs (6 * n + 1)) (xs (6 * n + 2)) ) rfl rfl (Nat.le_of_ble_eq_true rfl) (by decide) ⟨by omega, by omega⟩ (Nat.le_of_ble_eq_true rfl) (fun r1 f1 g1 a1 q1 n1 hI => ?_)
  obtain ⟨i1, i2, i3, i4, hF, hK⟩ := hI
  rw [i1, i2, i3, i4]
  clear i1 i2 i3 i4 r1 g1 q1 n1
  obtain ⟨cs1, fx⟩ := CLS_k cs hF hK
  dsimp only [Option.toList, List.cons_append, List.nil_append]
  have sm := cs1.2.1
  have r1 : RS f1 a1 w lg u V im tp t fl pl rs := RS_fx r (fun f r x y => fx.1 f r (by omega)) (fun a x y => fx.2 a (by omega))
  have e81 : mW a1 w = a1 := mW_self r1.1
  have hsc : f1 (32 * 11 + 8) (rf 11 80) = bI false := r1.2.2.1
  refine e_aload_n dL_law_1268 rfl rfl ?_
  refine e_aload_n dL_law_1269 rfl rfl ?_
  refine e_iload_n dL_law_1270 rfl rfl ?_
  refine e_iconst (v := nI 1) dL_law_1271 rfl ?_
  refine n_iadd dL_law_1272 ?_
  refine e_sl dL_law_1273 (show 6 * n + 1 < L by omega) hL2 ?_
  refine e_aload_n dL_law_1274 rfl rfl ?_
  refine e_iload_n dL_law_1275 rfl rfl ?_
  refine e_iconst (v := nI 2) dL_law_1276 rfl ?_
  refine n_iadd dL_law_1277 ?_
  refine e_sl dL_law_1278 (show 6 * n + 2 < L by omega) hL2 ?_
  have hR := ct_X11_emptied (fi := f1) (ai := a1) (ar := ar) (N := N) (w := w) sm gw.1 (xs (6 * n + 1)) (xs (6 * n + 2)) 
  rw [e81] at hR
  refine e_callV (M' := mX11_emptied) (k' := 0) (z' := 0) (k2 := 64 + k) (z2 := 10800 + z) (As := [_, _]) dL_law_1279 ml_L_166 ok_X11_emptied (by decide) rfl im_X11_emptied se_X11_emptied (hR) rfl rfl (Nat.le_of_ble_eq_true rfl) (by decide) ⟨by omega, by omega⟩ (Nat.le_of_ble_eq_true rfl) (fun r2 f2 g2 a2 q2 n2 hJ => ?_)
  have ts1 := TS_fx ts (fun f r hr => fx.1 f r (by omega)) (fun a hr => fx.2 a (by omega)) (f1 := f1) (a1 := a1)
  obtain ⟨j1, ⟨b1, b2, b3, j2⟩, j3, ⟨gg, j4⟩, j5, j6⟩ := hJ
  rw [j1, j2, j3, j4, j5, j6]
  clear j1 j2 j3 j4 j5 j6 r2 f2 g2 a2 q2 n2
  dsimp only [Option.toList, List.cons_append, List.nil_append]
  have hls := LS_nx (a := b1) (b := b2) (c := b3) (a2 := mW (sA a1 (rf 32 82) gg) w) cs1 ts1 r1 (PG_q p) (Or.inr ⟨gg, a1 (rf 34 85), by rw [sA_k], fun _ _ => rfl⟩)
  refine e_lcmp dL_law_1282 ?_
  refine l_if_eq (tgt := 1538) dL_law_1283 (by decide) (fun _ => ?_) (fun hne => absurd rfl hne)
  exact e_wk (by omega) (by omega) (kk _ _ _ _ _ hls)
theorem lc_36 {L n k z : Nat} {xs : Nat → Int32} {fi : FI} {fr : FR} {ai : FI} {ar : FR} {N : Nat} {Q : EQ} (hL : 6 * n + 6 ≤ L) (hL2 : L ≤ 3072) (h : LSt fi fr ai ar N n) (kk : ∀ fi fr ai ar N, LSt fi fr ai ar N (n + 1) → EV (mL L xs) 11 k z 1538 [some (.ref 60), some (.ref (rf 10 0)), some (.ref (rf 11 80)), some (.int (nI (6 * n)))] [] fi fr ai ar N Q) : EV (mL L xs) 11 (64 + k) (10800 + z) 1288 [some (.ref 60), some (.ref (rf 10 0)), some (.ref (rf 11 80)), some (.int (nI (6 * n)))] [] fi fr ai ar N Q := by
  obtain ⟨w, lg, u, V, im, tp, t, fl, pl, rs, cs, ts, r, p⟩ := h
  have gw := p.1.1
  have hb := GB_0 p.1 (show n < 512 by omega)
  have hu6 := p.2.2.2.2.2.2.2
  have hep := hb.1
  refine e_aload_n dL_law_1288 rfl rfl ?_
  refine e_aload_n dL_law_1289 rfl rfl ?_
  refine e_iload_n dL_law_1290 rfl rfl ?_
  refine e_iconst (v := nI 1) dL_law_1291 rfl ?_
  refine n_iadd dL_law_1292 ?_
  refine e_sl dL_law_1293 (show 6 * n + 1 < L by omega) hL2 ?_
  refine e_callV (M' := mX10_cuts) (k' := 0) (z' := 0) (k2 := 64 + k) (z2 := 10800 + z) (As := [_]) dL_law_1294 ml_L_167 ok_X10_cuts (by decide) rfl im_X10_cuts se_X10_cuts (ct_X10_cuts cs.1 gw.1 cs.2.2.1  (xs (6 * n + 1)) ) rfl rfl (Nat.le_of_ble_eq_true rfl) (by decide) ⟨by omega, by omega⟩ (Nat.le_of_ble_eq_true rfl) (fun r1 f1 g1 a1 q1 n1 hI => ?_)
  obtain ⟨i1, i2, i3, i4, i5, i6⟩ := hI
  rw [i1, i2, i3, i4, i5, i6]
  clear i1 i2 i3 i4 i5 i6 r1 f1 g1 a1 q1 n1
  have cs1 := cs
  have fx : FX fi ai fi ai := FX_rf
  dsimp only [Option.toList, List.cons_append, List.nil_append]
  have sm := cs1.2.1
  have r1 : RS fi ai w lg u V im tp t fl pl rs := RS_fx r (fun f r x y => fx.1 f r (by omega)) (fun a x y => fx.2 a (by omega))
  have e81 : mW ai w = ai := mW_self r1.1
  have hsc : fi (32 * 11 + 8) (rf 11 80) = bI false := r1.2.2.1
  refine e_aload_n dL_law_1297 rfl rfl ?_
  refine e_aload_n dL_law_1298 rfl rfl ?_
  refine e_iload_n dL_law_1299 rfl rfl ?_
  refine e_iconst (v := nI 1) dL_law_1300 rfl ?_
  refine n_iadd dL_law_1301 ?_
  refine e_sl dL_law_1302 (show 6 * n + 1 < L by omega) hL2 ?_
  have hR := ct_X11_cuts (fi := fi) (ai := ai) (ar := ar) (N := N) (w := w) sm gw.1 (xs (6 * n + 1)) 
  rw [e81] at hR
  refine e_callV (M' := mX11_cuts) (k' := 0) (z' := 0) (k2 := 64 + k) (z2 := 10800 + z) (As := [_]) dL_law_1303 ml_L_170 ok_X11_cuts (by decide) rfl im_X11_cuts se_X11_cuts (hR) rfl rfl (Nat.le_of_ble_eq_true rfl) (by decide) ⟨by omega, by omega⟩ (Nat.le_of_ble_eq_true rfl) (fun r2 f2 g2 a2 q2 n2 hJ => ?_)
  obtain ⟨j1, j2, j3, j4, j5, j6⟩ := hJ
  rw [j1, j2, j3, j4, j5, j6]
  clear j1 j2 j3 j4 j5 j6 r2 f2 g2 a2 q2 n2
  dsimp only [Option.toList, List.cons_append, List.nil_append]
  have hls := LS_q cs1 fx ts r p
  refine e_icmp_eq (tgt := 1538) dL_law_1306 (by decide) (fun _ => ?_) (fun hne => absurd rfl hne)
  exact e_wk (by omega) (by omega) (kk _ _ _ _ _ hls)
theorem lc_37 {L n k z : Nat} {xs : Nat → Int32} {fi : FI} {fr : FR} {ai : FI} {ar : FR} {N : Nat} {Q : EQ} (hL : 6 * n + 6 ≤ L) (hL2 : L ≤ 3072) (h : LSt fi fr ai ar N n) (kk : ∀ fi fr ai ar N, LSt fi fr ai ar N (n + 1) → EV (mL L xs) 11 k z 1538 [some (.ref 60), some (.ref (rf 10 0)), some (.ref (rf 11 80)), some (.int (nI (6 * n)))] [] fi fr ai ar N Q) : EV (mL L xs) 11 (64 + k) (10800 + z) 1311 [some (.ref 60), some (.ref (rf 10 0)), some (.ref (rf 11 80)), some (.int (nI (6 * n)))] [] fi fr ai ar N Q := by
  obtain ⟨w, lg, u, V, im, tp, t, fl, pl, rs, cs, ts, r, p⟩ := h
  have gw := p.1.1
  have hb := GB_0 p.1 (show n < 512 by omega)
  have hu6 := p.2.2.2.2.2.2.2
  have hep := hb.1
  refine e_aload_n dL_law_1311 rfl rfl ?_
  refine e_aload_n dL_law_1312 rfl rfl ?_
  refine e_iload_n dL_law_1313 rfl rfl ?_
  refine e_iconst (v := nI 1) dL_law_1314 rfl ?_
  refine n_iadd dL_law_1315 ?_
  refine e_sl dL_law_1316 (show 6 * n + 1 < L by omega) hL2 ?_
  refine e_aload_n dL_law_1317 rfl rfl ?_
  refine e_iload_n dL_law_1318 rfl rfl ?_
  refine e_iconst (v := nI 2) dL_law_1319 rfl ?_
  refine n_iadd dL_law_1320 ?_
  refine e_sl dL_law_1321 (show 6 * n + 2 < L by omega) hL2 ?_
  refine e_callV (M' := mX10_changeOf) (k' := 0) (z' := 0) (k2 := 64 + k) (z2 := 10800 + z) (As := [_, _]) dL_law_1322 ml_L_171 ok_X10_changeOf (by decide) rfl im_X10_changeOf se_X10_changeOf (ct_X10_changeOf cs.1 gw.1 cs.2.2.1 rfl (chg_lt r.2.2.2.2.2.2.1) (xs (6 * n + 1)) (xs (6 * n + 2)) ) rfl rfl (Nat.le_of_ble_eq_true rfl) (by decide) ⟨by omega, by omega⟩ (Nat.le_of_ble_eq_true rfl) (fun r1 f1 g1 a1 q1 n1 hI => ?_)
  obtain ⟨i1, i2, i3, i4, i5, i6⟩ := hI
  rw [i1, i2, i3, i4, i5, i6]
  clear i1 i2 i3 i4 i5 i6 r1 f1 g1 a1 q1 n1
  have cs1 := cs
  have fx : FX fi ai fi ai := FX_rf
  dsimp only [Option.toList, List.cons_append, List.nil_append]
  have sm := cs1.2.1
  have r1 : RS fi ai w lg u V im tp t fl pl rs := RS_fx r (fun f r x y => fx.1 f r (by omega)) (fun a x y => fx.2 a (by omega))
  have e81 : mW ai w = ai := mW_self r1.1
  have hsc : fi (32 * 11 + 8) (rf 11 80) = bI false := r1.2.2.1
  refine e_aload_n dL_law_1325 rfl rfl ?_
  refine e_aload_n dL_law_1326 rfl rfl ?_
  refine e_iload_n dL_law_1327 rfl rfl ?_
  refine e_iconst (v := nI 1) dL_law_1328 rfl ?_
  refine n_iadd dL_law_1329 ?_
  refine e_sl dL_law_1330 (show 6 * n + 1 < L by omega) hL2 ?_
  refine e_aload_n dL_law_1331 rfl rfl ?_
  refine e_iload_n dL_law_1332 rfl rfl ?_
  refine e_iconst (v := nI 2) dL_law_1333 rfl ?_
  refine n_iadd dL_law_1334 ?_
  refine e_sl dL_law_1335 (show 6 * n + 2 < L by omega) hL2 ?_
  have hR := ct_X11_changeOf (fi := fi) (ai := ai) (ar := ar) (N := N) (w := w) sm gw.1 (xs (6 * n + 1)) (xs (6 * n + 2)) 
  rw [e81] at hR
  rw [chg_eq r1.2.2.2.2.2.2.1] at hR
  refine e_callV (M' := mX11_changeOf) (k' := 0) (z' := 0) (k2 := 64 + k) (z2 := 10800 + z) (As := [_, _]) dL_law_1336 ml_L_174 ok_X11_changeOf (by decide) rfl im_X11_changeOf se_X11_changeOf (hR) rfl rfl (Nat.le_of_ble_eq_true rfl) (by decide) ⟨by omega, by omega⟩ (Nat.le_of_ble_eq_true rfl) (fun r2 f2 g2 a2 q2 n2 hJ => ?_)
  obtain ⟨j1, j2, j3, j4, j5, j6⟩ := hJ
  rw [j1, j2, j3, j4, j5, j6]
  clear j1 j2 j3 j4 j5 j6 r2 f2 g2 a2 q2 n2
  dsimp only [Option.toList, List.cons_append, List.nil_append]
  have hls := LS_q cs1 fx ts r p
  refine e_icmp_eq (tgt := 1538) dL_law_1339 (by decide) (fun _ => ?_) (fun hne => absurd rfl hne)
  exact e_wk (by omega) (by omega) (kk _ _ _ _ _ hls)
theorem lc_38 {L n k z : Nat} {xs : Nat → Int32} {fi : FI} {fr : FR} {ai : FI} {ar : FR} {N : Nat} {Q : EQ} (hL : 6 * n + 6 ≤ L) (hL2 : L ≤ 3072) (h : LSt fi fr ai ar N n) (kk : ∀ fi fr ai ar N, LSt fi fr ai ar N (n + 1) → EV (mL L xs) 11 k z 1538 [some (.ref 60), some (.ref (rf 10 0)), some (.ref (rf 11 80)), some (.int (nI (6 * n)))] [] fi fr ai ar N Q) : EV (mL L xs) 11 (64 + k) (10800 + z) 1344 [some (.ref 60), some (.ref (rf 10 0)), some (.ref (rf 11 80)), some (.int (nI (6 * n)))] [] fi fr ai ar N Q := by
  obtain ⟨w, lg, u, V, im, tp, t, fl, pl, rs, cs, ts, r, p⟩ := h
  have gw := p.1.1
  have hb := GB_0 p.1 (show n < 512 by omega)
  have hu6 := p.2.2.2.2.2.2.2
  have hep := hb.1
  refine e_aload_n dL_law_1344 rfl rfl ?_
  refine e_callV (M' := mX10_sound) (k' := 0) (z' := 0) (k2 := 64 + k) (z2 := 10800 + z) (As := []) dL_law_1345 ml_L_175 ok_X10_sound (by decide) rfl im_X10_sound se_X10_sound (ct_X10_sound cs.1 gw.1 cs.2.2.1   ) rfl rfl (Nat.le_of_ble_eq_true rfl) (by decide) ⟨by omega, by omega⟩ (Nat.le_of_ble_eq_true rfl) (fun r1 f1 g1 a1 q1 n1 hI => ?_)
  obtain ⟨i1, i2, i3, i4, i5, i6⟩ := hI
  rw [i1, i2, i3, i4, i5, i6]
  clear i1 i2 i3 i4 i5 i6 r1 f1 g1 a1 q1 n1
  have cs1 := cs
  have fx : FX fi ai fi ai := FX_rf
  dsimp only [Option.toList, List.cons_append, List.nil_append]
  have sm := cs1.2.1
  have r1 : RS fi ai w lg u V im tp t fl pl rs := RS_fx r (fun f r x y => fx.1 f r (by omega)) (fun a x y => fx.2 a (by omega))
  have e81 : mW ai w = ai := mW_self r1.1
  have hsc : fi (32 * 11 + 8) (rf 11 80) = bI false := r1.2.2.1
  refine e_aload_n dL_law_1348 rfl rfl ?_
  have hR := ct_X11_sound (fi := fi) (ai := ai) (ar := ar) (N := N) (w := w) sm gw.1  
  rw [e81] at hR
  refine e_callV (M' := mX11_sound) (k' := 0) (z' := 0) (k2 := 64 + k) (z2 := 10800 + z) (As := []) dL_law_1349 ml_L_178 ok_X11_sound (by decide) rfl im_X11_sound se_X11_sound (hR) rfl rfl (Nat.le_of_ble_eq_true rfl) (by decide) ⟨by omega, by omega⟩ (Nat.le_of_ble_eq_true rfl) (fun r2 f2 g2 a2 q2 n2 hJ => ?_)
  obtain ⟨j1, j2, j3, j4, j5, j6⟩ := hJ
  rw [j1, j2, j3, j4, j5, j6]
  clear j1 j2 j3 j4 j5 j6 r2 f2 g2 a2 q2 n2
  dsimp only [Option.toList, List.cons_append, List.nil_append]
  have hls := LS_q cs1 fx ts r p
  refine e_icmp_eq (tgt := 1538) dL_law_1352 (by decide) (fun _ => ?_) (fun hne => absurd rfl hne)
  exact e_wk (by omega) (by omega) (kk _ _ _ _ _ hls)
theorem lc_39 {L n k z : Nat} {xs : Nat → Int32} {fi : FI} {fr : FR} {ai : FI} {ar : FR} {N : Nat} {Q : EQ} (hL : 6 * n + 6 ≤ L) (hL2 : L ≤ 3072) (h : LSt fi fr ai ar N n) (kk : ∀ fi fr ai ar N, LSt fi fr ai ar N (n + 1) → EV (mL L xs) 11 k z 1538 [some (.ref 60), some (.ref (rf 10 0)), some (.ref (rf 11 80)), some (.int (nI (6 * n)))] [] fi fr ai ar N Q) : EV (mL L xs) 11 (64 + k) (10800 + z) 1357 [some (.ref 60), some (.ref (rf 10 0)), some (.ref (rf 11 80)), some (.int (nI (6 * n)))] [] fi fr ai ar N Q := by
  obtain ⟨w, lg, u, V, im, tp, t, fl, pl, rs, cs, ts, r, p⟩ := h
  have gw := p.1.1
  have hb := GB_0 p.1 (show n < 512 by omega)
  have hu6 := p.2.2.2.2.2.2.2
  have hep := hb.1
  refine e_aload_n dL_law_1357 rfl rfl ?_
  refine e_callV (M' := mX10_spare) (k' := 0) (z' := 0) (k2 := 64 + k) (z2 := 10800 + z) (As := []) dL_law_1358 ml_L_179 ok_X10_spare (by decide) rfl im_X10_spare se_X10_spare (ct_X10_spare cs.1 gw.1 cs.2.2.1   ) rfl rfl (Nat.le_of_ble_eq_true rfl) (by decide) ⟨by omega, by omega⟩ (Nat.le_of_ble_eq_true rfl) (fun r1 f1 g1 a1 q1 n1 hI => ?_)
  obtain ⟨i1, i2, i3, i4, i5, i6⟩ := hI
  rw [i1, i2, i3, i4, i5, i6]
  clear i1 i2 i3 i4 i5 i6 r1 f1 g1 a1 q1 n1
  have cs1 := cs
  have fx : FX fi ai fi ai := FX_rf
  dsimp only [Option.toList, List.cons_append, List.nil_append]
  have sm := cs1.2.1
  have r1 : RS fi ai w lg u V im tp t fl pl rs := RS_fx r (fun f r x y => fx.1 f r (by omega)) (fun a x y => fx.2 a (by omega))
  have e81 : mW ai w = ai := mW_self r1.1
  have hsc : fi (32 * 11 + 8) (rf 11 80) = bI false := r1.2.2.1
  refine e_aload_n dL_law_1361 rfl rfl ?_
  have hR := ct_X11_spare (fi := fi) (ai := ai) (ar := ar) (N := N) (w := w) sm gw.1  
  rw [e81] at hR
  refine e_callV (M' := mX11_spare) (k' := 0) (z' := 0) (k2 := 64 + k) (z2 := 10800 + z) (As := []) dL_law_1362 ml_L_182 ok_X11_spare (by decide) rfl im_X11_spare se_X11_spare (hR) rfl rfl (Nat.le_of_ble_eq_true rfl) (by decide) ⟨by omega, by omega⟩ (Nat.le_of_ble_eq_true rfl) (fun r2 f2 g2 a2 q2 n2 hJ => ?_)
  obtain ⟨j1, j2, j3, j4, j5, j6⟩ := hJ
  rw [j1, j2, j3, j4, j5, j6]
  clear j1 j2 j3 j4 j5 j6 r2 f2 g2 a2 q2 n2
  dsimp only [Option.toList, List.cons_append, List.nil_append]
  have hls := LS_q cs1 fx ts r p
  refine e_icmp_eq (tgt := 1538) dL_law_1365 (by decide) (fun _ => ?_) (fun hne => absurd rfl hne)
  exact e_wk (by omega) (by omega) (kk _ _ _ _ _ hls)
theorem lc_40 {L n k z : Nat} {xs : Nat → Int32} {fi : FI} {fr : FR} {ai : FI} {ar : FR} {N : Nat} {Q : EQ} (hL : 6 * n + 6 ≤ L) (hL2 : L ≤ 3072) (h : LSt fi fr ai ar N n) (kk : ∀ fi fr ai ar N, LSt fi fr ai ar N (n + 1) → EV (mL L xs) 11 k z 1538 [some (.ref 60), some (.ref (rf 10 0)), some (.ref (rf 11 80)), some (.int (nI (6 * n)))] [] fi fr ai ar N Q) : EV (mL L xs) 11 (64 + k) (10800 + z) 1370 [some (.ref 60), some (.ref (rf 10 0)), some (.ref (rf 11 80)), some (.int (nI (6 * n)))] [] fi fr ai ar N Q := by
  obtain ⟨w, lg, u, V, im, tp, t, fl, pl, rs, cs, ts, r, p⟩ := h
  have gw := p.1.1
  have hb := GB_0 p.1 (show n < 512 by omega)
  have hu6 := p.2.2.2.2.2.2.2
  have hep := hb.1
  refine e_aload_n dL_law_1370 rfl rfl ?_
  refine e_callV (M' := mX10_even) (k' := 0) (z' := 0) (k2 := 64 + k) (z2 := 10800 + z) (As := []) dL_law_1371 ml_L_183 ok_X10_even (by decide) rfl im_X10_even se_X10_even (ct_X10_even cs.1 gw.1 cs.2.2.1   ) rfl rfl (Nat.le_of_ble_eq_true rfl) (by decide) ⟨by omega, by omega⟩ (Nat.le_of_ble_eq_true rfl) (fun r1 f1 g1 a1 q1 n1 hI => ?_)
  obtain ⟨i1, i2, i3, i4, hF, hK⟩ := hI
  rw [i1, i2, i3, i4]
  clear i1 i2 i3 i4 r1 g1 q1 n1
  obtain ⟨cs1, fx⟩ := CLS_k cs hF hK
  dsimp only [Option.toList, List.cons_append, List.nil_append]
  have sm := cs1.2.1
  have r1 : RS f1 a1 w lg u V im tp t fl pl rs := RS_fx r (fun f r x y => fx.1 f r (by omega)) (fun a x y => fx.2 a (by omega))
  have e81 : mW a1 w = a1 := mW_self r1.1
  have hsc : f1 (32 * 11 + 8) (rf 11 80) = bI false := r1.2.2.1
  refine e_aload_n dL_law_1374 rfl rfl ?_
  have hR := ct_X11_even (fi := f1) (ai := a1) (ar := ar) (N := N) (w := w) sm gw.1  
  rw [e81] at hR
  refine e_callV (M' := mX11_even) (k' := 0) (z' := 0) (k2 := 64 + k) (z2 := 10800 + z) (As := []) dL_law_1375 ml_L_186 ok_X11_even (by decide) rfl im_X11_even se_X11_even (hR) rfl rfl (Nat.le_of_ble_eq_true rfl) (by decide) ⟨by omega, by omega⟩ (Nat.le_of_ble_eq_true rfl) (fun r2 f2 g2 a2 q2 n2 hJ => ?_)
  obtain ⟨j1, j2, j3, j4, j5, j6⟩ := hJ
  rw [j1, j2, j3, j4, j5, j6]
  clear j1 j2 j3 j4 j5 j6 r2 f2 g2 a2 q2 n2
  dsimp only [Option.toList, List.cons_append, List.nil_append]
  have hls := LS_q cs1 fx ts r p
  refine e_lcmp dL_law_1378 ?_
  refine l_if_eq (tgt := 1538) dL_law_1379 (by decide) (fun _ => ?_) (fun hne => absurd rfl hne)
  exact e_wk (by omega) (by omega) (kk _ _ _ _ _ hls)
theorem lc_41 {L n k z : Nat} {xs : Nat → Int32} {fi : FI} {fr : FR} {ai : FI} {ar : FR} {N : Nat} {Q : EQ} (hL : 6 * n + 6 ≤ L) (hL2 : L ≤ 3072) (h : LSt fi fr ai ar N n) (kk : ∀ fi fr ai ar N, LSt fi fr ai ar N (n + 1) → EV (mL L xs) 11 k z 1538 [some (.ref 60), some (.ref (rf 10 0)), some (.ref (rf 11 80)), some (.int (nI (6 * n)))] [] fi fr ai ar N Q) : EV (mL L xs) 11 (64 + k) (10800 + z) 1384 [some (.ref 60), some (.ref (rf 10 0)), some (.ref (rf 11 80)), some (.int (nI (6 * n)))] [] fi fr ai ar N Q := by
  obtain ⟨w, lg, u, V, im, tp, t, fl, pl, rs, cs, ts, r, p⟩ := h
  have gw := p.1.1
  have hb := GB_0 p.1 (show n < 512 by omega)
  have hu6 := p.2.2.2.2.2.2.2
  have hep := hb.1
  refine e_aload_n dL_law_1384 rfl rfl ?_
  refine e_aload_n dL_law_1385 rfl rfl ?_
  refine e_iload_n dL_law_1386 rfl rfl ?_
  refine e_iconst (v := nI 1) dL_law_1387 rfl ?_
  refine n_iadd dL_law_1388 ?_
  refine e_sl dL_law_1389 (show 6 * n + 1 < L by omega) hL2 ?_
  refine e_callV (M' := mX10_next) (k' := 0) (z' := 0) (k2 := 64 + k) (z2 := 10800 + z) (As := [_]) dL_law_1390 ml_L_187 ok_X10_next (by decide) rfl im_X10_next se_X10_next (ct_X10_next cs.1 gw.1 cs.2.2.1  (xs (6 * n + 1)) ) rfl rfl (Nat.le_of_ble_eq_true rfl) (by decide) ⟨by omega, by omega⟩ (Nat.le_of_ble_eq_true rfl) (fun r1 f1 g1 a1 q1 n1 hI => ?_)
  obtain ⟨i1, i2, i3, i4, hF, hK⟩ := hI
  rw [i1, i2, i3, i4]
  clear i1 i2 i3 i4 r1 g1 q1 n1
  obtain ⟨cs1, fx⟩ := CLS_k cs hF hK
  dsimp only [Option.toList, List.cons_append, List.nil_append]
  have sm := cs1.2.1
  have r1 : RS f1 a1 w lg u V im tp t fl pl rs := RS_fx r (fun f r x y => fx.1 f r (by omega)) (fun a x y => fx.2 a (by omega))
  have e81 : mW a1 w = a1 := mW_self r1.1
  have hsc : f1 (32 * 11 + 8) (rf 11 80) = bI false := r1.2.2.1
  refine e_aload_n dL_law_1393 rfl rfl ?_
  refine e_aload_n dL_law_1394 rfl rfl ?_
  refine e_iload_n dL_law_1395 rfl rfl ?_
  refine e_iconst (v := nI 1) dL_law_1396 rfl ?_
  refine n_iadd dL_law_1397 ?_
  refine e_sl dL_law_1398 (show 6 * n + 1 < L by omega) hL2 ?_
  have hR := ct_X11_next (fi := f1) (ai := a1) (ar := ar) (N := N) (w := w) sm gw.1 (xs (6 * n + 1)) 
  rw [e81] at hR
  refine e_callV (M' := mX11_next) (k' := 0) (z' := 0) (k2 := 64 + k) (z2 := 10800 + z) (As := [_]) dL_law_1399 ml_L_190 ok_X11_next (by decide) rfl im_X11_next se_X11_next (hR) rfl rfl (Nat.le_of_ble_eq_true rfl) (by decide) ⟨by omega, by omega⟩ (Nat.le_of_ble_eq_true rfl) (fun r2 f2 g2 a2 q2 n2 hJ => ?_)
  have ts1 := TS_fx ts (fun f r hr => fx.1 f r (by omega)) (fun a hr => fx.2 a (by omega)) (f1 := f1) (a1 := a1)
  obtain ⟨j1, j2, j3, j4, j5, j6⟩ := hJ
  rw [j1, j2, j3, j4, j5, j6]
  clear j1 j2 j3 j4 j5 j6 r2 f2 g2 a2 q2 n2
  dsimp only [Option.toList, List.cons_append, List.nil_append]
  have hls := LS_nx (a := nx1 (nxO w)) (b := nx2 (nxO w)) (c := nx3 (nxO w)) cs1 ts1 r1 (PG_q p) (Or.inl rfl)
  refine e_icmp_eq (tgt := 1538) dL_law_1402 (by decide) (fun _ => ?_) (fun hne => absurd rfl hne)
  exact e_wk (by omega) (by omega) (kk _ _ _ _ _ hls)
theorem lc_42 {L n k z : Nat} {xs : Nat → Int32} {fi : FI} {fr : FR} {ai : FI} {ar : FR} {N : Nat} {Q : EQ} (hL : 6 * n + 6 ≤ L) (hL2 : L ≤ 3072) (h : LSt fi fr ai ar N n) (kk : ∀ fi fr ai ar N, LSt fi fr ai ar N (n + 1) → EV (mL L xs) 11 k z 1538 [some (.ref 60), some (.ref (rf 10 0)), some (.ref (rf 11 80)), some (.int (nI (6 * n)))] [] fi fr ai ar N Q) : EV (mL L xs) 11 (64 + k) (10800 + z) 1407 [some (.ref 60), some (.ref (rf 10 0)), some (.ref (rf 11 80)), some (.int (nI (6 * n)))] [] fi fr ai ar N Q := by
  obtain ⟨w, lg, u, V, im, tp, t, fl, pl, rs, cs, ts, r, p⟩ := h
  have gw := p.1.1
  have hb := GB_0 p.1 (show n < 512 by omega)
  have hu6 := p.2.2.2.2.2.2.2
  have hep := hb.1
  refine e_aload_n dL_law_1407 rfl rfl ?_
  refine e_aload_n dL_law_1408 rfl rfl ?_
  refine e_iload_n dL_law_1409 rfl rfl ?_
  refine e_iconst (v := nI 1) dL_law_1410 rfl ?_
  refine n_iadd dL_law_1411 ?_
  refine e_sl dL_law_1412 (show 6 * n + 1 < L by omega) hL2 ?_
  refine e_callV (M' := mX10_rounds) (k' := 0) (z' := 0) (k2 := 64 + k) (z2 := 10800 + z) (As := [_]) dL_law_1413 ml_L_191 ok_X10_rounds (by decide) rfl im_X10_rounds se_X10_rounds (ct_X10_rounds cs.1 gw.1 cs.2.2.1 gw.2.1 (by omega) (xs (6 * n + 1)) ) rfl rfl (Nat.le_of_ble_eq_true rfl) (by decide) ⟨by omega, by omega⟩ (Nat.le_of_ble_eq_true rfl) (fun r1 f1 g1 a1 q1 n1 hI => ?_)
  obtain ⟨i1, i2, i3, i4, hF, hK⟩ := hI
  rw [i1, i2, i3, i4]
  clear i1 i2 i3 i4 r1 g1 q1 n1
  obtain ⟨cs1, fx⟩ := CLS_k cs hF hK
  dsimp only [Option.toList, List.cons_append, List.nil_append]
  have sm := cs1.2.1
  have r1 : RS f1 a1 w lg u V im tp t fl pl rs := RS_fx r (fun f r x y => fx.1 f r (by omega)) (fun a x y => fx.2 a (by omega))
  have e81 : mW a1 w = a1 := mW_self r1.1
  have hsc : f1 (32 * 11 + 8) (rf 11 80) = bI false := r1.2.2.1
  refine e_aload_n dL_law_1416 rfl rfl ?_
  refine e_aload_n dL_law_1417 rfl rfl ?_
  refine e_iload_n dL_law_1418 rfl rfl ?_
  refine e_iconst (v := nI 1) dL_law_1419 rfl ?_
  refine n_iadd dL_law_1420 ?_
  refine e_sl dL_law_1421 (show 6 * n + 1 < L by omega) hL2 ?_
  have hR := ct_X11_rounds (fi := f1) (ai := a1) (ar := ar) (N := N) (w := w) sm gw.1 (xs (6 * n + 1)) (by omega)
  rw [e81] at hR
  refine e_callV (M' := mX11_rounds) (k' := 0) (z' := 0) (k2 := 64 + k) (z2 := 10800 + z) (As := [_]) dL_law_1422 ml_L_194 ok_X11_rounds (by decide) rfl im_X11_rounds se_X11_rounds (hR) rfl rfl (Nat.le_of_ble_eq_true rfl) (by decide) ⟨by omega, by omega⟩ (Nat.le_of_ble_eq_true rfl) (fun r2 f2 g2 a2 q2 n2 hJ => ?_)
  have ts1 := TS_fx ts (fun f r hr => fx.1 f r (by omega)) (fun a hr => fx.2 a (by omega)) (f1 := f1) (a1 := a1)
  obtain ⟨j1, ⟨b1, b2, b3, j2⟩, j3, ⟨gg, j4⟩, j5, j6⟩ := hJ
  rw [j1, j2, j3, j4, j5, j6]
  clear j1 j2 j3 j4 j5 j6 r2 f2 g2 a2 q2 n2
  dsimp only [Option.toList, List.cons_append, List.nil_append]
  have hls := LS_nx (a := b1) (b := b2) (c := b3) (a2 := mW (sA a1 (rf 32 82) gg) w) cs1 ts1 r1 (PG_q p) (Or.inr ⟨gg, a1 (rf 34 85), by rw [sA_k], fun _ _ => rfl⟩)
  refine e_icmp_eq (tgt := 1538) dL_law_1425 (by decide) (fun _ => ?_) (fun hne => absurd rfl hne)
  exact e_wk (by omega) (by omega) (kk _ _ _ _ _ hls)
theorem lc_43 {L n k z : Nat} {xs : Nat → Int32} {fi : FI} {fr : FR} {ai : FI} {ar : FR} {N : Nat} {Q : EQ} (hL : 6 * n + 6 ≤ L) (hL2 : L ≤ 3072) (h : LSt fi fr ai ar N n) (kk : ∀ fi fr ai ar N, LSt fi fr ai ar N (n + 1) → EV (mL L xs) 11 k z 1538 [some (.ref 60), some (.ref (rf 10 0)), some (.ref (rf 11 80)), some (.int (nI (6 * n)))] [] fi fr ai ar N Q) : EV (mL L xs) 11 (64 + k) (10800 + z) 1430 [some (.ref 60), some (.ref (rf 10 0)), some (.ref (rf 11 80)), some (.int (nI (6 * n)))] [] fi fr ai ar N Q := by
  obtain ⟨w, lg, u, V, im, tp, t, fl, pl, rs, cs, ts, r, p⟩ := h
  have gw := p.1.1
  have hb := GB_0 p.1 (show n < 512 by omega)
  have hu6 := p.2.2.2.2.2.2.2
  have hep := hb.1
  refine e_aload_n dL_law_1430 rfl rfl ?_
  refine e_aload_n dL_law_1431 rfl rfl ?_
  refine e_iload_n dL_law_1432 rfl rfl ?_
  refine e_iconst (v := nI 1) dL_law_1433 rfl ?_
  refine n_iadd dL_law_1434 ?_
  refine e_sl dL_law_1435 (show 6 * n + 1 < L by omega) hL2 ?_
  refine e_callV (M' := mX10_lasts) (k' := 0) (z' := 0) (k2 := 64 + k) (z2 := 10800 + z) (As := [_]) dL_law_1436 ml_L_195 ok_X10_lasts (by decide) rfl im_X10_lasts se_X10_lasts (ct_X10_lasts cs.1 gw.1 cs.2.2.1 gw.2.1 (xs (6 * n + 1)) ) rfl rfl (Nat.le_of_ble_eq_true rfl) (by decide) ⟨by omega, by omega⟩ (Nat.le_of_ble_eq_true rfl) (fun r1 f1 g1 a1 q1 n1 hI => ?_)
  obtain ⟨i1, i2, i3, i4, i5, i6⟩ := hI
  rw [i1, i2, i3, i4, i5, i6]
  clear i1 i2 i3 i4 i5 i6 r1 f1 g1 a1 q1 n1
  have cs1 := cs
  have fx : FX fi ai fi ai := FX_rf
  dsimp only [Option.toList, List.cons_append, List.nil_append]
  have sm := cs1.2.1
  have r1 : RS fi ai w lg u V im tp t fl pl rs := RS_fx r (fun f r x y => fx.1 f r (by omega)) (fun a x y => fx.2 a (by omega))
  have e81 : mW ai w = ai := mW_self r1.1
  have hsc : fi (32 * 11 + 8) (rf 11 80) = bI false := r1.2.2.1
  refine e_aload_n dL_law_1439 rfl rfl ?_
  refine e_aload_n dL_law_1440 rfl rfl ?_
  refine e_iload_n dL_law_1441 rfl rfl ?_
  refine e_iconst (v := nI 1) dL_law_1442 rfl ?_
  refine n_iadd dL_law_1443 ?_
  refine e_sl dL_law_1444 (show 6 * n + 1 < L by omega) hL2 ?_
  have hR := ct_X11_lasts (fi := fi) (ai := ai) (ar := ar) (N := N) (w := w) sm gw.1 (xs (6 * n + 1)) (by omega) (fun m hm => (gw.2.1.2.1 m hm).2.2.1)
  rw [e81] at hR
  refine e_callV (M' := mX11_lasts) (k' := 0) (z' := 0) (k2 := 64 + k) (z2 := 10800 + z) (As := [_]) dL_law_1445 ml_L_198 ok_X11_lasts (by decide) rfl im_X11_lasts se_X11_lasts (hR) rfl rfl (Nat.le_of_ble_eq_true rfl) (by decide) ⟨by omega, by omega⟩ (Nat.le_of_ble_eq_true rfl) (fun r2 f2 g2 a2 q2 n2 hJ => ?_)
  have ts1 := TS_fx ts (fun f r hr => fx.1 f r (by omega)) (fun a hr => fx.2 a (by omega)) (f1 := fi) (a1 := ai)
  obtain ⟨j1, j2, j3, ⟨gg, hh, j4, j7⟩, j5, j6⟩ := hJ
  rw [j1, j2, j3, j4, j5, j6]
  clear j1 j2 j3 j4 j5 j6 r2 f2 g2 a2 q2 n2
  dsimp only [Option.toList, List.cons_append, List.nil_append]
  have hls := LS_ny (a2 := mW (sA (sA ai (rf 32 82) gg) (rf 34 85) hh) w) cs1 ts1 r1 (PG_q p) ⟨gg, hh, rfl, j7⟩
  refine e_icmp_eq (tgt := 1538) dL_law_1448 (by decide) (fun _ => ?_) (fun hne => absurd rfl hne)
  exact e_wk (by omega) (by omega) (kk _ _ _ _ _ hls)
theorem lc_44 {L n k z : Nat} {xs : Nat → Int32} {fi : FI} {fr : FR} {ai : FI} {ar : FR} {N : Nat} {Q : EQ} (hL : 6 * n + 6 ≤ L) (hL2 : L ≤ 3072) (h : LSt fi fr ai ar N n) (kk : ∀ fi fr ai ar N, LSt fi fr ai ar N (n + 1) → EV (mL L xs) 11 k z 1538 [some (.ref 60), some (.ref (rf 10 0)), some (.ref (rf 11 80)), some (.int (nI (6 * n)))] [] fi fr ai ar N Q) : EV (mL L xs) 11 (64 + k) (10800 + z) 1453 [some (.ref 60), some (.ref (rf 10 0)), some (.ref (rf 11 80)), some (.int (nI (6 * n)))] [] fi fr ai ar N Q := by
  obtain ⟨w, lg, u, V, im, tp, t, fl, pl, rs, cs, ts, r, p⟩ := h
  have gw := p.1.1
  have hb := GB_0 p.1 (show n < 512 by omega)
  have hu6 := p.2.2.2.2.2.2.2
  have hep := hb.1
  refine e_aload_n dL_law_1453 rfl rfl ?_
  refine e_aload_n dL_law_1454 rfl rfl ?_
  refine e_iload_n dL_law_1455 rfl rfl ?_
  refine e_iconst (v := nI 1) dL_law_1456 rfl ?_
  refine n_iadd dL_law_1457 ?_
  refine e_sl dL_law_1458 (show 6 * n + 1 < L by omega) hL2 ?_
  refine e_callV (M' := mX10_count) (k' := 0) (z' := 0) (k2 := 64 + k) (z2 := 10800 + z) (As := [_]) dL_law_1459 ml_L_199 ok_X10_count (by decide) rfl im_X10_count se_X10_count (ct_X10_count cs.1 gw.1 cs.2.2.1  (xs (6 * n + 1)) ) rfl rfl (Nat.le_of_ble_eq_true rfl) (by decide) ⟨by omega, by omega⟩ (Nat.le_of_ble_eq_true rfl) (fun r1 f1 g1 a1 q1 n1 hI => ?_)
  obtain ⟨i1, i2, i3, i4, i5, i6⟩ := hI
  rw [i1, i2, i3, i4, i5, i6]
  clear i1 i2 i3 i4 i5 i6 r1 f1 g1 a1 q1 n1
  have cs1 := cs
  have fx : FX fi ai fi ai := FX_rf
  dsimp only [Option.toList, List.cons_append, List.nil_append]
  have sm := cs1.2.1
  have r1 : RS fi ai w lg u V im tp t fl pl rs := RS_fx r (fun f r x y => fx.1 f r (by omega)) (fun a x y => fx.2 a (by omega))
  have e81 : mW ai w = ai := mW_self r1.1
  have hsc : fi (32 * 11 + 8) (rf 11 80) = bI false := r1.2.2.1
  refine e_aload_n dL_law_1462 rfl rfl ?_
  refine e_aload_n dL_law_1463 rfl rfl ?_
  refine e_iload_n dL_law_1464 rfl rfl ?_
  refine e_iconst (v := nI 1) dL_law_1465 rfl ?_
  refine n_iadd dL_law_1466 ?_
  refine e_sl dL_law_1467 (show 6 * n + 1 < L by omega) hL2 ?_
  have hR := ct_X11_count (fi := fi) (ai := ai) (ar := ar) (N := N) (w := w) sm gw.1 (xs (6 * n + 1)) 
  rw [e81] at hR
  refine e_callV (M' := mX11_count) (k' := 0) (z' := 0) (k2 := 64 + k) (z2 := 10800 + z) (As := [_]) dL_law_1468 ml_L_202 ok_X11_count (by decide) rfl im_X11_count se_X11_count (hR) rfl rfl (Nat.le_of_ble_eq_true rfl) (by decide) ⟨by omega, by omega⟩ (Nat.le_of_ble_eq_true rfl) (fun r2 f2 g2 a2 q2 n2 hJ => ?_)
  obtain ⟨j1, j2, j3, j4, j5, j6⟩ := hJ
  rw [j1, j2, j3, j4, j5, j6]
  clear j1 j2 j3 j4 j5 j6 r2 f2 g2 a2 q2 n2
  dsimp only [Option.toList, List.cons_append, List.nil_append]
  have hls := LS_q cs1 fx ts r p
  refine e_icmp_eq (tgt := 1538) dL_law_1471 (by decide) (fun _ => ?_) (fun hne => absurd rfl hne)
  exact e_wk (by omega) (by omega) (kk _ _ _ _ _ hls)
theorem lc_46 {L n k z : Nat} {xs : Nat → Int32} {fi : FI} {fr : FR} {ai : FI} {ar : FR} {N : Nat} {Q : EQ} (hL : 6 * n + 6 ≤ L) (hL2 : L ≤ 3072) (h : LSt fi fr ai ar N n) (kk : ∀ fi fr ai ar N, LSt fi fr ai ar N (n + 1) → EV (mL L xs) 11 k z 1538 [some (.ref 60), some (.ref (rf 10 0)), some (.ref (rf 11 80)), some (.int (nI (6 * n)))] [] fi fr ai ar N Q) : EV (mL L xs) 11 (64 + k) (10800 + z) 1515 [some (.ref 60), some (.ref (rf 10 0)), some (.ref (rf 11 80)), some (.int (nI (6 * n)))] [] fi fr ai ar N Q := by
  obtain ⟨w, lg, u, V, im, tp, t, fl, pl, rs, cs, ts, r, p⟩ := h
  have gw := p.1.1
  have hb := GB_0 p.1 (show n < 512 by omega)
  have hu6 := p.2.2.2.2.2.2.2
  have hep := hb.1
  refine e_aload_n dL_law_1515 rfl rfl ?_
  refine e_aload_n dL_law_1516 rfl rfl ?_
  refine e_iload_n dL_law_1517 rfl rfl ?_
  refine e_iconst (v := nI 1) dL_law_1518 rfl ?_
  refine n_iadd dL_law_1519 ?_
  refine e_sl dL_law_1520 (show 6 * n + 1 < L by omega) hL2 ?_
  refine e_callV (M' := mX10_look) (k' := 0) (z' := 0) (k2 := 64 + k) (z2 := 10800 + z) (As := [_]) dL_law_1521 ml_L_208 ok_X10_look (by decide) rfl im_X10_look se_X10_look (ct_X10_look cs.1 gw.1 cs.2.2.1 (u := u) (t := t) (CLS_ct cs) ts.1 (xs (6 * n + 1)) ) rfl rfl (Nat.le_of_ble_eq_true rfl) (by decide) ⟨by omega, by omega⟩ (Nat.le_of_ble_eq_true rfl) (fun r1 f1 g1 a1 q1 n1 hI => ?_)
  obtain ⟨i1, i2, i3, i4, i5, i6⟩ := hI
  rw [i1, i2, i3, i4, i5, i6]
  clear i1 i2 i3 i4 i5 i6 r1 f1 g1 a1 q1 n1
  have cs1 := cs
  have fx : FX fi ai fi ai := FX_rf
  dsimp only [Option.toList, List.cons_append, List.nil_append]
  have sm := cs1.2.1
  have r1 : RS fi ai w lg u V im tp t fl pl rs := RS_fx r (fun f r x y => fx.1 f r (by omega)) (fun a x y => fx.2 a (by omega))
  have e81 : mW ai w = ai := mW_self r1.1
  have hsc : fi (32 * 11 + 8) (rf 11 80) = bI false := r1.2.2.1
  refine e_aload_n dL_law_1524 rfl rfl ?_
  refine e_aload_n dL_law_1525 rfl rfl ?_
  refine e_iload_n dL_law_1526 rfl rfl ?_
  refine e_iconst (v := nI 1) dL_law_1527 rfl ?_
  refine n_iadd dL_law_1528 ?_
  refine e_sl dL_law_1529 (show 6 * n + 1 < L by omega) hL2 ?_
  have hR := ct_X11_look (fi := fi) (ai := ai) (ar := ar) (N := N) (w := w) sm gw.1 (xs (6 * n + 1)) (u := u) (t := t) r1.2.1 r1.2.2.2.1
  rw [e81] at hR
  refine e_callV (M' := mX11_look) (k' := 0) (z' := 0) (k2 := 64 + k) (z2 := 10800 + z) (As := [_]) dL_law_1530 ml_L_211 ok_X11_look (by decide) rfl im_X11_look se_X11_look (hR) rfl rfl (Nat.le_of_ble_eq_true rfl) (by decide) ⟨by omega, by omega⟩ (Nat.le_of_ble_eq_true rfl) (fun r2 f2 g2 a2 q2 n2 hJ => ?_)
  obtain ⟨j1, j2, j3, j4, j5, j6⟩ := hJ
  rw [j1, j2, j3, j4, j5, j6]
  clear j1 j2 j3 j4 j5 j6 r2 f2 g2 a2 q2 n2
  dsimp only [Option.toList, List.cons_append, List.nil_append]
  have hls := LS_q cs1 fx ts r p
  refine e_icmp_eq (tgt := 1538) dL_law_1533 (by decide) (fun _ => ?_) (fun hne => absurd rfl hne)
  exact e_wk (by omega) (by omega) (kk _ _ _ _ _ hls)
