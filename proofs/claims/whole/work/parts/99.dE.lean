theorem PG_t {n : Nat} {w : Nat → Nat} {u : Nat} {V : Nat → Nat → Nat} {im : Option ((Nat → Nat) × (Nat → Nat))} {tp tp' : Nat → Nat} {t t' : Nat} (p : PG n w u V im tp t) (h1 : t' ≤ t + 20) (h2 : t' ≤ 400) (h3 : ∀ i, tp' i < 256) : PG (n + 1) w u V im tp' t' :=
  ⟨GB_mo p.1 h1, fun j hj => GB_mo (p.2.1 j hj) h1, p.2.2.1, p.2.2.2.1, fun q hq => GB_mo (p.2.2.2.2.1 q hq) h1, h2, h3, p.2.2.2.2.2.2.2⟩
theorem RS_t {fi ai f2 a2 : FI} {w lg : Nat → Nat} {u : Nat} {V : Nat → Nat → Nat} {im : Option ((Nat → Nat) × (Nat → Nat))} {tp : Nat → Nat} {t : Nat} {fl pl rs : Int32} {tp' : Nat → Nat} {t' : Nat} (r : RS fi ai w lg u V im tp t fl pl rs) (hf : ∀ f, f ≠ 32 * 11 + 10 → f2 f (rf 11 80) = fi f (rf 11 80)) (ht : f2 (32 * 11 + 10) (rf 11 80) = nI t') (ha : ∀ a, a ≠ rf 35 87 → 80 ≤ a / 64 → a / 64 < 89 → a2 a = ai a) (hT : ∀ i, i < t' → a2 (rf 35 87) i = sB (tp' i)) : RS f2 a2 w lg u V im tp' t' fl pl rs := by
  obtain ⟨r1, r2, r3, r4, r5, r6, r7, r8, r9, r10, r11, r12⟩ := r
  refine ⟨?_, (hf _ (by decide)).trans r2, (hf _ (by decide)).trans r3, ht, hT, ?_, ?_, fun q => (hf _ (by decide)).trans (r8 q), fun q hq => ?_, (hf _ (by decide)).trans r10, (hf _ (by decide)).trans r11, (hf _ (by decide)).trans r12⟩
  · rw [ha _ (by decide) (by decide) (by decide)]; exact r1
  · rw [ha _ (by decide) (by decide) (by decide)]; exact r6
  · rw [ha _ (by decide) (by decide) (by decide)]; exact r7
  · rw [ha (rf 32 83) (by decide) (by decide) (by decide), ha (rf 34 86) (by decide) (by decide) (by decide), hf _ (by decide)]
    exact r9 q hq
theorem LS_end {fi ai : FI} {fr ar : FR} {N n : Nat} {w lg : Nat → Nat} {u : Nat} {V : Nat → Nat → Nat} {im : Option ((Nat → Nat) × (Nat → Nat))} {tp : Nat → Nat} {t : Nat} {fl pl rs : Int32} (cs : CLS fi fr ai ar N w lg (w 0) u V im) (ts : TS fi ai tp t fl pl rs) (r : RS fi ai w lg u V im tp t fl pl rs) (p : PG n w u V im tp t) {a : Nat} (ha : a ≤ t) : LSt (up2 (up2 fi (32 * 7 + 3) (rf 7 76) (nI a)) (32 * 11 + 10) (rf 11 80) (nI a)) fr ai ar N (n + 1) := by
  have e1 : ∀ f x, x ≠ rf 7 76 → x ≠ rf 11 80 → up2 (up2 fi (32 * 7 + 3) (rf 7 76) (nI a)) (32 * 11 + 10) (rf 11 80) (nI a) f x = fi f x := fun f x h1 h2 => by rw [up2_n _ _ (fun e => h2 e.2), up2_n _ _ (fun e => h1 e.2)]
  have e7 : ∀ f, f ≠ 32 * 7 + 3 → up2 (up2 fi (32 * 7 + 3) (rf 7 76) (nI a)) (32 * 11 + 10) (rf 11 80) (nI a) f (rf 7 76) = fi f (rf 7 76) := fun f h1 => by rw [up2_n _ _ (fun e => absurd e.2 (by decide)), up2_n _ _ (fun e => h1 e.1)]
  refine ⟨w, lg, u, V, im, tp, a, fl, pl, rs, CLS_ts cs (iv_mm p.1.1.1) (fun f x hx => e1 f x (fun e => by rw [e, rf_div (by decide)] at hx; omega) (fun e => by rw [e, rf_div (by decide)] at hx; omega)) (fun _ _ => rfl), ⟨?_, fun i hi => ts.2.1 i (by omega), (e7 _ (by decide)).trans ts.2.2.1, (e7 _ (by decide)).trans ts.2.2.2.1, (e1 _ _ (by decide) (by decide)).trans ts.2.2.2.2⟩, RS_t r (fun f hf => ?_) (up2_s _ _ _ _) (fun _ _ _ _ => rfl) (fun i hi => r.2.2.2.2.1 i (by omega)), PG_t p (by omega) (by have := p.2.2.2.2.2.1; omega) p.2.2.2.2.2.2.1⟩
  · rw [up2_n _ _ (fun e => absurd e.2 (by decide))]
    exact up2_s _ _ _ _
  · rw [up2_n _ _ (fun e => hf e.1), up2_n _ _ (fun e => absurd e.2 (by decide))]
theorem LS_feed {fi ai : FI} {fr ar : FR} {N n : Nat} {w lg : Nat → Nat} {u : Nat} {V : Nat → Nat → Nat} {im : Option ((Nat → Nat) × (Nat → Nat))} {tp : Nat → Nat} {t : Nat} {fl pl rs : Int32} (cs : CLS fi fr ai ar N w lg (w 0) u V im) (ts : TS fi ai tp t fl pl rs) (r : RS fi ai w lg u V im tp t fl pl rs) (p : PG n w u V im tp t) (ht : t + 20 ≤ 400) (a b c d e : Int32) : LSt (up2 (up2 fi (32 * 7 + 3) (rf 7 76) (nI (t + 20))) (32 * 11 + 10) (rf 11 80) (nI (t + 20))) fr (sA (sA ai (rf 29 77) (fe5 (ai (rf 29 77)) t a b c d e)) (rf 35 87) (fd5 (sA ai (rf 29 77) (fe5 (ai (rf 29 77)) t a b c d e) (rf 35 87)) t a b c d e)) ar N (n + 1) := by
  have e1 : ∀ f x, x ≠ rf 7 76 → x ≠ rf 11 80 → up2 (up2 fi (32 * 7 + 3) (rf 7 76) (nI (t + 20))) (32 * 11 + 10) (rf 11 80) (nI (t + 20)) f x = fi f x := fun f x h1 h2 => by rw [up2_n _ _ (fun e => h2 e.2), up2_n _ _ (fun e => h1 e.2)]
  have e7 : ∀ f, f ≠ 32 * 7 + 3 → up2 (up2 fi (32 * 7 + 3) (rf 7 76) (nI (t + 20))) (32 * 11 + 10) (rf 11 80) (nI (t + 20)) f (rf 7 76) = fi f (rf 7 76) := fun f h1 => by rw [up2_n _ _ (fun e => absurd e.2 (by decide)), up2_n _ _ (fun e => h1 e.1)]
  rw [sA_o (show rf 35 87 ≠ rf 29 77 by decide)]
  have hU : ∀ i, i < t + 20 → fe5 (ai (rf 29 77)) t a b c d e i = nI (fd5N tp t a b c d e i) := fun i hi => cmU_r (cmU_r (cmU_r (cmU_r (cmU_r ts.2.1)))) i (by omega)
  have hV : ∀ i, i < t + 20 → fd5 (ai (rf 35 87)) t a b c d e i = sB (fd5N tp t a b c d e i) := fun i hi => cmT_r (cmT_r (cmT_r (cmT_r (cmT_r r.2.2.2.2.1)))) i (by omega)
  have hl : ∀ i, fd5N tp t a b c d e i < 256 := cmN_lt (cmN_lt (cmN_lt (cmN_lt (cmN_lt p.2.2.2.2.2.2.1))))
  refine ⟨w, lg, u, V, im, fd5N tp t a b c d e, t + 20, fl, pl, rs, CLS_ts cs (iv_mm p.1.1.1) (fun f x hx => e1 f x (fun e => by rw [e, rf_div (by decide)] at hx; omega) (fun e => by rw [e, rf_div (by decide)] at hx; omega)) (fun x hx => ?_), ⟨?_, fun i hi => ?_, (e7 _ (by decide)).trans ts.2.2.1, (e7 _ (by decide)).trans ts.2.2.2.1, (e1 _ _ (by decide) (by decide)).trans ts.2.2.2.2⟩, RS_t r (fun f hf => ?_) (up2_s _ _ _ _) (fun x h1 h2 h3 => ?_) (fun i hi => ?_), PG_t p (by omega) ht hl⟩
  · rw [sA_o (fun e => by rw [e, rf_div (by decide)] at hx; omega), sA_o (fun e => by rw [e, rf_div (by decide)] at hx; omega)]
  · rw [up2_n _ _ (fun e => absurd e.2 (by decide))]
    exact up2_s _ _ _ _
  · rw [sA_o (by decide), sA_s]
    exact hU i hi
  · rw [up2_n _ _ (fun e => hf e.1), up2_n _ _ (fun e => absurd e.2 (by decide))]
  · rw [sA_o h1, sA_o (fun e => by rw [e, rf_div (by decide)] at h2; omega)]
  · rw [sA_s]
    exact hV i hi
theorem LS_undo {fi ai f1 a1 : FI} {fr ar : FR} {N n : Nat} {w lg : Nat → Nat} {u : Nat} {V : Nat → Nat → Nat} {im : Option ((Nat → Nat) × (Nat → Nat))} {tp : Nat → Nat} {t : Nat} {fl pl rs : Int32} (cs : CLS f1 fr a1 ar N (undW w (V u)) lg (w 0) u V im) (fx : FX fi ai f1 a1) (ts : TS fi ai tp t fl pl rs) (r : RS fi ai w lg (u + 1) V im tp t fl pl rs) (p : PG n w (u + 1) V im tp t) : LSt (up2 f1 (32 * 11 + 4) (rf 11 80) (nI u)) fr (mW a1 (undW w (V u))) ar N (n + 1) := by
  have r1 := RS_fx r (fun f r x y => fx.1 f r (by omega)) (fun a x y => fx.2 a (by omega)) (f1 := f1) (a1 := a1)
  have hq : ∀ q, q < 8558 → undW w (V u) q = V u q := fun q h => if_pos h
  have e0 : undW w (V u) 0 = V u 0 := hq 0 (by decide)
  have hle : V u 0 ≤ w 0 := p.2.2.2.1 u (Nat.lt_succ_self u)
  have gv := p.2.1 u (Nat.lt_succ_self u)
  have pq := PG_q p
  refine LS_mk (CLS_E cs (by rw [e0]; exact hle)) (TS_fx ts (fun f r hr => fx.1 f r (by omega)) (fun a hr => fx.2 a (by omega))) (fun f x hx => up2_n _ _ (fun e => hx (by rw [e.2, rf_div (by decide)]))) (mW_80 (fun _ _ => rfl)) (RS_mW r1 (fun f hf => up2_n _ _ (fun e => hf e.1)) (up2_s _ _ _ _) (fun _ _ _ _ => rfl) (fun j k hj hk => r1.2.2.2.2.2.1 j k (by omega) hk) (CHG_le r1.2.2.2.2.2.2.1 (by rw [e0]; exact hle))) ⟨⟨GW_fr gv.1 hq, fun k hk => ?_, ?_⟩, fun j hj => pq.2.1 j (by omega), fun i j hij hj => p.2.2.1 i j hij (by omega), fun j hj => ?_, pq.2.2.2.2.1, pq.2.2.2.2.2.1, pq.2.2.2.2.2.2.1, by have := p.2.2.2.2.2.2.2; omega⟩
  · rw [hq _ (by omega)]
    have := gv.2.1 k hk
    omega
  · rw [e0]
    have := gv.2.2
    omega
  · rw [e0]
    exact p.2.2.1 j u (by omega) (Nat.lt_succ_self u)
theorem LS_img1 {fi ai f1 a1 : FI} {fr ar : FR} {N n : Nat} {w lg : Nat → Nat} {u : Nat} {V : Nat → Nat → Nat} {im : Option ((Nat → Nat) × (Nat → Nat))} {tp : Nat → Nat} {t : Nat} {fl pl rs : Int32} (cs : CLS f1 fr a1 ar N w lg (w 0) u V (some (w, lg))) (fx : FX fi ai f1 a1) (ts : TS fi ai tp t fl pl rs) (r : RS fi ai w lg u V im tp t fl pl rs) (p : PG n w u V im tp t) : LSt (up2 f1 (32 * 11 + 5) (rf 11 80) (nI 1)) fr (mW (sA (sA a1 (rf 32 83) (cpA (a1 (rf 32 83)) (fun i => nI (w i)) 0 8597)) (rf 34 86) (cpA (a1 (rf 34 86)) (a1 (rf 34 85)) 0 12000)) w) ar N (n + 1) := by
  obtain ⟨r1, r2, r3, r4, r5, r6, r7, r8, r9, r10, r11, r12⟩ := RS_fx r (fun f r x y => fx.1 f r (by omega)) (fun a x y => fx.2 a (by omega)) (f1 := f1) (a1 := a1)
  have pq := PG_q p
  have hf : ∀ f, f ≠ 32 * 11 + 5 → up2 f1 (32 * 11 + 5) (rf 11 80) (nI 1) f (rf 11 80) = f1 f (rf 11 80) := fun f h => up2_n _ _ (fun e => h e.1)
  have hA : ∀ a, a ≠ rf 32 81 → a ≠ rf 32 83 → a ≠ rf 34 86 → mW (sA (sA a1 (rf 32 83) (cpA (a1 (rf 32 83)) (fun i => nI (w i)) 0 8597)) (rf 34 86) (cpA (a1 (rf 34 86)) (a1 (rf 34 85)) 0 12000)) w a = a1 a := fun a h1 h2 h3 => by
    show (if a = rf 32 81 then _ else _) = _
    rw [if_neg h1, sA_o h3, sA_o h2]
  have h83 : ∀ k, k < 8597 → mW (sA (sA a1 (rf 32 83) (cpA (a1 (rf 32 83)) (fun i => nI (w i)) 0 8597)) (rf 34 86) (cpA (a1 (rf 34 86)) (a1 (rf 34 85)) 0 12000)) w (rf 32 83) k = nI (w k) := fun k hk => by
    rw [mW_o (by decide), sA_o (by decide), sA_s]
    exact if_pos ⟨Nat.zero_le k, by omega⟩
  have h86 : ∀ k, k < 12000 → mW (sA (sA a1 (rf 32 83) (cpA (a1 (rf 32 83)) (fun i => nI (w i)) 0 8597)) (rf 34 86) (cpA (a1 (rf 34 86)) (a1 (rf 34 85)) 0 12000)) w (rf 34 86) k = a1 (rf 34 85) k := fun k hk => by
    rw [mW_o (by decide), sA_s]
    exact if_pos ⟨Nat.zero_le k, by omega⟩
  have hep := iv_ep0 p.1.1.1
  refine LS_mk cs (TS_fx ts (fun f r hr => fx.1 f r (by omega)) (fun a hr => fx.2 a (by omega))) (fun f x hx => up2_n _ _ (fun e => hx (by rw [e.2, rf_div (by decide)]))) (fun a ha => hA a (fun e => by rw [e, rf_div (by decide)] at ha; omega) (fun e => by rw [e, rf_div (by decide)] at ha; omega) (fun e => by rw [e, rf_div (by decide)] at ha; omega)) ⟨if_pos rfl, (hf _ (by decide)).trans r2, (hf _ (by decide)).trans r3, (hf _ (by decide)).trans r4, fun i hi => ?_, ?_, ?_, (fun q => by cases q), fun q hq => ?_, (hf _ (by decide)).trans r10, (hf _ (by decide)).trans r11, (hf _ (by decide)).trans r12⟩ ⟨pq.1, pq.2.1, pq.2.2.1, pq.2.2.2.1, (fun q hq => by cases hq; exact pq.1), pq.2.2.2.2.2⟩
  · rw [hA _ (by decide) (by decide) (by decide)]; exact r5 i hi
  · rw [hA _ (by decide) (by decide) (by decide)]; exact r6
  · rw [hA _ (by decide) (by decide) (by decide)]; exact r7
  · cases hq
    exact ⟨up2_s _ _ _ _, h83, r7.1, fun e h1 h2 => by have h2' : e ≤ w 0 := h2; rw [h86 _ (by omega), h86 _ (by omega), h86 _ (by omega)]; exact r7.2 e h1 h2'⟩
theorem LS_img2 {fi ai f1 a1 : FI} {fr ar : FR} {N n : Nat} {w lg : Nat → Nat} {u : Nat} {V : Nat → Nat → Nat} {im : Option ((Nat → Nat) × (Nat → Nat))} {tp : Nat → Nat} {t : Nat} {fl pl rs : Int32} {q : (Nat → Nat) × (Nat → Nat)} (cs : CLS f1 fr a1 ar N q.1 q.2 (q.1 0) 0 V (some q)) (fx : FX fi ai f1 a1) (ts : TS fi ai tp t fl pl rs) (r : RS fi ai w lg u V (some q) tp t fl pl rs) (p : PG n w u V (some q) tp t) : LSt (up2 (up2 f1 (32 * 11 + 4) (rf 11 80) (nI 0)) (32 * 11 + 5) (rf 11 80) (nI 1)) fr (mW (sA a1 (rf 34 85) (cpA (a1 (rf 34 85)) (a1 (rf 34 86)) 0 12000)) (ovF w q.1 8597)) ar N (n + 1) := by
  obtain ⟨r1, r2, r3, r4, r5, r6, r7, r8, r9, r10, r11, r12⟩ := RS_fx r (fun f r x y => fx.1 f r (by omega)) (fun a x y => fx.2 a (by omega)) (f1 := f1) (a1 := a1)
  obtain ⟨q5, q83, q86⟩ := r9 q rfl
  have pq := PG_q p
  have gq := pq.2.2.2.2.1 q rfl
  have hq : ∀ x, x < 8597 → ovF w q.1 8597 x = q.1 x := fun x h => if_pos h
  have e0 : ovF w q.1 8597 0 = q.1 0 := hq 0 (by decide)
  have hf : ∀ f, f ≠ 32 * 11 + 4 → f ≠ 32 * 11 + 5 → up2 (up2 f1 (32 * 11 + 4) (rf 11 80) (nI 0)) (32 * 11 + 5) (rf 11 80) (nI 1) f (rf 11 80) = f1 f (rf 11 80) := fun f h1 h2 => by rw [up2_n _ _ (fun e => h2 e.1), up2_n _ _ (fun e => h1 e.1)]
  have hA : ∀ a, a ≠ rf 32 81 → a ≠ rf 34 85 → mW (sA a1 (rf 34 85) (cpA (a1 (rf 34 85)) (a1 (rf 34 86)) 0 12000)) (ovF w q.1 8597) a = a1 a := fun a h1 h2 => by
    show (if a = rf 32 81 then _ else _) = _
    rw [if_neg h1, sA_o h2]
  have h85 : ∀ k, k < 12000 → mW (sA a1 (rf 34 85) (cpA (a1 (rf 34 85)) (a1 (rf 34 86)) 0 12000)) (ovF w q.1 8597) (rf 34 85) k = a1 (rf 34 86) k := fun k hk => by
    rw [mW_o (by decide), sA_s]
    exact if_pos ⟨Nat.zero_le k, by omega⟩
  have hep := iv_ep0 gq.1.1
  have cs2 : CLS f1 fr a1 ar N (ovF w q.1 8597) q.2 (ovF w q.1 8597 0) 0 V (some q) := by
    obtain ⟨c1, c2, c3, c4⟩ := cs
    exact ⟨c1, c2, K_cg (fun x hx => hq x (by rcases hx with hx | hx; have := live_8 gq.1.1 hx; omega; omega)) (Nat.le_of_eq e0) (fun _ _ _ => rfl) c3, c4⟩
  refine LS_mk cs2 (TS_fx ts (fun f r hr => fx.1 f r (by omega)) (fun a hr => fx.2 a (by omega))) (fun f x hx => by rw [up2_n _ _ (fun e => hx (by rw [e.2, rf_div (by decide)])), up2_n _ _ (fun e => hx (by rw [e.2, rf_div (by decide)]))]) (fun a ha => hA a (fun e => by rw [e, rf_div (by decide)] at ha; omega) (fun e => by rw [e, rf_div (by decide)] at ha; omega)) ⟨if_pos rfl, ?_, (hf _ (by decide) (by decide)).trans r3, (hf _ (by decide) (by decide)).trans r4, fun i hi => ?_, fun j k hj _ => absurd hj (Nat.not_lt_zero j), ?_, (fun z => by cases z), fun z hz => ?_, (hf _ (by decide) (by decide)).trans r10, (hf _ (by decide) (by decide)).trans r11, (hf _ (by decide) (by decide)).trans r12⟩ ⟨⟨GW_fr gq.1 (fun x hx => hq x (by omega)), fun k hk => by rw [hq _ (by omega)]; exact gq.2.1 k hk, by rw [e0]; exact gq.2.2⟩, fun j hj => absurd hj (Nat.not_lt_zero j), fun i j _ hj => absurd hj (Nat.not_lt_zero j), fun j hj => absurd hj (Nat.not_lt_zero j), pq.2.2.2.2.1, pq.2.2.2.2.2.1, pq.2.2.2.2.2.2.1, Nat.zero_le 6⟩
  · rw [up2_n _ _ (by decide)]
    exact up2_s _ _ _ _
  · rw [hA _ (by decide) (by decide)]; exact r5 i hi
  · rw [e0]
    exact ⟨q86.1, fun e h1 h2 => by rw [h85 _ (by omega), h85 _ (by omega), h85 _ (by omega)]; exact q86.2 e h1 h2⟩
  · cases hz
    rw [hA _ (by decide) (by decide), hA _ (by decide) (by decide)]
    exact ⟨up2_s _ _ _ _, q83, q86⟩
theorem lc_17 {L n k z : Nat} {xs : Nat → Int32} {fi : FI} {fr : FR} {ai : FI} {ar : FR} {N : Nat} {Q : EQ} (hL : 6 * n + 6 ≤ L) (hL2 : L ≤ 3072) (h : LSt fi fr ai ar N n) (kk : ∀ fi fr ai ar N, LSt fi fr ai ar N (n + 1) → EV (mL L xs) 11 k z 1538 [some (.ref 60), some (.ref (rf 10 0)), some (.ref (rf 11 80)), some (.int (nI (6 * n)))] [] fi fr ai ar N Q) : EV (mL L xs) 11 (64 + k) (10800 + z) 748 [some (.ref 60), some (.ref (rf 10 0)), some (.ref (rf 11 80)), some (.int (nI (6 * n)))] [] fi fr ai ar N Q := by
  obtain ⟨w, lg, u, V, im, tp, t, fl, pl, rs, cs, ts, r, p⟩ := h
  have gw := p.1.1
  have hb := GB_0 p.1 (show n < 512 by omega)
  have hu6 := p.2.2.2.2.2.2.2
  have hep := hb.1
  refine e_aload_n dL_law_748 rfl rfl ?_
  refine e_aload_n dL_law_749 rfl rfl ?_
  refine e_iload_n dL_law_750 rfl rfl ?_
  refine e_iconst (v := nI 1) dL_law_751 rfl ?_
  refine n_iadd dL_law_752 ?_
  refine e_sl dL_law_753 (show 6 * n + 1 < L by omega) hL2 ?_
  have ht4 := p.2.2.2.2.2.1
  refine e_callV (M' := mX10_end) (k' := 0) (z' := 0) (k2 := 64 + k) (z2 := 10800 + z) (As := [_]) dL_law_754 ml_L_88 ok_X10_end (by decide) rfl im_X10_end se_X10_end (ct_X10_end cs.1 (xs (6 * n + 1)) (t := t) ts.1 ht4) rfl rfl (Nat.le_of_ble_eq_true rfl) (by decide) ⟨by omega, by omega⟩ (Nat.le_of_ble_eq_true rfl) (fun r1 f1 g1 a1 q1 n1 hI => ?_)
  obtain ⟨i1, i2, i3, i4, i5, i6⟩ := hI
  rw [i1, i2, i3, i4, i5, i6]
  clear i1 i2 i3 i4 i5 i6 r1 f1 g1 a1 q1 n1
  dsimp only [Option.toList, List.cons_append, List.nil_append]
  have sm := cs.2.1
  have e81 : mW ai w = ai := mW_self r.1
  refine e_aload_n dL_law_757 rfl rfl ?_
  refine e_aload_n dL_law_758 rfl rfl ?_
  refine e_iload_n dL_law_759 rfl rfl ?_
  refine e_iconst (v := nI 1) dL_law_760 rfl ?_
  refine n_iadd dL_law_761 ?_
  refine e_sl dL_law_762 (show 6 * n + 1 < L by omega) hL2 ?_
  have e10 : (if inR (xs (6 * n + 1)) (t + 1) then up2 fi (32 * 7 + 3) (rf 7 76) (xs (6 * n + 1)) else fi) (32 * 11 + 10) (rf 11 80) = nI t := by split <;> first | exact (up2_n _ _ (by decide)).trans r.2.2.2.1 | exact r.2.2.2.1
  have hR := ct_X11_end (ai := ai) (ar := ar) (N := N) (w := w) sm gw.1 (xs (6 * n + 1)) (t := t) e10 ht4
  rw [e81] at hR
  refine e_callV (M' := mX11_end) (k' := 0) (z' := 0) (k2 := 64 + k) (z2 := 10800 + z) (As := [_]) dL_law_763 ml_L_91 ok_X11_end (by decide) rfl im_X11_end se_X11_end (hR) rfl rfl (Nat.le_of_ble_eq_true rfl) (by decide) ⟨by omega, by omega⟩ (Nat.le_of_ble_eq_true rfl) (fun r2 f2 g2 a2 q2 n2 hJ => ?_)
  obtain ⟨j1, j2, j3, j4, j5, j6⟩ := hJ
  rw [j1, j2, j3, j4, j5, j6]
  clear j1 j2 j3 j4 j5 j6 r2 f2 g2 a2 q2 n2
  dsimp only [Option.toList, List.cons_append, List.nil_append]
  have hls : LSt (if inR (xs (6 * n + 1)) (t + 1) then up2 (if inR (xs (6 * n + 1)) (t + 1) then up2 fi (32 * 7 + 3) (rf 7 76) (xs (6 * n + 1)) else fi) (32 * 11 + 10) (rf 11 80) (xs (6 * n + 1)) else (if inR (xs (6 * n + 1)) (t + 1) then up2 fi (32 * 7 + 3) (rf 7 76) (xs (6 * n + 1)) else fi)) fr ai ar N (n + 1) := by
    by_cases hi : inR (xs (6 * n + 1)) (t + 1) = true
    · obtain ⟨a, h1, h2, h3⟩ := inR_ex hi
      rw [if_pos hi, if_pos hi, h3]
      exact LS_end cs ts r p (by omega)
    · rw [if_neg hi, if_neg hi]
      exact LS_q cs FX_rf ts r p
  refine e_icmp_eq (tgt := 1538) dL_law_766 (by decide) (fun _ => ?_) (fun hne => absurd rfl hne)
  exact e_wk (by omega) (by omega) (kk _ _ _ _ _ hls)
theorem lc_16 {L n k z : Nat} {xs : Nat → Int32} {fi : FI} {fr : FR} {ai : FI} {ar : FR} {N : Nat} {Q : EQ} (hL : 6 * n + 6 ≤ L) (hL2 : L ≤ 3072) (h : LSt fi fr ai ar N n) (kk : ∀ fi fr ai ar N, LSt fi fr ai ar N (n + 1) → EV (mL L xs) 11 k z 1538 [some (.ref 60), some (.ref (rf 10 0)), some (.ref (rf 11 80)), some (.int (nI (6 * n)))] [] fi fr ai ar N Q) : EV (mL L xs) 11 (64 + k) (10800 + z) 685 [some (.ref 60), some (.ref (rf 10 0)), some (.ref (rf 11 80)), some (.int (nI (6 * n)))] [] fi fr ai ar N Q := by
  obtain ⟨w, lg, u, V, im, tp, t, fl, pl, rs, cs, ts, r, p⟩ := h
  have gw := p.1.1
  have hb := GB_0 p.1 (show n < 512 by omega)
  have hu6 := p.2.2.2.2.2.2.2
  have hep := hb.1
  refine e_aload_n dL_law_685 rfl rfl ?_
  refine e_aload_n dL_law_686 rfl rfl ?_
  refine e_iload_n dL_law_687 rfl rfl ?_
  refine e_iconst (v := nI 1) dL_law_688 rfl ?_
  refine n_iadd dL_law_689 ?_
  refine e_sl dL_law_690 (show 6 * n + 1 < L by omega) hL2 ?_
  refine e_aload_n dL_law_691 rfl rfl ?_
  refine e_iload_n dL_law_692 rfl rfl ?_
  refine e_iconst (v := nI 2) dL_law_693 rfl ?_
  refine n_iadd dL_law_694 ?_
  refine e_sl dL_law_695 (show 6 * n + 2 < L by omega) hL2 ?_
  refine e_aload_n dL_law_696 rfl rfl ?_
  refine e_iload_n dL_law_697 rfl rfl ?_
  refine e_iconst (v := nI 3) dL_law_698 rfl ?_
  refine n_iadd dL_law_699 ?_
  refine e_sl dL_law_700 (show 6 * n + 3 < L by omega) hL2 ?_
  refine e_aload_n dL_law_701 rfl rfl ?_
  refine e_iload_n dL_law_702 rfl rfl ?_
  refine e_iconst (v := nI 4) dL_law_703 rfl ?_
  refine n_iadd dL_law_704 ?_
  refine e_sl dL_law_705 (show 6 * n + 4 < L by omega) hL2 ?_
  refine e_aload_n dL_law_706 rfl rfl ?_
  refine e_iload_n dL_law_707 rfl rfl ?_
  refine e_iconst (v := nI 5) dL_law_708 rfl ?_
  refine n_iadd dL_law_709 ?_
  refine e_sl dL_law_710 (show 6 * n + 5 < L by omega) hL2 ?_
  have ht4 := p.2.2.2.2.2.1
  refine e_callV (M' := mX10_feed) (k' := 0) (z' := 0) (k2 := 64 + k) (z2 := 10800 + z) (As := [_, _, _, _, _]) dL_law_711 ml_L_83 ok_X10_feed (by decide) rfl im_X10_feed se_X10_feed (ct_X10_feed cs.1 (xs (6 * n + 1)) (xs (6 * n + 2)) (xs (6 * n + 3)) (xs (6 * n + 4)) (xs (6 * n + 5)) (t := t) ts.1 ht4) rfl rfl (Nat.le_of_ble_eq_true rfl) (by decide) ⟨by omega, by omega⟩ (Nat.le_of_ble_eq_true rfl) (fun r1 f1 g1 a1 q1 n1 hI => ?_)
  obtain ⟨i1, i2, i3, i4, i5, i6⟩ := hI
  rw [i1, i2, i3, i4, i5, i6]
  clear i1 i2 i3 i4 i5 i6 r1 f1 g1 a1 q1 n1
  dsimp only [Option.toList, List.cons_append, List.nil_append]
  have sm := cs.2.1
  refine e_aload_n dL_law_714 rfl rfl ?_
  refine e_aload_n dL_law_715 rfl rfl ?_
  refine e_iload_n dL_law_716 rfl rfl ?_
  refine e_iconst (v := nI 1) dL_law_717 rfl ?_
  refine n_iadd dL_law_718 ?_
  refine e_sl dL_law_719 (show 6 * n + 1 < L by omega) hL2 ?_
  refine e_aload_n dL_law_720 rfl rfl ?_
  refine e_iload_n dL_law_721 rfl rfl ?_
  refine e_iconst (v := nI 2) dL_law_722 rfl ?_
  refine n_iadd dL_law_723 ?_
  refine e_sl dL_law_724 (show 6 * n + 2 < L by omega) hL2 ?_
  refine e_aload_n dL_law_725 rfl rfl ?_
  refine e_iload_n dL_law_726 rfl rfl ?_
  refine e_iconst (v := nI 3) dL_law_727 rfl ?_
  refine n_iadd dL_law_728 ?_
  refine e_sl dL_law_729 (show 6 * n + 3 < L by omega) hL2 ?_
  refine e_aload_n dL_law_730 rfl rfl ?_
  refine e_iload_n dL_law_731 rfl rfl ?_
  refine e_iconst (v := nI 4) dL_law_732 rfl ?_
  refine n_iadd dL_law_733 ?_
  refine e_sl dL_law_734 (show 6 * n + 4 < L by omega) hL2 ?_
  refine e_aload_n dL_law_735 rfl rfl ?_
  refine e_iload_n dL_law_736 rfl rfl ?_
  refine e_iconst (v := nI 5) dL_law_737 rfl ?_
  refine n_iadd dL_law_738 ?_
  refine e_sl dL_law_739 (show 6 * n + 5 < L by omega) hL2 ?_
  by_cases hi : t + 20 ≤ 400
  · rw [if_pos hi, if_pos hi, if_pos hi]
    have hR := ct_X11_feed (fi := up2 fi (32 * 7 + 3) (rf 7 76) (nI (t + 20))) (ai := sA ai (rf 29 77) (fe5 (ai (rf 29 77)) t (xs (6 * n + 1)) (xs (6 * n + 2)) (xs (6 * n + 3)) (xs (6 * n + 4)) (xs (6 * n + 5)))) (ar := ar) (N := N) sm (xs (6 * n + 1)) (xs (6 * n + 2)) (xs (6 * n + 3)) (xs (6 * n + 4)) (xs (6 * n + 5)) (t := t) ((up2_n _ _ (by decide)).trans r.2.2.2.1) ht4
    rw [if_pos hi, if_pos hi, if_pos hi] at hR
    refine e_callV (M' := mX11_feed) (k' := 0) (z' := 0) (k2 := 64 + k) (z2 := 10800 + z) (As := [_, _, _, _, _]) dL_law_740 ml_L_87 ok_X11_feed (by decide) rfl im_X11_feed se_X11_feed (hR) rfl rfl (Nat.le_of_ble_eq_true rfl) (by decide) ⟨by omega, by omega⟩ (Nat.le_of_ble_eq_true rfl) (fun r2 f2 g2 a2 q2 n2 hJ => ?_)
    obtain ⟨j1, j2, j3, j4, j5, j6⟩ := hJ
    rw [j1, j2, j3, j4, j5, j6]
    clear j1 j2 j3 j4 j5 j6 r2 f2 g2 a2 q2 n2
    dsimp only [Option.toList, List.cons_append, List.nil_append]
    have hls := LS_feed cs ts r p hi (xs (6 * n + 1)) (xs (6 * n + 2)) (xs (6 * n + 3)) (xs (6 * n + 4)) (xs (6 * n + 5))
    refine e_icmp_eq (tgt := 1538) dL_law_743 (by decide) (fun _ => ?_) (fun hne => absurd rfl hne)
    exact e_wk (by omega) (by omega) (kk _ _ _ _ _ hls)
  · rw [if_neg hi, if_neg hi, if_neg hi]
    have hR := ct_X11_feed (fi := fi) (ai := ai) (ar := ar) (N := N) sm (xs (6 * n + 1)) (xs (6 * n + 2)) (xs (6 * n + 3)) (xs (6 * n + 4)) (xs (6 * n + 5)) (t := t) r.2.2.2.1 ht4
    rw [if_neg hi, if_neg hi, if_neg hi] at hR
    refine e_callV (M' := mX11_feed) (k' := 0) (z' := 0) (k2 := 64 + k) (z2 := 10800 + z) (As := [_, _, _, _, _]) dL_law_740 ml_L_87 ok_X11_feed (by decide) rfl im_X11_feed se_X11_feed (hR) rfl rfl (Nat.le_of_ble_eq_true rfl) (by decide) ⟨by omega, by omega⟩ (Nat.le_of_ble_eq_true rfl) (fun r2 f2 g2 a2 q2 n2 hJ => ?_)
    obtain ⟨j1, j2, j3, j4, j5, j6⟩ := hJ
    rw [j1, j2, j3, j4, j5, j6]
    clear j1 j2 j3 j4 j5 j6 r2 f2 g2 a2 q2 n2
    dsimp only [Option.toList, List.cons_append, List.nil_append]
    have hls := LS_q cs FX_rf ts r p
    refine e_icmp_eq (tgt := 1538) dL_law_743 (by decide) (fun _ => ?_) (fun hne => absurd rfl hne)
    exact e_wk (by omega) (by omega) (kk _ _ _ _ _ hls)
theorem lc_20 {L n k z : Nat} {xs : Nat → Int32} {fi : FI} {fr : FR} {ai : FI} {ar : FR} {N : Nat} {Q : EQ} (hL : 6 * n + 6 ≤ L) (hL2 : L ≤ 3072) (h : LSt fi fr ai ar N n) (kk : ∀ fi fr ai ar N, LSt fi fr ai ar N (n + 1) → EV (mL L xs) 11 k z 1538 [some (.ref 60), some (.ref (rf 10 0)), some (.ref (rf 11 80)), some (.int (nI (6 * n)))] [] fi fr ai ar N Q) : EV (mL L xs) 11 (64 + k) (10800 + z) 807 [some (.ref 60), some (.ref (rf 10 0)), some (.ref (rf 11 80)), some (.int (nI (6 * n)))] [] fi fr ai ar N Q := by
  obtain ⟨w, lg, u, V, im, tp, t, fl, pl, rs, cs, ts, r, p⟩ := h
  have gw := p.1.1
  have hb := GB_0 p.1 (show n < 512 by omega)
  have hu6 := p.2.2.2.2.2.2.2
  have hep := hb.1
  refine e_aload_n dL_law_807 rfl rfl ?_
  cases u with
  | zero =>
    refine e_callV (M' := mX10_undo) (k' := 0) (z' := 0) (k2 := 64 + k) (z2 := 10800 + z) (As := []) dL_law_808 ml_L_101 ok_X10_undo (by decide) rfl im_X10_undo se_X10_undo (ct_xu0 cs) rfl rfl (Nat.le_of_ble_eq_true rfl) (by decide) ⟨by omega, by omega⟩ (Nat.le_of_ble_eq_true rfl) (fun r1 f1 g1 a1 q1 n1 hI => ?_)
    obtain ⟨i1, cs1, fx⟩ := hI
    rw [i1]
    clear i1 r1
    dsimp only [Option.toList, List.cons_append, List.nil_append]
    have sm := cs1.2.1
    have r1 : RS f1 a1 w lg 0 V im tp t fl pl rs := RS_fx r (fun f r x y => fx.1 f r (by omega)) (fun a x y => fx.2 a (by omega))
    have e81 : mW a1 w = a1 := mW_self r1.1
    have hsc : f1 (32 * 11 + 8) (rf 11 80) = bI false := r1.2.2.1
    refine e_aload_n dL_law_811 rfl rfl ?_
    have hR := ct_undo0 (fi := f1) (ai := a1) (ar := q1) (N := n1) (w := w) sm r1.2.1
    rw [e81] at hR
    refine e_callV (M' := mX11_undo) (k' := 0) (z' := 0) (k2 := 64 + k) (z2 := 10800 + z) (As := []) dL_law_812 ml_L_104 ok_X11_undo (by decide) rfl im_X11_undo se_X11_undo (hR) rfl rfl (Nat.le_of_ble_eq_true rfl) (by decide) ⟨by omega, by omega⟩ (Nat.le_of_ble_eq_true rfl) (fun r2 f2 g2 a2 q2 n2 hJ => ?_)
    obtain ⟨j1, j2, j3, j4, j5, j6⟩ := hJ
    rw [j1, j2, j3, j4, j5, j6]
    clear j1 j2 j3 j4 j5 j6 r2 f2 g2 a2 q2 n2
    dsimp only [Option.toList, List.cons_append, List.nil_append]
    have hls := LS_q cs1 fx ts r p
    refine e_icmp_eq (tgt := 1538) dL_law_815 (by decide) (fun _ => ?_) (fun hne => absurd rfl hne)
    exact e_wk (by omega) (by omega) (kk _ _ _ _ _ hls)
  | succ u =>
    refine e_callV (M' := mX10_undo) (k' := 0) (z' := 0) (k2 := 64 + k) (z2 := 10800 + z) (As := []) dL_law_808 ml_L_101 ok_X10_undo (by decide) rfl im_X10_undo se_X10_undo (ct_xu1 cs) rfl rfl (Nat.le_of_ble_eq_true rfl) (by decide) ⟨by omega, by omega⟩ (Nat.le_of_ble_eq_true rfl) (fun r1 f1 g1 a1 q1 n1 hI => ?_)
    obtain ⟨i1, cs1, fx⟩ := hI
    rw [i1]
    clear i1 r1
    dsimp only [Option.toList, List.cons_append, List.nil_append]
    have sm := cs1.2.1
    have r1 : RS f1 a1 w lg (u + 1) V im tp t fl pl rs := RS_fx r (fun f r x y => fx.1 f r (by omega)) (fun a x y => fx.2 a (by omega))
    have e81 : mW a1 w = a1 := mW_self r1.1
    have hsc : f1 (32 * 11 + 8) (rf 11 80) = bI false := r1.2.2.1
    refine e_aload_n dL_law_811 rfl rfl ?_
    have hR := ct_undo1 (fi := f1) (ai := a1) (ar := q1) (N := n1) (w := w) sm r1.2.1 hu6 (Nat.succ_pos u) (v := V u) (fun k hk => r1.2.2.2.2.2.1 u k (Nat.lt_succ_self u) hk)
    rw [e81, ov_un] at hR
    refine e_callV (M' := mX11_undo) (k' := 0) (z' := 0) (k2 := 64 + k) (z2 := 10800 + z) (As := []) dL_law_812 ml_L_104 ok_X11_undo (by decide) rfl im_X11_undo se_X11_undo (hR) rfl rfl (Nat.le_of_ble_eq_true rfl) (by decide) ⟨by omega, by omega⟩ (Nat.le_of_ble_eq_true rfl) (fun r2 f2 g2 a2 q2 n2 hJ => ?_)
    obtain ⟨j1, j2, j3, j4, j5, j6⟩ := hJ
    rw [j1, j2, j3, j4, j5, j6]
    clear j1 j2 j3 j4 j5 j6 r2 f2 g2 a2 q2 n2
    dsimp only [Option.toList, List.cons_append, List.nil_append]
    have hls := LS_undo cs1 fx ts r p
    refine e_icmp_eq (tgt := 1538) dL_law_815 (by decide) (fun _ => ?_) (fun hne => absurd rfl hne)
    exact e_wk (by omega) (by omega) (kk _ _ _ _ _ hls)
theorem lc_45 {L n k z : Nat} {xs : Nat → Int32} {fi : FI} {fr : FR} {ai : FI} {ar : FR} {N : Nat} {Q : EQ} (hL : 6 * n + 6 ≤ L) (hL2 : L ≤ 3072) (h : LSt fi fr ai ar N n) (kk : ∀ fi fr ai ar N, LSt fi fr ai ar N (n + 1) → EV (mL L xs) 11 k z 1538 [some (.ref 60), some (.ref (rf 10 0)), some (.ref (rf 11 80)), some (.int (nI (6 * n)))] [] fi fr ai ar N Q) : EV (mL L xs) 11 (64 + k) (10800 + z) 1476 [some (.ref 60), some (.ref (rf 10 0)), some (.ref (rf 11 80)), some (.int (nI (6 * n)))] [] fi fr ai ar N Q := by
  obtain ⟨w, lg, u, V, im, tp, t, fl, pl, rs, cs, ts, r, p⟩ := h
  have gw := p.1.1
  have hb := GB_0 p.1 (show n < 512 by omega)
  have hu6 := p.2.2.2.2.2.2.2
  have hep := hb.1
  by_cases hx : (xs (6 * n + 1)) = 0
  · skip
    refine e_aload_n dL_law_1476 rfl rfl ?_
    refine e_aload_n dL_law_1477 rfl rfl ?_
    refine e_iload_n dL_law_1478 rfl rfl ?_
    refine e_iconst (v := nI 1) dL_law_1479 rfl ?_
    refine n_iadd dL_law_1480 ?_
    refine e_sl dL_law_1481 (show 6 * n + 1 < L by omega) hL2 ?_
    refine e_if_eq (tgt := 1489) dL_law_1482 (by decide) (fun _ => ?_) (fun hz => absurd hx hz)
    refine e_iconst (v := bI false) dL_law_1489 rfl ?_
    cases im with
    | none =>
      refine e_callV (M' := mX10_image) (k' := 0) (z' := 0) (k2 := 64 + k) (z2 := 10800 + z) (As := [_]) dL_law_1490 ml_L_203 ok_X10_image (by decide) rfl im_X10_image se_X10_image (ct_img1 cs) rfl rfl (Nat.le_of_ble_eq_true rfl) (by decide) ⟨by omega, by omega⟩ (Nat.le_of_ble_eq_true rfl) (fun r1 f1 g1 a1 q1 n1 hI => ?_)
      obtain ⟨i1, cs1, fx⟩ := hI
      rw [i1]
      clear i1 r1
      dsimp only [Option.toList, List.cons_append, List.nil_append]
      have sm := cs1.2.1
      have r1 : RS f1 a1 w lg u V none tp t fl pl rs := RS_fx r (fun f r x y => fx.1 f r (by omega)) (fun a x y => fx.2 a (by omega))
      have e81 : mW a1 w = a1 := mW_self r1.1
      have hsc : f1 (32 * 11 + 8) (rf 11 80) = bI false := r1.2.2.1
      refine e_aload_n dL_law_1493 rfl rfl ?_
      refine e_aload_n dL_law_1494 rfl rfl ?_
      refine e_iload_n dL_law_1495 rfl rfl ?_
      refine e_iconst (v := nI 1) dL_law_1496 rfl ?_
      refine n_iadd dL_law_1497 ?_
      refine e_sl dL_law_1498 (show 6 * n + 1 < L by omega) hL2 ?_
      refine e_if_eq (tgt := 1506) dL_law_1499 (by decide) (fun _ => ?_) (fun hz => absurd hx hz)
      refine e_iconst (v := bI false) dL_law_1506 rfl ?_
      have hR := ct_image00 (fi := f1) (ai := a1) (ar := q1) (N := n1) (w := w) sm (r1.2.2.2.2.2.2.2.1 rfl)
      rw [e81] at hR
      refine e_callV (M' := mX11_image) (k' := 0) (z' := 0) (k2 := 64 + k) (z2 := 10800 + z) (As := [_]) dL_law_1507 ml_L_207 ok_X11_image (by decide) rfl im_X11_image se_X11_image (hR) rfl rfl (Nat.le_of_ble_eq_true rfl) (by decide) ⟨by omega, by omega⟩ (Nat.le_of_ble_eq_true rfl) (fun r2 f2 g2 a2 q2 n2 hJ => ?_)
      obtain ⟨j1, j2, j3, j4, j5, j6⟩ := hJ
      rw [j1, j2, j3, j4, j5, j6]
      clear j1 j2 j3 j4 j5 j6 r2 f2 g2 a2 q2 n2
      dsimp only [Option.toList, List.cons_append, List.nil_append]
      have hls := LS_q cs1 fx ts r p
      refine e_icmp_eq (tgt := 1538) dL_law_1510 (by decide) (fun _ => ?_) (fun hne => absurd rfl hne)
      exact e_wk (by omega) (by omega) (kk _ _ _ _ _ hls)
    | some q =>
      refine e_callV (M' := mX10_image) (k' := 0) (z' := 0) (k2 := 64 + k) (z2 := 10800 + z) (As := [_]) dL_law_1490 ml_L_203 ok_X10_image (by decide) rfl im_X10_image se_X10_image (ct_img2 cs (iv_ep0 (p.2.2.2.2.1 q rfl).1.1)) rfl rfl (Nat.le_of_ble_eq_true rfl) (by decide) ⟨by omega, by omega⟩ (Nat.le_of_ble_eq_true rfl) (fun r1 f1 g1 a1 q1 n1 hI => ?_)
      obtain ⟨i1, cs1, fx⟩ := hI
      rw [i1]
      clear i1 r1
      dsimp only [Option.toList, List.cons_append, List.nil_append]
      have sm := cs1.2.1
      have r1 : RS f1 a1 w lg u V (some q) tp t fl pl rs := RS_fx r (fun f r x y => fx.1 f r (by omega)) (fun a x y => fx.2 a (by omega))
      have e81 : mW a1 w = a1 := mW_self r1.1
      have hsc : f1 (32 * 11 + 8) (rf 11 80) = bI false := r1.2.2.1
      refine e_aload_n dL_law_1493 rfl rfl ?_
      refine e_aload_n dL_law_1494 rfl rfl ?_
      refine e_iload_n dL_law_1495 rfl rfl ?_
      refine e_iconst (v := nI 1) dL_law_1496 rfl ?_
      refine n_iadd dL_law_1497 ?_
      refine e_sl dL_law_1498 (show 6 * n + 1 < L by omega) hL2 ?_
      refine e_if_eq (tgt := 1506) dL_law_1499 (by decide) (fun _ => ?_) (fun hz => absurd hx hz)
      refine e_iconst (v := bI false) dL_law_1506 rfl ?_
      have hR := ct_image01 (fi := f1) (ai := a1) (ar := q1) (N := n1) (w := w) sm (r1.2.2.2.2.2.2.2.2.1 q rfl).1 (v := q.1) (r1.2.2.2.2.2.2.2.2.1 q rfl).2.1
      rw [e81] at hR
      refine e_callV (M' := mX11_image) (k' := 0) (z' := 0) (k2 := 64 + k) (z2 := 10800 + z) (As := [_]) dL_law_1507 ml_L_207 ok_X11_image (by decide) rfl im_X11_image se_X11_image (hR) rfl rfl (Nat.le_of_ble_eq_true rfl) (by decide) ⟨by omega, by omega⟩ (Nat.le_of_ble_eq_true rfl) (fun r2 f2 g2 a2 q2 n2 hJ => ?_)
      obtain ⟨j1, j2, j3, j4, j5, j6⟩ := hJ
      rw [j1, j2, j3, j4, j5, j6]
      clear j1 j2 j3 j4 j5 j6 r2 f2 g2 a2 q2 n2
      dsimp only [Option.toList, List.cons_append, List.nil_append]
      have hls := LS_img2 (im := none) cs1 fx ts r p
      refine e_icmp_eq (tgt := 1538) dL_law_1510 (by decide) (fun _ => ?_) (fun hne => absurd rfl hne)
      exact e_wk (by omega) (by omega) (kk _ _ _ _ _ hls)
  · skip
    refine e_aload_n dL_law_1476 rfl rfl ?_
    refine e_aload_n dL_law_1477 rfl rfl ?_
    refine e_iload_n dL_law_1478 rfl rfl ?_
    refine e_iconst (v := nI 1) dL_law_1479 rfl ?_
    refine n_iadd dL_law_1480 ?_
    refine e_sl dL_law_1481 (show 6 * n + 1 < L by omega) hL2 ?_
    refine e_if_eq (tgt := 1489) dL_law_1482 (by decide) (fun hz => absurd hz hx) (fun _ => ?_)
    refine e_iconst (v := bI true) dL_law_1485 rfl ?_
    refine e_goto (tgt := 1490) dL_law_1486 (by decide) ?_
    refine e_callV (M' := mX10_image) (k' := 64) (z' := 10702) (k2 := 0 + k) (z2 := 98 + z) (As := [_]) dL_law_1490 ml_L_203 ok_X10_image (by decide) rfl im_X10_image se_X10_image (ct_img0 cs gw.1 (iv_ep0 gw.1)) rfl rfl (Nat.le_of_ble_eq_true rfl) (by decide) ⟨by omega, by omega⟩ (Nat.le_of_ble_eq_true rfl) (fun r1 f1 g1 a1 q1 n1 hI => ?_)
    obtain ⟨i1, cs1, fx⟩ := hI
    rw [i1]
    clear i1 r1
    dsimp only [Option.toList, List.cons_append, List.nil_append]
    have sm := cs1.2.1
    have r1 : RS f1 a1 w lg u V im tp t fl pl rs := RS_fx r (fun f r x y => fx.1 f r (by omega)) (fun a x y => fx.2 a (by omega))
    have e81 : mW a1 w = a1 := mW_self r1.1
    have hsc : f1 (32 * 11 + 8) (rf 11 80) = bI false := r1.2.2.1
    refine e_aload_n dL_law_1493 rfl rfl ?_
    refine e_aload_n dL_law_1494 rfl rfl ?_
    refine e_iload_n dL_law_1495 rfl rfl ?_
    refine e_iconst (v := nI 1) dL_law_1496 rfl ?_
    refine n_iadd dL_law_1497 ?_
    refine e_sl dL_law_1498 (show 6 * n + 1 < L by omega) hL2 ?_
    refine e_if_eq (tgt := 1506) dL_law_1499 (by decide) (fun hz => absurd hz hx) (fun _ => ?_)
    refine e_iconst (v := bI true) dL_law_1502 rfl ?_
    refine e_goto (tgt := 1507) dL_law_1503 (by decide) ?_
    have hR := ct_image1 (fi := f1) (ai := a1) (ar := q1) (N := n1) (w := w) sm
    rw [e81] at hR
    refine e_callV (M' := mX11_image) (k' := 0) (z' := 0) (k2 := 0 + k) (z2 := 98 + z) (As := [_]) dL_law_1507 ml_L_207 ok_X11_image (by decide) rfl im_X11_image se_X11_image (hR) rfl rfl (Nat.le_of_ble_eq_true rfl) (by decide) ⟨by omega, by omega⟩ (Nat.le_of_ble_eq_true rfl) (fun r2 f2 g2 a2 q2 n2 hJ => ?_)
    obtain ⟨j1, j2, j3, j4, j5, j6⟩ := hJ
    rw [j1, j2, j3, j4, j5, j6]
    clear j1 j2 j3 j4 j5 j6 r2 f2 g2 a2 q2 n2
    dsimp only [Option.toList, List.cons_append, List.nil_append]
    have hls := LS_img1 cs1 fx ts r p
    refine e_icmp_eq (tgt := 1538) dL_law_1510 (by decide) (fun _ => ?_) (fun hne => absurd rfl hne)
    exact e_wk (by omega) (by omega) (kk _ _ _ _ _ hls)
