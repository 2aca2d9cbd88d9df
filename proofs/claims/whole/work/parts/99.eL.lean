theorem CM_80 {fr fr' ar : FR} (hf : ∀ f r, r / 64 < 80 → fr' f r = fr f r) (h : CM fr ar) : CM fr' ar := by
  obtain ⟨h1, h2, h3, h4, h5, h6, h7, h8, h9⟩ := h
  refine ⟨WL_fr (fun f r a b => hf f r (by omega)) (fun _ _ _ _ => rfl) h1, LL_fr (fun f => hf _ _ (by decide)) h2, ?_, ?_, ?_, ?_, ?_, ?_, ?_⟩
  · rw [hf _ _ (by decide), hf _ _ (by decide), hf _ _ (by decide), hf _ _ (by decide), hf _ _ (by decide)]; exact h3
  · rw [hf _ _ (by decide), hf _ _ (by decide)]; exact h4
  · rw [hf _ _ (by decide), hf _ _ (by decide), hf _ _ (by decide)]; exact h5
  · rw [hf _ _ (by decide), hf _ _ (by decide)]; exact h6
  · rw [hf _ _ (by decide)]; exact h7
  · rw [hf _ _ (by decide), hf _ _ (by decide), hf _ _ (by decide)]; exact h8
  · rw [hf _ _ (by decide), hf _ _ (by decide), hf _ _ (by decide), hf _ _ (by decide), hf _ _ (by decide), hf _ _ (by decide), hf _ _ (by decide), hf _ _ (by decide)]; exact h9
theorem w00_z {q : Nat} (h : 10 ≤ q) (h2 : q ≠ 74) : w00 q = 0 := by
  unfold w00
  rw [if_neg (by omega), if_neg (by omega)]
theorem GW_00 : GW w00 := by
  have e1 : w00 1 = 1 := rfl
  have e3 : w00 3 = 0 := rfl
  have e0 : w00 0 = 1 := rfl
  refine ⟨⟨⟨by rw [e1]; decide, by rw [e1]; decide⟩, rfl, fun i hi => absurd hi (by rw [e1]; omega), fun i hi => ?_, fun i hi => ?_, ⟨by rw [e0]; decide, fun i hi => ?_⟩, ⟨by decide, by decide⟩, by rw [e3]; decide, fun s hs => ?_, fun k hk => ?_, fun i hi => ?_, fun c hc => ?_, fun m hm => absurd hm (by rw [e3]; omega)⟩, ⟨by rw [e0]; decide, fun m hm => absurd hm (by rw [e3]; omega), fun m m' _ hm => absurd hm (by rw [e3]; omega)⟩, ?_⟩
  · rw [e1] at hi
    rw [w00_z (by omega) (by omega)]; decide
  · rw [e1] at hi
    rw [w00_z (by omega) (by omega)]; decide
  · rw [e1] at hi
    rw [show i = 0 by omega]; decide
  · unfold w00
    split
    · exact Nat.le_refl 1
    · rw [if_neg (by omega)]; decide
  · rw [w00_z (by omega) (by omega)]; decide
  · rw [w00_z (by omega) (by omega)]; decide
  · rw [w00_z (q := 7106 + 98 * c + 1) (by omega) (by omega), w00_z (q := 7106 + 98 * c + 0) (by omega) (by omega), w00_z (q := 7106 + 98 * c + 2) (by omega) (by omega)]
    exact ⟨by decide, by decide, by decide, rfl, fun j hj => absurd hj (Nat.not_lt_zero j)⟩
  · rw [e3]; decide
theorem LS_0 {f1 a1 : FI} {g1 q1 : FR} {g2 : FR} (cm : CM g1 q1) (kw : KW 1 f1 a1 w00) (z1 : ∀ a i, 58 ≤ a / 64 → a1 a i = 0 ∧ q1 a i = none) (z2 : ∀ f r, 58 ≤ r / 64 → r ≠ rf 7 76 → f1 f r = 0) (z3 : ∀ f, f ≠ 32 * 7 + 6 → f1 f (rf 7 76) = 0) (z4 : f1 (32 * 7 + 6) (rf 7 76) = -1) (z5 : f1 (32 * 10 + 10) (rf 10 0) = -1) (z6 : g1 (32 * 10 + 8) (rf 10 0) = none) (z7 : g1 (32 * 10 + 9) (rf 10 0) = none) (sm : SM g2) (jf : ∀ f r, r ≠ rf 11 80 → g2 f r = g1 f r) : LSt (up2 (up2 f1 (32 * 11 + 13) (rf 11 80) (-1)) (32 * 11 + 14) (rf 11 80) (-1)) g2 (mW a1 w00) q1 89 0 := by
  have e0 : w00 0 = 1 := rfl
  have hf : ∀ f r, r / 64 ≠ 80 → up2 (up2 f1 (32 * 11 + 13) (rf 11 80) (-1)) (32 * 11 + 14) (rf 11 80) (-1) f r = f1 f r := fun f r hr => by rw [up2_n _ _ (fun e => hr (by rw [e.2, rf_div (by decide)])), up2_n _ _ (fun e => hr (by rw [e.2, rf_div (by decide)]))]
  have hr : ∀ f, f ≠ 32 * 11 + 13 → f ≠ 32 * 11 + 14 → up2 (up2 f1 (32 * 11 + 13) (rf 11 80) (-1)) (32 * 11 + 14) (rf 11 80) (-1) f (rf 11 80) = 0 := fun f h1 h2 => by
    rw [up2_n _ _ (fun e => h2 e.1), up2_n _ _ (fun e => h1 e.1)]
    exact z2 _ _ (by decide) (by decide)
  have ha : ∀ a, a ≠ rf 32 81 → mW a1 w00 a = a1 a := fun a h => mW_o h
  have hz : ∀ a i, 58 ≤ a / 64 → a ≠ rf 32 81 → mW a1 w00 a i = 0 := fun a i h h2 => by rw [ha a h2]; exact (z1 a i h).1
  refine ⟨w00, fun _ => 0, 0, fun _ => w00, none, fun _ => 0, 0, 0, -1, -1, ⟨CM_80 (fun f r h => jf f r (fun e => by rw [e, rf_div (by decide)] at h; omega)) cm, sm, ⟨?_, ⟨fun j hj => ?_, fun c hc => ?_, fun e _ _ => hz _ _ (by rw [rf_div (by decide)]; omega) (by decide)⟩, hz _ _ (by decide) (by decide)⟩, fun _ => 0, 0, ⟨Nat.le_refl 89, fun i _ h => absurd rfl h, fun i j _ _ _ h => absurd rfl h, fun i hi => (z1 _ i (by decide)).2, fun i _ h => absurd rfl h, fun h => absurd rfl h, (jf _ _ (by decide)).trans z6, (jf _ _ (by decide)).trans z7⟩, by decide, by decide, (hf _ _ (by decide)).trans (z2 _ _ (by decide) (by decide)), (hf _ _ (by decide)).trans (z2 _ _ (by decide) (by decide)), fun j hj => absurd hj (Nat.not_lt_zero j), fun _ => ⟨rfl, rfl⟩, fun q hq => by cases hq⟩, ⟨(hf _ _ (by decide)).trans (z3 _ (by decide)), fun i hi => absurd hi (Nat.not_lt_zero i), (hf _ _ (by decide)).trans (z3 _ (by decide)), (hf _ _ (by decide)).trans z4, (hf _ _ (by decide)).trans z5⟩, ⟨if_pos rfl, hr _ (by decide) (by decide), hr _ (by decide) (by decide), hr _ (by decide) (by decide), fun i hi => absurd hi (Nat.not_lt_zero i), fun j k hj _ => absurd hj (Nat.not_lt_zero j), ⟨⟨rfl, rfl⟩, fun e h1 h2 => absurd h2 (by rw [e0]; omega)⟩, fun _ => hr _ (by decide) (by decide), fun q hq => (by cases hq), hr _ (by decide) (by decide), ?_, up2_s _ _ _ _⟩, ⟨⟨GW_00, fun k hk => ?_, by rw [e0]; decide⟩, fun j hj => absurd hj (Nat.not_lt_zero j), fun i j _ hj => absurd hj (Nat.not_lt_zero j), fun j hj => absurd hj (Nat.not_lt_zero j), fun q hq => (by cases hq), Nat.zero_le _, fun _ => (show (0 : Nat) < 256 by decide), Nat.zero_le _⟩⟩
  · exact KW_fr (by decide) (fun f r x y => hf f r (by omega)) (fun a x y => ha a (fun e => by rw [e, rf_div (by decide)] at y; omega)) kw
  · rw [w00_z (by omega) (by omega)]
    exact hz _ _ (by decide) (by decide)
  · rw [w00_z (by omega) (by omega), w00_z (by omega) (by omega), w00_z (by omega) (by omega), w00_z (by omega) (by omega)]
    exact ⟨hz _ _ (by decide) (by decide), hz _ _ (by decide) (by decide), hz _ _ (by decide) (by decide), hz _ _ (by decide) (by decide)⟩
  · rw [up2_n _ _ (by decide)]
    exact up2_s _ _ _ _
  · rw [w00_z (by omega) (by omega)]
    exact Nat.zero_le _
theorem v47 {P : Nat → Prop} (h0 : P 0) (h1 : P 1) (h2 : P 2) (h3 : P 3) (h4 : P 4) (h5 : P 5) (h6 : P 6) (h7 : P 7) (h8 : P 8) (h9 : P 9) (h10 : P 10) (h11 : P 11) (h12 : P 12) (h13 : P 13) (h14 : P 14) (h15 : P 15) (h16 : P 16) (h17 : P 17) (h18 : P 18) (h19 : P 19) (h20 : P 20) (h21 : P 21) (h22 : P 22) (h23 : P 23) (h24 : P 24) (h25 : P 25) (h26 : P 26) (h27 : P 27) (h28 : P 28) (h29 : P 29) (h30 : P 30) (h31 : P 31) (h32 : P 32) (h33 : P 33) (h34 : P 34) (h35 : P 35) (h36 : P 36) (h37 : P 37) (h38 : P 38) (h39 : P 39) (h40 : P 40) (h41 : P 41) (h42 : P 42) (h43 : P 43) (h44 : P 44) (h45 : P 45) (h46 : P 46) : ∀ v, v < 47 → P v
  | 0, _ => h0 | 1, _ => h1 | 2, _ => h2 | 3, _ => h3 | 4, _ => h4 | 5, _ => h5 | 6, _ => h6 | 7, _ => h7 | 8, _ => h8 | 9, _ => h9 | 10, _ => h10 | 11, _ => h11 | 12, _ => h12 | 13, _ => h13 | 14, _ => h14 | 15, _ => h15 | 16, _ => h16 | 17, _ => h17 | 18, _ => h18 | 19, _ => h19 | 20, _ => h20 | 21, _ => h21 | 22, _ => h22 | 23, _ => h23 | 24, _ => h24 | 25, _ => h25 | 26, _ => h26 | 27, _ => h27 | 28, _ => h28 | 29, _ => h29 | 30, _ => h30 | 31, _ => h31 | 32, _ => h32 | 33, _ => h33 | 34, _ => h34 | 35, _ => h35 | 36, _ => h36 | 37, _ => h37 | 38, _ => h38 | 39, _ => h39 | 40, _ => h40 | 41, _ => h41 | 42, _ => h42 | 43, _ => h43 | 44, _ => h44 | 45, _ => h45 | 46, _ => h46
  | n + 47, h => absurd h (by omega)
theorem sw_at {L n k z : Nat} {xs : Nat → Int32} {fi : FI} {fr : FR} {ai : FI} {ar : FR} {N : Nat} {Q : EQ} (hL : 6 * n + 6 ≤ L) (hL2 : L ≤ 3072) (h : LSt fi fr ai ar N n) (kk : ∀ fi fr ai ar N, LSt fi fr ai ar N (n + 1) → EV (mL L xs) 11 k z 1538 [some (.ref 60), some (.ref (rf 10 0)), some (.ref (rf 11 80)), some (.int (nI (6 * n)))] [] fi fr ai ar N Q) {x : Int32} : ∀ v : Nat, v < 47 → x.toInt = (v : Int) → EV (mL L xs) 11 (64 + k) (10800 + z) 33 [some (.ref 60), some (.ref (rf 10 0)), some (.ref (rf 11 80)), some (.int (nI (6 * n)))] [.int x] fi fr ai ar N Q := by
  refine v47 (P := fun v => x.toInt = (v : Int) → EV (mL L xs) 11 (64 + k) (10800 + z) 33 [some (.ref 60), some (.ref (rf 10 0)), some (.ref (rf 11 80)), some (.int (nI (6 * n)))] [.int x] fi fr ai ar N Q) ?_ ?_ ?_ ?_ ?_ ?_ ?_ ?_ ?_ ?_ ?_ ?_ ?_ ?_ ?_ ?_ ?_ ?_ ?_ ?_ ?_ ?_ ?_ ?_ ?_ ?_ ?_ ?_ ?_ ?_ ?_ ?_ ?_ ?_ ?_ ?_ ?_ ?_ ?_ ?_ ?_ ?_ ?_ ?_ ?_ ?_ ?_
  · exact fun hv => e_swc (tgt := 236) 0 dL_law_33 (by decide) (by decide) rfl (by decide) (fun _ => lc_0 hL hL2 h kk) (fun hne => absurd hv hne)
  · exact fun hv => e_swc (tgt := 259) 1 dL_law_33 (by decide) (by decide) rfl (by decide) (fun _ => lc_1 hL hL2 h kk) (fun hne => absurd hv hne)
  · exact fun hv => e_swc (tgt := 292) 2 dL_law_33 (by decide) (by decide) rfl (by decide) (fun _ => lc_2 hL hL2 h kk) (fun hne => absurd hv hne)
  · exact fun hv => e_swc (tgt := 335) 3 dL_law_33 (by decide) (by decide) rfl (by decide) (fun _ => lc_3 hL hL2 h kk) (fun hne => absurd hv hne)
  · exact fun hv => e_swc (tgt := 378) 4 dL_law_33 (by decide) (by decide) rfl (by decide) (fun _ => lc_4 hL hL2 h kk) (fun hne => absurd hv hne)
  · exact fun hv => e_swc (tgt := 411) 5 dL_law_33 (by decide) (by decide) rfl (by decide) (fun _ => lc_5 hL hL2 h kk) (fun hne => absurd hv hne)
  · exact fun hv => e_swc (tgt := 434) 6 dL_law_33 (by decide) (by decide) rfl (by decide) (fun _ => lc_6 hL hL2 h kk) (fun hne => absurd hv hne)
  · exact fun hv => e_swc (tgt := 457) 7 dL_law_33 (by decide) (by decide) rfl (by decide) (fun _ => lc_7 hL hL2 h kk) (fun hne => absurd hv hne)
  · exact fun hv => e_swc (tgt := 490) 8 dL_law_33 (by decide) (by decide) rfl (by decide) (fun _ => lc_8 hL hL2 h kk) (fun hne => absurd hv hne)
  · exact fun hv => e_swc (tgt := 523) 9 dL_law_33 (by decide) (by decide) rfl (by decide) (fun _ => lc_9 hL hL2 h kk) (fun hne => absurd hv hne)
  · exact fun hv => e_swc (tgt := 556) 10 dL_law_33 (by decide) (by decide) rfl (by decide) (fun _ => lc_10 hL hL2 h kk) (fun hne => absurd hv hne)
  · exact fun hv => e_swc (tgt := 579) 11 dL_law_33 (by decide) (by decide) rfl (by decide) (fun _ => lc_11 hL hL2 h kk) (fun hne => absurd hv hne)
  · exact fun hv => e_swc (tgt := 602) 12 dL_law_33 (by decide) (by decide) rfl (by decide) (fun _ => lc_12 hL hL2 h kk) (fun hne => absurd hv hne)
  · exact fun hv => e_swc (tgt := 625) 13 dL_law_33 (by decide) (by decide) rfl (by decide) (fun _ => lc_13 hL hL2 h kk) (fun hne => absurd hv hne)
  · exact fun hv => e_swc (tgt := 648) 14 dL_law_33 (by decide) (by decide) rfl (by decide) (fun _ => lc_14 hL hL2 h kk) (fun hne => absurd hv hne)
  · exact fun hv => e_swc (tgt := 662) 15 dL_law_33 (by decide) (by decide) rfl (by decide) (fun _ => lc_15 hL hL2 h kk) (fun hne => absurd hv hne)
  · exact fun hv => e_swc (tgt := 685) 16 dL_law_33 (by decide) (by decide) rfl (by decide) (fun _ => lc_16 hL hL2 h kk) (fun hne => absurd hv hne)
  · exact fun hv => e_swc (tgt := 748) 17 dL_law_33 (by decide) (by decide) rfl (by decide) (fun _ => lc_17 hL hL2 h kk) (fun hne => absurd hv hne)
  · exact fun hv => e_swc (tgt := 771) 18 dL_law_33 (by decide) (by decide) rfl (by decide) (fun _ => lc_18 hL hL2 h kk) (fun hne => absurd hv hne)
  · exact fun hv => e_swc (tgt := 784) 19 dL_law_33 (by decide) (by decide) rfl (by decide) (fun _ => lc_19 hL hL2 h kk) (fun hne => absurd hv hne)
  · exact fun hv => e_swc (tgt := 807) 20 dL_law_33 (by decide) (by decide) rfl (by decide) (fun _ => lc_20 hL hL2 h kk) (fun hne => absurd hv hne)
  · exact fun hv => e_swc (tgt := 820) 21 dL_law_33 (by decide) (by decide) rfl (by decide) (fun _ => lc_21 hL hL2 h kk) (fun hne => absurd hv hne)
  · exact fun hv => e_swc (tgt := 853) 22 dL_law_33 (by decide) (by decide) rfl (by decide) (fun _ => lc_22 hL hL2 h kk) (fun hne => absurd hv hne)
  · exact fun hv => e_swc (tgt := 877) 23 dL_law_33 (by decide) (by decide) rfl (by decide) (fun _ => lc_23 hL hL2 h kk) (fun hne => absurd hv hne)
  · exact fun hv => e_swc (tgt := 900) 24 dL_law_33 (by decide) (by decide) rfl (by decide) (fun _ => lc_24 hL hL2 h kk) (fun hne => absurd hv hne)
  · exact fun hv => e_swc (tgt := 923) 25 dL_law_33 (by decide) (by decide) rfl (by decide) (fun _ => lc_25 hL hL2 h kk) (fun hne => absurd hv hne)
  · exact fun hv => e_swc (tgt := 956) 26 dL_law_33 (by decide) (by decide) rfl (by decide) (fun _ => lc_26 hL hL2 h kk) (fun hne => absurd hv hne)
  · exact fun hv => e_swc (tgt := 980) 27 dL_law_33 (by decide) (by decide) rfl (by decide) (fun _ => lc_27 hL hL2 h kk) (fun hne => absurd hv hne)
  · exact fun hv => e_swc (tgt := 1013) 28 dL_law_33 (by decide) (by decide) rfl (by decide) (fun _ => lc_28 hL hL2 h kk) (fun hne => absurd hv hne)
  · exact fun hv => e_swc (tgt := 1046) 29 dL_law_33 (by decide) (by decide) rfl (by decide) (fun _ => lc_29 hL hL2 h kk) (fun hne => absurd hv hne)
  · exact fun hv => e_swc (tgt := 1079) 30 dL_law_33 (by decide) (by decide) rfl (by decide) (fun _ => lc_30 hL hL2 h kk) (fun hne => absurd hv hne)
  · exact fun hv => e_swc (tgt := 1112) 31 dL_law_33 (by decide) (by decide) rfl (by decide) (fun _ => lc_31 hL hL2 h kk) (fun hne => absurd hv hne)
  · exact fun hv => e_swc (tgt := 1145) 32 dL_law_33 (by decide) (by decide) rfl (by decide) (fun _ => lc_32 hL hL2 h kk) (fun hne => absurd hv hne)
  · exact fun hv => e_swc (tgt := 1178) 33 dL_law_33 (by decide) (by decide) rfl (by decide) (fun _ => lc_33 hL hL2 h kk) (fun hne => absurd hv hne)
  · exact fun hv => e_swc (tgt := 1211) 34 dL_law_33 (by decide) (by decide) rfl (by decide) (fun _ => lc_34 hL hL2 h kk) (fun hne => absurd hv hne)
  · exact fun hv => e_swc (tgt := 1254) 35 dL_law_33 (by decide) (by decide) rfl (by decide) (fun _ => lc_35 hL hL2 h kk) (fun hne => absurd hv hne)
  · exact fun hv => e_swc (tgt := 1288) 36 dL_law_33 (by decide) (by decide) rfl (by decide) (fun _ => lc_36 hL hL2 h kk) (fun hne => absurd hv hne)
  · exact fun hv => e_swc (tgt := 1311) 37 dL_law_33 (by decide) (by decide) rfl (by decide) (fun _ => lc_37 hL hL2 h kk) (fun hne => absurd hv hne)
  · exact fun hv => e_swc (tgt := 1344) 38 dL_law_33 (by decide) (by decide) rfl (by decide) (fun _ => lc_38 hL hL2 h kk) (fun hne => absurd hv hne)
  · exact fun hv => e_swc (tgt := 1357) 39 dL_law_33 (by decide) (by decide) rfl (by decide) (fun _ => lc_39 hL hL2 h kk) (fun hne => absurd hv hne)
  · exact fun hv => e_swc (tgt := 1370) 40 dL_law_33 (by decide) (by decide) rfl (by decide) (fun _ => lc_40 hL hL2 h kk) (fun hne => absurd hv hne)
  · exact fun hv => e_swc (tgt := 1384) 41 dL_law_33 (by decide) (by decide) rfl (by decide) (fun _ => lc_41 hL hL2 h kk) (fun hne => absurd hv hne)
  · exact fun hv => e_swc (tgt := 1407) 42 dL_law_33 (by decide) (by decide) rfl (by decide) (fun _ => lc_42 hL hL2 h kk) (fun hne => absurd hv hne)
  · exact fun hv => e_swc (tgt := 1430) 43 dL_law_33 (by decide) (by decide) rfl (by decide) (fun _ => lc_43 hL hL2 h kk) (fun hne => absurd hv hne)
  · exact fun hv => e_swc (tgt := 1453) 44 dL_law_33 (by decide) (by decide) rfl (by decide) (fun _ => lc_44 hL hL2 h kk) (fun hne => absurd hv hne)
  · exact fun hv => e_swc (tgt := 1476) 45 dL_law_33 (by decide) (by decide) rfl (by decide) (fun _ => lc_45 hL hL2 h kk) (fun hne => absurd hv hne)
  · exact fun hv => e_swc (tgt := 1515) 46 dL_law_33 (by decide) (by decide) rfl (by decide) (fun _ => lc_46 hL hL2 h kk) (fun hne => absurd hv hne)
theorem LS_up {fi : FI} {fr : FR} {ai : FI} {ar : FR} {N n : Nat} (h : LSt fi fr ai ar N n) : LSt fi fr ai ar N (n + 1) := by
  obtain ⟨w, lg, u, V, im, tp, t, fl, pl, rs, cs, ts, r, p⟩ := h
  exact LS_q cs FX_rf ts r p
theorem lw_loop0 {L n k z : Nat} {xs : Nat → Int32} {fi : FI} {fr : FR} {ai : FI} {ar : FR} {N : Nat} (hL2 : L ≤ 3072) (hls : LSt fi fr ai ar N n) (h1 : L ≤ 6 * n + 5) (h2 : n ≤ 512) : EV (mL L xs) 11 k z 18 [some (.ref 60), some (.ref (rf 10 0)), some (.ref (rf 11 80)), some (.int (nI (6 * n)))] [] fi fr ai ar N (fun v _ _ _ _ _ => v = some (.int 1)) := by
  refine e_iload_n dL_law_18 rfl rfl ?_
  refine e_aload_n dL_law_19 rfl rfl ?_
  refine e_sn dL_law_20 ?_
  refine e_bipush (v := nI 6) dL_law_21 rfl ?_
  have fin : EV (mL L xs) 11 k z 1544 [some (.ref 60), some (.ref (rf 10 0)), some (.ref (rf 11 80)), some (.int (nI (6 * n)))] [] fi fr ai ar N (fun v _ _ _ _ _ => v = some (.int 1)) := by
    refine e_iconst (v := 1) dL_law_1544 rfl ?_
    exact e_ret (some _) rfl ⟨dL_law_1545, .boolean, rfl, rfl⟩ rfl
  by_cases h6 : 6 ≤ L
  · refine n_isub dL_law_23 h6 ?_
    exact n_icmp_gt (tgt := 1544) dL_law_24 (by decide) (by omega) (by omega) (fun _ => fin) (fun hq => by omega)
  · refine e_isub dL_law_23 ?_
    refine e_icmp_gt (tgt := 1544) dL_law_24 (by decide) (fun _ => fin) (fun hq => absurd ?_ hq)
    have g1 : nI L - nI 6 < 0 := pk_sneg (by decide) (by omega)
    have g2 : (0 : Int32) ≤ nI (6 * n) := nI_pos' (b31 (by omega))
    rw [Int32.lt_iff_toInt_lt] at g1 ⊢
    rw [Int32.le_iff_toInt_le] at g2
    omega
theorem lw_loop {L : Nat} {xs : Nat → Int32} (hL2 : L ≤ 3072) : ∀ (m n k z : Nat) (fi : FI) (fr : FR) (ai : FI) (ar : FR) (N : Nat), L ≤ 6 * n + 6 * m + 5 → n + m ≤ 512 → LSt fi fr ai ar N n → 64 * m ≤ k → 10800 * m ≤ z → EV (mL L xs) 11 k z 18 [some (.ref 60), some (.ref (rf 10 0)), some (.ref (rf 11 80)), some (.int (nI (6 * n)))] [] fi fr ai ar N (fun v _ _ _ _ _ => v = some (.int 1)) := by
  intro m
  induction m with
  | zero =>
    intro n k z fi fr ai ar N h1 h2 hls h3 h4
    exact lw_loop0 hL2 hls (by omega) (by omega)
  | succ m ih =>
    intro n k z fi fr ai ar N h1 h2 hls h3 h4
    by_cases h6 : 6 * n + 6 ≤ L
    · refine e_iload_n dL_law_18 rfl rfl ?_
      refine e_aload_n dL_law_19 rfl rfl ?_
      refine e_sn dL_law_20 ?_
      refine e_bipush (v := nI 6) dL_law_21 rfl ?_
      refine n_isub dL_law_23 (by omega) ?_
      refine n_icmp_gt (tgt := 1544) dL_law_24 (by decide) (by omega) (by omega) (fun hq => by omega) (fun _ => ?_)
      refine e_aload_n dL_law_27 rfl rfl ?_
      refine e_iload_n dL_law_28 rfl rfl ?_
      refine e_sl dL_law_29 (show 6 * n < L by omega) hL2 ?_
      refine e_bipush (v := nI 63) dL_law_30 rfl ?_
      refine e_iand dL_law_32 ?_
      generalize xs (6 * n) &&& nI 63 = x
      have nxt : ∀ fi fr ai ar N k' z', LSt fi fr ai ar N (n + 1) → 64 * m ≤ k' → 10800 * m ≤ z' → EV (mL L xs) 11 k' z' 1538 [some (.ref 60), some (.ref (rf 10 0)), some (.ref (rf 11 80)), some (.int (nI (6 * n)))] [] fi fr ai ar N (fun v _ _ _ _ _ => v = some (.int 1)) := by
        intro fi fr ai ar N k' z' hl q1 q2
        refine e_iinc (v := nI (6 * (n + 1))) dL_law_1538 rfl (by rw [show 6 * (n + 1) = 6 * n + 6 by omega, ← nI_add]; rfl) (Nat.le_of_ble_eq_true rfl) rfl ?_
        refine e_goto (tgt := 18) dL_law_1541 (by decide) ?_
        exact ih (n + 1) k' z' fi fr ai ar N (by omega) (by omega) hl q1 q2
      by_cases hx : 0 ≤ x.toInt ∧ x.toInt < 47
      · refine e_wk (k2 := 64 + (k - 64)) (z2 := 10800 + (z - 10800)) (by omega) (by omega) ?_
        exact sw_at h6 hL2 hls (fun fi fr ai ar N hl => nxt fi fr ai ar N (k - 64) (z - 10800) hl (by omega) (by omega)) x.toInt.toNat (by omega) (by omega)
      · refine e_tableOut (tgt := 1538) dL_law_33 (by omega) (by decide) ?_
        exact nxt fi fr ai ar N k z (LS_up hls) (by omega) (by omega)
    · exact lw_loop0 hL2 hls (by omega) (by omega)
theorem law_EV {L : Nat} {xs : Nat → Int32} (hL : L ≤ 3072) {K Z : Nat} (hK : 32857 ≤ K) (hZ : 5643732 ≤ Z) : EV (mL L xs) 11 K Z 0 [some (.ref 60), none, none, none] [] (fun _ _ => 0) (fun _ _ => none) (fun _ _ => 0) (fun _ _ => none) 0 (fun v _ _ _ _ _ => v = some (.int 1)) := by
  refine e_wk hK hZ ?_
  refine e_new 10 dL_law_0 (by decide) cl_L_7 iz_10 nz_10 df_10 (k2 := 32856) (z2 := 5643721) ⟨by omega, by (show 11 + _ ≤ _; omega)⟩ ?_
  refine e_dup dL_law_3 rfl ?_
  refine e_callI (M' := mX10_init) (k' := 79) (z' := 12401) (k2 := 32777) (z2 := 5631320) (As := []) dL_law_4 ml_L_9 ok_X10_init rfl rfl im_X10_init ct_X10_init rfl rfl (Nat.le_of_ble_eq_true rfl) (by decide) ⟨by omega, by omega⟩ (Nat.le_of_ble_eq_true rfl) (fun r1 f1 g1 a1 q1 n1 hI => ?_)
  obtain ⟨i1, iN, cm, kw, z1, z2, z3, z4, z5, z6, z7⟩ := hI
  rw [i1, iN]
  clear i1 iN r1 n1
  dsimp only [Option.toList, List.cons_append, List.nil_append]
  refine e_astore_n dL_law_7 rfl (Nat.le_of_ble_eq_true rfl) rfl ?_
  refine e_new 11 dL_law_8 (by decide) cl_L_10 iz_11 nz_11 df_11 (k2 := 32776) (z2 := 5631299) ⟨by omega, by (show 21 + _ ≤ _; omega)⟩ ?_
  refine e_dup dL_law_11 rfl ?_
  refine e_callI (M' := mX11_init) (k' := 8) (z' := 101699) (k2 := 32768) (z2 := 5529600) (As := []) dL_law_12 ml_L_12 ok_X11_init rfl rfl im_X11_init ct_X11_init rfl rfl (Nat.le_of_ble_eq_true rfl) (by decide) ⟨by omega, by omega⟩ (Nat.le_of_ble_eq_true rfl) (fun r2 f2 g2 a2 q2 n2 hJ => ?_)
  obtain ⟨j1, jN, sm, jf, ja, jr, ji⟩ := hJ
  rw [j1, jN, ja, jr, ji]
  clear j1 jN ja jr ji r2 n2 a2 q2 f2
  dsimp only [Option.toList, List.cons_append, List.nil_append]
  refine e_astore_n dL_law_15 rfl (Nat.le_of_ble_eq_true rfl) rfl ?_
  refine e_iconst (v := nI 0) dL_law_16 rfl ?_
  refine e_istore_n dL_law_17 rfl (Nat.le_of_ble_eq_true rfl) rfl ?_
  exact lw_loop hL 512 0 32768 5529600 _ _ _ _ _ (by omega) (by omega) (LS_0 cm kw z1 z2 z3 z4 z5 z6 z7 sm jf) (by omega) (by omega)
