def undW (w v : Nat → Nat) : Nat → Nat := fun q => if q < 8558 then v q else w q
theorem live_8 {v : Nat → Nat} (iv : Inv v) {q : Nat} (h : live v q) : q < 8558 := by
  have bd := Bd_iv iv
  unfold live at h
  have b1 := bd.1
  have b3 := bd.2.1
  rcases h with h | h | h | h | h | ⟨c, hc, h⟩ | ⟨m, hm, h⟩
  · omega
  · omega
  · omega
  · omega
  · omega
  · have bc := bd.2.2.1 c hc
    rcases h with h | h | ⟨i, hi, h⟩ <;> omega
  · have bm := bd.2.2.2 m hm
    rcases h with ⟨d, hd, h⟩ | ⟨i, hi, h⟩ <;> omega
theorem K_und {fi fi' ai ai' : FI} {w v lg : Nat → Nat} {E : Nat} (iv : Inv v) (hK : K fi ai w lg E) (hk : KW 1 fi' ai' v) (ha : ∀ a, (a / 64 < 1 ∨ 58 ≤ a / 64) → ai' a = ai a) : K fi' ai' (undW w v) lg E := by
  refine ⟨KW_cg (fun q hq => if_pos (live_8 iv hq)) hk, ?_, ?_⟩
  · obtain ⟨a, b, c⟩ := LGR_fr (ai' := ai') (fun x y z => ha x (by omega)) hK.2.1
    refine ⟨fun j hj => ?_, fun k hk => ?_, c⟩
    · rw [show undW w v (8558 + j) = w (8558 + j) from if_neg (by omega)]; exact a j hj
    · rw [show undW w v (8573 + 4 * k) = w (8573 + 4 * k) from if_neg (by omega), show undW w v (8573 + 4 * k + 1) = w (8573 + 4 * k + 1) from if_neg (by omega), show undW w v (8573 + 4 * k + 2) = w (8573 + 4 * k + 2) from if_neg (by omega), show undW w v (8573 + 4 * k + 3) = w (8573 + 4 * k + 3) from if_neg (by omega)]; exact b k hk
  · rw [ha _ (by decide)]; exact hK.2.2
theorem CB_dn {fi fi' : FI} {fr : FR} {ai ai' : FI} {ar : FR} {N u t : Nat} {V : Nat → Nat → Nat} {im : Option ((Nat → Nat) × (Nat → Nat))} {B : Nat → Nat} (h : CB fi fr ai ar N (u + 1) V im B t) (h5 : fi' (32 * 0 + 1) (rf 0 74) = nI ((t + 6) % 7)) (h6 : fi' (32 * 0 + 2) (rf 0 74) = nI u) (hf : ∀ f r, 89 ≤ r / 64 → fi' f r = fi f r) (ha : ∀ a, 89 ≤ a / 64 → ai' a = ai a) : CB fi' fr ai' ar N u V im B ((t + 6) % 7) := by
  obtain ⟨al, ht, hu, g5, g6, hV, hn, hs⟩ := h
  have kk : ∀ i v, i < 9 → B i ≠ 0 → v 3 ≤ 12 → KW (B i) fi ai v → KW (B i) fi' ai' v := fun i v hi hb h3 k => KW_fr h3 (fun f r x y => hf f r (by have := al.2.1 i hi hb; omega)) (fun a x y => ha a (by have := al.2.1 i hi hb; omega)) k
  refine ⟨al, slt_lt _, by omega, h5, h6, fun j hj => ?_, hn, fun q hq => ?_⟩
  · obtain ⟨a, b, c⟩ := hV j (by omega)
    rw [show ((t + 6) % 7 + 7 - u + j) % 7 = (t + 7 - (u + 1) + j) % 7 by omega]
    exact ⟨a, kk _ _ (by have := slt_lt (t + 7 - (u + 1) + j); omega) a (iv_mm c) b, c⟩
  · obtain ⟨a, b, c, d, e⟩ := hs q hq
    exact ⟨a, b, kk 7 _ (by decide) a (iv_mm d) c, d, LGR_fr (fun x y z => ha x (by have := al.2.1 8 (by decide) b; omega)) e⟩
theorem FX_rf {fi ai : FI} : FX fi ai fi ai := ⟨fun _ _ _ => rfl, fun _ _ => rfl⟩
theorem ct_xu0 {fi : FI} {fr : FR} {ai : FI} {ar : FR} {N : Nat} {w lg : Nat → Nat} {E : Nat} {V : Nat → Nat → Nat} {im : Option ((Nat → Nat) × (Nat → Nat))} (cs : CLS fi fr ai ar N w lg E 0 V im) : CP mX10_undo 4 0 0 [.ref (rf 10 0)] fi fr ai ar N (aQ (some (.int (-1))) w lg E 0 V im fi ai) := by
  have cs0 := cs
  obtain ⟨cm, sm, hK, B, t, cb⟩ := cs
  change EV mX10_undo 4 0 0 0 [some (.ref (rf 10 0))] [] fi fr ai ar N _
  refine e_aload_n dX10_undo_0 rfl rfl ?_
  refine e_getR dX10_undo_1 fl_X10_58 rfl (cx_6 cm) ?_
  refine e_aload_n dX10_undo_4 rfl rfl ?_
  refine e_getR dX10_undo_5 fl_X10_18 rfl (cx_0 cm) ?_
  refine x_V1 (M' := mX0_takeBack) dX10_undo_8 ml_X10_203 ok_X0_takeBack (by decide) rfl im_X0_takeBack se_X0_takeBack (ct_tb0 cb.2.1 cb.2.2.2.1 cb.2.2.2.2.1) (Nat.le_of_ble_eq_true rfl) (by decide) (Nat.le_of_ble_eq_true rfl) ?_
  first | ((with_reducible refine mk_b ?_); refine b_if_ne (tgt := 16) dX10_undo_11 (by decide) (fun h11 => ?_) (fun h11 => ?_)) | ((with_reducible refine mk_ll ?_); refine m_if_ne (tgt := 16) dX10_undo_11 (by decide) (by omega) (by omega) (fun h11 => ?_) (fun h11 => ?_)) | ((with_reducible refine mk_lc ?_); refine l_if_ne (tgt := 16) dX10_undo_11 (by decide) (fun h11 => ?_) (fun h11 => ?_)) | ((with_reducible refine mk_n ?_); refine n_if_ne (tgt := 16) dX10_undo_11 (by decide) (by omega) (fun h11 => ?_) (fun h11 => ?_)) | refine e_if_ne (tgt := 16) dX10_undo_11 (by decide) (fun h11 => ?_) (fun h11 => ?_)
  · try first | contradiction | omega | (simp only [decide_eq_true_eq, decide_eq_false_iff_not] at h11; omega)
    all_goals
      omega
  · try first | contradiction | omega | (simp only [decide_eq_true_eq, decide_eq_false_iff_not] at h11; omega)
    all_goals
      refine e_iconst (v := -1) dX10_undo_14 rfl ?_
      refine e_ret (some _) rfl (r_int dX10_undo_15 rfl) ?_
      exact ⟨rfl, cs0, FX_rf⟩
theorem ct_xu1 {fi : FI} {fr : FR} {ai : FI} {ar : FR} {N : Nat} {w lg : Nat → Nat} {E : Nat} {V : Nat → Nat → Nat} {u : Nat} {im : Option ((Nat → Nat) × (Nat → Nat))} (cs : CLS fi fr ai ar N w lg E (u + 1) V im) : CP mX10_undo 4 0 0 [.ref (rf 10 0)] fi fr ai ar N (aQ (some (.int (nI u))) (undW w (V u)) lg E u V im fi ai) := by
  obtain ⟨cm, sm, hK, B, t, cb⟩ := cs
  have hV := cb.2.2.2.2.2.1 u (by omega)
  have hu := cb.2.2.1
  rw [show (t + 7 - (u + 1) + u) % 7 = (t + 6) % 7 by omega] at hV
  change EV mX10_undo 4 0 0 0 [some (.ref (rf 10 0))] [] fi fr ai ar N _
  refine e_aload_n dX10_undo_0 rfl rfl ?_
  refine e_getR dX10_undo_1 fl_X10_58 rfl (cx_6 cm) ?_
  refine e_aload_n dX10_undo_4 rfl rfl ?_
  refine e_getR dX10_undo_5 fl_X10_18 rfl (cx_0 cm) ?_
  refine mx_V1 (M' := mX0_takeBack) dX10_undo_8 ml_X10_203 ok_X0_takeBack (by decide) rfl im_X0_takeBack se_X0_takeBack (ct_tb1 cm cb.1 hV.2.2 cb.2.1 cb.2.2.1 cb.2.2.2.1 cb.2.2.2.2.1 hV.1 hV.2.1) (Nat.le_of_ble_eq_true rfl) (by decide) (Nat.le_of_ble_eq_true rfl) (fun fi2 ai2 hP => ?_)
  obtain ⟨p1, p2, p3, p4, p5⟩ := hP
  first | ((with_reducible refine mk_b ?_); refine b_if_ne (tgt := 16) dX10_undo_11 (by decide) (fun h11 => ?_) (fun h11 => ?_)) | ((with_reducible refine mk_ll ?_); refine m_if_ne (tgt := 16) dX10_undo_11 (by decide) (by omega) (by omega) (fun h11 => ?_) (fun h11 => ?_)) | ((with_reducible refine mk_lc ?_); refine l_if_ne (tgt := 16) dX10_undo_11 (by decide) (fun h11 => ?_) (fun h11 => ?_)) | ((with_reducible refine mk_n ?_); refine n_if_ne (tgt := 16) dX10_undo_11 (by decide) (by omega) (fun h11 => ?_) (fun h11 => ?_)) | refine e_if_ne (tgt := 16) dX10_undo_11 (by decide) (fun h11 => ?_) (fun h11 => ?_)
  · try first | contradiction | omega | (simp only [decide_eq_true_eq, decide_eq_false_iff_not] at h11; omega)
    all_goals
      refine e_aload_n dX10_undo_16 rfl rfl ?_
      refine e_getR dX10_undo_17 fl_X10_58 rfl (cx_6 cm) ?_
      refine e_getE dX10_undo_20 fl_X10_207 rfl p3 ?_
      refine e_ret (some _) rfl (r_int dX10_undo_23 rfl) ?_
      exact ⟨rfl, ⟨cm, sm, K_und hV.2.2 hK p1 p5, B, (t + 6) % 7, CB_dn cb p2 p3 (fun f r x => p4 f r (by omega) (fun e => by rw [e.2] at x; exact absurd x (by decide)) (fun e => by rw [e.2] at x; exact absurd x (by decide))) (fun a x => p5 a (by omega))⟩, ⟨fun f r x => p4 f r (by omega) (fun e => by rw [e.2, rf_div (by decide)] at x; omega) (fun e => by rw [e.2, rf_div (by decide)] at x; omega), fun a x => p5 a (by omega)⟩⟩
  · try first | contradiction | omega | (simp only [decide_eq_true_eq, decide_eq_false_iff_not] at h11; omega)
    all_goals
      omega
def CR (fi : FI) (fr : FR) (ai : FI) (ar : FR) (N u : Nat) (V : Nat → Nat → Nat) (B : Nat → Nat) (t : Nat) : Prop :=
  AL fr ar N B ∧ t < 7 ∧ u ≤ 6 ∧ fi (32 * 0 + 1) (rf 0 74) = nI t ∧ fi (32 * 0 + 2) (rf 0 74) = nI u ∧ (∀ j, j < u → B ((t + 7 - u + j) % 7) ≠ 0 ∧ KW (B ((t + 7 - u + j) % 7)) fi ai (V j) ∧ Inv (V j))
theorem CB_CR {fi : FI} {fr : FR} {ai : FI} {ar : FR} {N : Nat} {u t : Nat} {V : Nat → Nat → Nat} {im : Option ((Nat → Nat) × (Nat → Nat))} {B : Nat → Nat} (h : CB fi fr ai ar N u V im B t) : CR fi fr ai ar N u V B t := ⟨h.1, h.2.1, h.2.2.1, h.2.2.2.1, h.2.2.2.2.1, h.2.2.2.2.2.1⟩
theorem CR_fa {fi fi' : FI} {fr fr' : FR} {ai ai' : FI} {ar ar' : FR} {N N' u t s : Nat} {V : Nat → Nat → Nat} {B B' : Nat → Nat} (h : CR fi fr ai ar N u V B t) (al : AL fr' ar' N' B') (hs : 7 ≤ s) (hB : ∀ i, i < 7 → B' i = B i) (fa : FA B s fi ai fi' ai') : CR fi' fr' ai' ar' N' u V B' t := by
  obtain ⟨_, ht, hu, g5, g6, hV⟩ := h
  refine ⟨al, ht, hu, (fa.1 _ _ (by decide)).trans g5, (fa.1 _ _ (by decide)).trans g6, fun j hj => ?_⟩
  obtain ⟨a, b, c⟩ := hV j hj
  have hl := slt_lt (t + 7 - u + j)
  rw [hB _ hl]
  exact ⟨a, FA_KW2 (fr := fr) (ar := ar) (N := N) (iv_mm c) fa (by omega) (by omega) a b, c⟩
theorem CB_im {fi f2 f3 : FI} {fr : FR} {ai a2 a3 : FI} {ar : FR} {N u t : Nat} {V : Nat → Nat → Nat} {B w lg : Nat → Nat} (h : CR fi fr ai ar N u V B t) (iv : Inv w) (b7 : B 7 ≠ 0) (b8 : B 8 ≠ 0) (fa7 : FA B 7 fi ai f2 a2) (k7 : KW (B 7) f2 a2 w) (fa8 : FA B 8 f2 a2 f3 a3) (l8 : LGR (B 8) a3 w lg (w 0)) : CB f3 fr a3 ar N u V (some (w, lg)) B t := by
  obtain ⟨al, ht, hu, g5, g6, hV⟩ := CR_fa (CR_fa h h.1 (by decide) (fun _ _ => rfl) fa7) h.1 (by decide) (fun _ _ => rfl) fa8
  refine ⟨al, ht, hu, g5, g6, hV, (fun e => nomatch e), fun q hq => ?_⟩
  cases hq
  exact ⟨b7, b8, FA_KW2 (fr := fr) (ar := ar) (N := N) (iv_mm iv) fa8 (by decide) (by decide) b7 k7, iv, l8⟩
theorem al_iw {fr ar : FR} {N : Nat} {B : Nat → Nat} (al : AL fr ar N B) (h : B 7 ≠ 0) : fr (32 * 10 + 8) (rf 10 0) = some (rf 9 (B 7)) := by rw [al.2.2.2.2.2.2.1, if_neg h]
theorem al_il {fr ar : FR} {N : Nat} {B : Nat → Nat} (al : AL fr ar N B) (h : B 8 ≠ 0) : fr (32 * 10 + 9) (rf 10 0) = some (rf 3 (B 8)) := by rw [al.2.2.2.2.2.2.2, if_neg h]
theorem ct_ti36 {fi0 ai0 : FI} {fi : FI} {fr : FR} {ai : FI} {ar : FR} {N : Nat} {w lg B : Nat → Nat} {u t k z : Nat} {V : Nat → Nat → Nat} (cm : CM fr ar) (sm : SM fr) (hK : K fi ai w lg (w 0)) (iv : Inv w) (hE : w 0 < 2000) (cr : CR fi fr ai ar N u V B t) (b7 : B 7 ≠ 0) (b8 : B 8 ≠ 0) (fx : FX fi0 ai0 fi ai) : EV mX10_takeImage 3 k z 36 [some (.ref (rf 10 0))] [] fi fr ai ar N (aQ none w lg (w 0) u V (some (w, lg)) fi0 ai0) := by
  have al := cr.1
  have hB7 := al.2.1 7 (by decide) b7
  have hB8 := al.2.1 8 (by decide) b8
  refine e_aload_n dX10_takeImage_36 rfl rfl ?_
  refine e_getR dX10_takeImage_37 fl_X10_69 rfl (al_iw al b7) ?_
  refine e_aload_n dX10_takeImage_40 rfl rfl ?_
  refine e_getR dX10_takeImage_41 fl_X10_18 rfl (cx_0 cm) ?_
  refine my_V1 (M' := mX9_copyFrom) dX10_takeImage_44 ml_X10_213 ok_X9_copyFrom (by decide) rfl im_X9_copyFrom se_X9_copyFrom (ct_X9_copyFrom (al.2.2.2.2.1 7 (by omega) b7) cm.1 iv hK.1 (by omega)) (Nat.le_of_ble_eq_true rfl) (by decide) (Nat.le_of_ble_eq_true rfl) (fun f2 a2 hP => ?_)
  have fa7 := FA_cp al (t := 7) (by decide) b7 hP.2
  have hK : K f2 a2 w lg (w 0) := K_fr (iv_mm iv) (fun f r a b => fa7.1 f r (by omega)) (fun a x y => fa7.2.1 a (by omega)) hK
  refine e_aload_n dX10_takeImage_47 rfl rfl ?_
  refine e_getR dX10_takeImage_48 fl_X10_72 rfl (al_il al b8) ?_
  refine e_aload_n dX10_takeImage_51 rfl rfl ?_
  refine e_getR dX10_takeImage_52 fl_X10_22 rfl (cx_1 cm) ?_
  refine e_aload_n dX10_takeImage_55 rfl rfl ?_
  refine e_getR dX10_takeImage_56 fl_X10_18 rfl (cx_0 cm) ?_
  refine e_getR dX10_takeImage_59 fl_X10_216 rfl (cm_map cm) ?_
  refine e_getE dX10_takeImage_62 fl_X10_105 rfl (by first | exact k_e hK | exact k_ce hK (by first | omega | (simp (disch := omega) only [upN_n, upN_s]; omega)) | assumption) ?_
  refine my_V2 (M' := mX3_copyFrom) dX10_takeImage_65 ml_X10_220 ok_X3_copyFrom (by decide) rfl im_X3_copyFrom se_X3_copyFrom (ct_X3_copyFrom (al.2.2.2.2.2.1 b8) cm.2.1 hK.2.1 hE (by omega)) (Nat.le_of_ble_eq_true rfl) (by decide) (Nat.le_of_ble_eq_true rfl) (fun f3 a3 hP3 => ?_)
  have fa8 := FA_cp al (t := 8) (by decide) b8 hP3.2.2
  refine e_ret none rfl (r_void dX10_takeImage_68 rfl) ?_
  exact ⟨rfl, ⟨cm, sm, K_fr (iv_mm iv) (fun f r a b => fa8.1 f r (by omega)) (fun a x y => fa8.2.1 a (by omega)) hK, B, t, CB_im cr iv b7 b8 fa7 hP.1 fa8 hP3.2.1⟩, ⟨fun f r x => (fa8.1 f r (by omega)).trans ((fa7.1 f r (by omega)).trans (fx.1 f r x)), fun a x => (fa8.2.1 a (by omega)).trans ((fa7.2.1 a (by omega)).trans (fx.2 a x))⟩⟩
theorem ti_new {fi f1 : FI} {fr g1 : FR} {ai a1 : FI} {ar q1 : FR} {N : Nat} {w lg B : Nat → Nat} {u t k z : Nat} {V : Nat → Nat → Nat} (cm : CM fr ar) (sm : SM fr) (hK : K fi ai w lg (w 0)) (iv : Inv w) (hE : w 0 < 2000) (cr : CR fi fr ai ar N u V B t) (b7 : B 7 = 0) (b8 : B 8 = 0) (hW : WL g1 q1 N) (hB : FB N fi fr ai ar f1 g1 a1 q1) : EV mX10_takeImage 3 k z 36 [some (.ref (rf 10 0))] [] f1 (up2 (up2 (up2 (up2 (up2 (up2 (up2 (up2 g1 (32 * 10 + 8) (rf 10 0) (some (rf 9 N))) (32 * 3 + 0) (rf 3 (N + 57)) (some (rf 22 (N + 57 + 1)))) (32 * 3 + 1) (rf 3 (N + 57)) (some (rf 23 (N + 57 + 1 + 1)))) (32 * 3 + 2) (rf 3 (N + 57)) (some (rf 23 (N + 57 + 1 + 1 + 1)))) (32 * 3 + 3) (rf 3 (N + 57)) (some (rf 23 (N + 57 + 1 + 1 + 1 + 1)))) (32 * 3 + 4) (rf 3 (N + 57)) (some (rf 23 (N + 57 + 1 + 1 + 1 + 1 + 1)))) (32 * 3 + 5) (rf 3 (N + 57)) (some (rf 24 (N + 57 + 1 + 1 + 1 + 1 + 1 + 1)))) (32 * 10 + 9) (rf 10 0) (some (rf 3 (N + 57)))) a1 q1 (N + 57 + 1 + 1 + 1 + 1 + 1 + 1 + 1) (aQ none w lg (w 0) u V (some (w, lg)) fi ai) := by
  have al := cr.1
  have h89 := al.1
  have al1 : AL (up2 g1 (32 * 10 + 8) (rf 10 0) (some (rf 9 N))) q1 (N + szA 7) (upN B 7 N) := by
    refine AL_add (t := 7) al (by decide) b7 (fun f r x y z => by rw [up2_n _ _ y]; exact (hB.1 f r x).2) (fun a i x _ => (hB.2 a i x).2) (fun i hi => by rw [if_neg (by omega)]; exact (hB.2 _ i (by rw [rf_div (by decide)]; omega)).2) (by rw [if_pos rfl, up2_s]) (by rw [if_neg (by decide), up2_n _ _ (by decide)]; exact (hB.1 _ _ (by rw [rf_div (by decide)]; omega)).2) (fun _ => WL_fr (fun f r x y => up2_n _ _ (fun e => by rw [e.2, rf_div (by decide)] at x; omega)) (fun _ _ _ _ => rfl) hW) (fun e => by omega)
  rw [show szA 7 = 57 from rfl] at al1
  have lo : ∀ f r, r ≠ rf 3 (N + 57) → ¬ (f = 32 * 10 + 9 ∧ r = rf 10 0) → (up2 (up2 (up2 (up2 (up2 (up2 (up2 (up2 g1 (32 * 10 + 8) (rf 10 0) (some (rf 9 N))) (32 * 3 + 0) (rf 3 (N + 57)) (some (rf 22 (N + 57 + 1)))) (32 * 3 + 1) (rf 3 (N + 57)) (some (rf 23 (N + 57 + 1 + 1)))) (32 * 3 + 2) (rf 3 (N + 57)) (some (rf 23 (N + 57 + 1 + 1 + 1)))) (32 * 3 + 3) (rf 3 (N + 57)) (some (rf 23 (N + 57 + 1 + 1 + 1 + 1)))) (32 * 3 + 4) (rf 3 (N + 57)) (some (rf 23 (N + 57 + 1 + 1 + 1 + 1 + 1)))) (32 * 3 + 5) (rf 3 (N + 57)) (some (rf 24 (N + 57 + 1 + 1 + 1 + 1 + 1 + 1)))) (32 * 10 + 9) (rf 10 0) (some (rf 3 (N + 57)))) f r = (up2 g1 (32 * 10 + 8) (rf 10 0) (some (rf 9 N))) f r := fun f r x y => by rw [up2_n _ _ y, LL_oth x]
  have al2 : AL (up2 (up2 (up2 (up2 (up2 (up2 (up2 (up2 g1 (32 * 10 + 8) (rf 10 0) (some (rf 9 N))) (32 * 3 + 0) (rf 3 (N + 57)) (some (rf 22 (N + 57 + 1)))) (32 * 3 + 1) (rf 3 (N + 57)) (some (rf 23 (N + 57 + 1 + 1)))) (32 * 3 + 2) (rf 3 (N + 57)) (some (rf 23 (N + 57 + 1 + 1 + 1)))) (32 * 3 + 3) (rf 3 (N + 57)) (some (rf 23 (N + 57 + 1 + 1 + 1 + 1)))) (32 * 3 + 4) (rf 3 (N + 57)) (some (rf 23 (N + 57 + 1 + 1 + 1 + 1 + 1)))) (32 * 3 + 5) (rf 3 (N + 57)) (some (rf 24 (N + 57 + 1 + 1 + 1 + 1 + 1 + 1)))) (32 * 10 + 9) (rf 10 0) (some (rf 3 (N + 57)))) q1 (N + 57 + szA 8) (upN (upN B 7 N) 8 (N + 57)) := by
    refine AL_add (t := 8) al1 (by decide) (by rw [upN_n (by decide)]; exact b8) (fun f r x y z => lo f r (fun e => by rw [e, rf_div (by decide)] at x; omega) z) (fun _ _ _ _ => rfl) (fun i hi => by rw [if_neg (by omega)]) (by rw [if_neg (by decide)]; exact lo _ _ (rf_ne (by decide) (by decide) (by omega)) (by decide)) (by rw [if_pos rfl, up2_s]) (fun e => by omega) (fun _ => LL_fr (fun f => up2_n _ _ (fun e => absurd e.2 (rf_ne (by decide) (by decide) (by omega)))) LL_new)
  rw [show szA 8 = 7 from rfl] at al2
  have hN : ∀ f r, r / 64 < N → ¬ (f = 32 * 10 + 8 ∧ r = rf 10 0) → ¬ (f = 32 * 10 + 9 ∧ r = rf 10 0) → (up2 (up2 (up2 (up2 (up2 (up2 (up2 (up2 g1 (32 * 10 + 8) (rf 10 0) (some (rf 9 N))) (32 * 3 + 0) (rf 3 (N + 57)) (some (rf 22 (N + 57 + 1)))) (32 * 3 + 1) (rf 3 (N + 57)) (some (rf 23 (N + 57 + 1 + 1)))) (32 * 3 + 2) (rf 3 (N + 57)) (some (rf 23 (N + 57 + 1 + 1 + 1)))) (32 * 3 + 3) (rf 3 (N + 57)) (some (rf 23 (N + 57 + 1 + 1 + 1 + 1)))) (32 * 3 + 4) (rf 3 (N + 57)) (some (rf 23 (N + 57 + 1 + 1 + 1 + 1 + 1)))) (32 * 3 + 5) (rf 3 (N + 57)) (some (rf 24 (N + 57 + 1 + 1 + 1 + 1 + 1 + 1)))) (32 * 10 + 9) (rf 10 0) (some (rf 3 (N + 57)))) f r = fr f r := fun f r x y z => by rw [lo f r (fun e => by rw [e, rf_div (by decide)] at x; omega) z, up2_n _ _ y]; exact (hB.1 f r x).2
  have fa : FA B 7 fi ai f1 a1 := FA_new al hB
  exact ct_ti36 (CM_fr (fun f r a b c => hN f r (by omega) b c) (fun a i x _ => (hB.2 a i (by omega)).2) cm) (SM_fr (fun f => hN f _ (by rw [rf_div (by decide)]; omega) (fun e => absurd e.2 (by decide)) (fun e => absurd e.2 (by decide))) sm) (K_fr (iv_mm iv) (fun f r a b => fa.1 f r (by omega)) (fun a x y => fa.2.1 a (by omega)) hK) iv hE (CR_fa cr al2 (by decide) (fun i hi => by rw [upN_n (by omega), upN_n (by omega)]) fa) (by rw [upN_n (by decide), upN_s]; omega) (by rw [upN_s]; omega) ⟨fun f r x => fa.1 f r (by omega), fun a x => fa.2.1 a (by omega)⟩
theorem ct_X10_takeImage {fi : FI} {fr : FR} {ai : FI} {ar : FR} {N : Nat} {w lg : Nat → Nat} {u : Nat} {V : Nat → Nat → Nat} {im : Option ((Nat → Nat) × (Nat → Nat))} (cs : CLS fi fr ai ar N w lg (w 0) u V im) (iv : Inv w) (hE : w 0 < 2000) : CP mX10_takeImage 3 64 10702 [.ref (rf 10 0)] fi fr ai ar N (aQ none w lg (w 0) u V (some (w, lg)) fi ai) := by
  obtain ⟨cm, sm, hK, B, t, cb⟩ := cs
  have al := cb.1
  have h89 := al.1
  change EV mX10_takeImage 3 64 10702 0 [some (.ref (rf 10 0))] [] fi fr ai ar N _
  cases im with
  | none =>
    obtain ⟨b7, b8⟩ := cb.2.2.2.2.2.2.1 rfl
    have f8 : fr (32 * 10 + 8) (rf 10 0) = none := by rw [al.2.2.2.2.2.2.1, if_pos b7]
    have f9 : fr (32 * 10 + 9) (rf 10 0) = none := by rw [al.2.2.2.2.2.2.2, if_pos b8]
    refine e_zr (fun zn => ?_)
    have hz : ∀ f, fi f (rf 9 N) = 0 := fun f => ((zn _ (by rw [rf_div (by decide)]; exact Nat.le_refl _)).1 f).1
    refine e_aload_n dX10_takeImage_0 rfl rfl ?_
    refine e_getN dX10_takeImage_1 fl_X10_69 rfl f8 ?_
    refine e_ifnonnullN dX10_takeImage_4 ?_
    refine e_aload_n dX10_takeImage_7 rfl rfl ?_
    refine e_new 9 dX10_takeImage_8 (by decide) cl_X10_9 iz_9 nz_9 df_9 (k2 := 63) (z2 := 10694) ⟨by omega, by (show 8 + _ ≤ _; omega)⟩ ?_
    refine e_dup dX10_takeImage_11 rfl ?_
    refine e_callI (M' := mX9_init) (k' := 56) (z' := 8601) (k2 := 7) (z2 := 2093) (As := []) dX10_takeImage_12 ml_X10_11 ok_X9_init rfl rfl im_X9_init (ct_X9_init (b := N) hz) rfl rfl (Nat.le_of_ble_eq_true rfl) (by decide) ⟨by omega, by omega⟩ (Nat.le_of_ble_eq_true rfl) (fun r1 f1 g1 a1 q1 n1 hI => ?_)
    obtain ⟨i1, i2, hW, hKW, hB⟩ := hI
    rw [i1, i2]
    clear i1 i2
    have f92 : (up2 g1 (32 * 10 + 8) (rf 10 0) (some (rf 9 N))) (32 * 10 + 9) (rf 10 0) = none := by
      rw [up2_n _ _ (by decide), (hB.1 _ _ (by rw [rf_div (by decide)]; omega)).2]; exact f9
    dsimp only [Option.toList, List.nil_append]
    refine e_putR dX10_takeImage_15 fl_X10_69 rfl rfl ?_
    refine e_aload_n dX10_takeImage_18 rfl rfl ?_
    refine e_getN dX10_takeImage_19 fl_X10_72 rfl f92 ?_
    refine e_ifnonnullN dX10_takeImage_22 ?_
    refine e_aload_n dX10_takeImage_25 rfl rfl ?_
    refine e_new 3 dX10_takeImage_26 (by decide) cl_X10_12 iz_3 nz_3 df_3 (k2 := 6) (z2 := 2087) ⟨by omega, by (show 6 + _ ≤ _; omega)⟩ ?_
    refine e_dup dX10_takeImage_29 rfl ?_
    refine e_callIN (M' := mX3_init) (k' := 6) (z' := 2087) (k2 := 0) (z2 := 0) (As := []) dX10_takeImage_30 (List.mem_of_getElem? (i := 2) rfl) ok_X3_init rfl rfl im_X3_init (ct_X3_init) rfl rfl (Nat.le_of_ble_eq_true rfl) (by decide) ⟨by omega, by omega⟩ (Nat.le_of_ble_eq_true rfl) (fun r1 f1 g1 a1 q1 n1 hI => ?_)
    obtain ⟨i1, i2, i3, i4, i5, i6⟩ := hI
    rw [i1, i2, i3, i4, i5, i6]
    clear i1 i2 i3 i4 i5 i6 r1 f1 g1 a1 q1 n1
    dsimp only [Option.toList, List.nil_append]
    refine e_putR dX10_takeImage_33 fl_X10_72 rfl rfl ?_
    exact ti_new cm sm hK iv hE (CB_CR cb) b7 b8 hW hB
  | some q =>
    obtain ⟨b7, b8, _⟩ := cb.2.2.2.2.2.2.2 q rfl
    refine e_aload_n dX10_takeImage_0 rfl rfl ?_
    refine e_getR dX10_takeImage_1 fl_X10_69 rfl (al_iw al b7) ?_
    refine e_ifnonnull (tgt := 18) dX10_takeImage_4 (by decide) ?_
    refine e_aload_n dX10_takeImage_18 rfl rfl ?_
    refine e_getR dX10_takeImage_19 fl_X10_72 rfl (al_il al b8) ?_
    refine e_ifnonnull (tgt := 36) dX10_takeImage_22 (by decide) ?_
    exact ct_ti36 cm sm hK iv hE (CB_CR cb) b7 b8 FX_rf
theorem ct_img0 {fi : FI} {fr : FR} {ai : FI} {ar : FR} {N : Nat} {w lg : Nat → Nat} {u : Nat} {V : Nat → Nat → Nat} {im : Option ((Nat → Nat) × (Nat → Nat))} (cs : CLS fi fr ai ar N w lg (w 0) u V im) (iv : Inv w) (hE : w 0 < 2000) : CP mX10_image 4 64 10702 [.ref (rf 10 0), .int (bI true)] fi fr ai ar N (aQ (some (.int (bI true))) w lg (w 0) u V (some (w, lg)) fi ai) := by
  have cm := cs.1
  change EV mX10_image 4 64 10702 0 [some (.ref (rf 10 0)), some (.int (bI true))] [] fi fr ai ar N _
  refine e_iload_n dX10_image_0 rfl rfl ?_
  first | ((with_reducible refine mk_b ?_); refine b_if_eq (tgt := 10) dX10_image_1 (by decide) (fun h1 => ?_) (fun h1 => ?_)) | ((with_reducible refine mk_ll ?_); refine m_if_eq (tgt := 10) dX10_image_1 (by decide) (by omega) (by omega) (fun h1 => ?_) (fun h1 => ?_)) | ((with_reducible refine mk_lc ?_); refine l_if_eq (tgt := 10) dX10_image_1 (by decide) (fun h1 => ?_) (fun h1 => ?_)) | ((with_reducible refine mk_n ?_); refine n_if_eq (tgt := 10) dX10_image_1 (by decide) (by omega) (fun h1 => ?_) (fun h1 => ?_)) | refine e_if_eq (tgt := 10) dX10_image_1 (by decide) (fun h1 => ?_) (fun h1 => ?_)
  · try first | contradiction | omega | (simp only [decide_eq_true_eq, decide_eq_false_iff_not] at h1; omega)
    all_goals
      cases h1
  · try first | contradiction | omega | (simp only [decide_eq_true_eq, decide_eq_false_iff_not] at h1; omega)
    all_goals
      refine e_aload_n dX10_image_4 rfl rfl ?_
      refine e_callV (M' := mX10_takeImage) (k' := 64) (z' := 10702) (k2 := 0) (z2 := 0) (As := []) dX10_image_5 ml_X10_210 ok_X10_takeImage (by decide) rfl im_X10_takeImage se_X10_takeImage (ct_X10_takeImage cs iv hE) rfl rfl (Nat.le_of_ble_eq_true rfl) (by decide) ⟨by omega, by omega⟩ (Nat.le_of_ble_eq_true rfl) (fun r1 f1 g1 a1 q1 n1 hI => ?_)
      rw [hI.1]
      dsimp only [Option.toList, List.nil_append]
      refine e_iconst (v := nI 1) dX10_image_8 rfl ?_
      first | ((with_reducible refine mk_b ?_); refine e_ret (some _) rfl (r_bool dX10_image_9 rfl) ?_) | ((with_reducible refine mk_n1 ?_); refine e_ret (some _) rfl (r_b1 dX10_image_9 rfl) ?_) | ((with_reducible refine mk_n0 ?_); refine e_ret (some _) rfl (r_b0 dX10_image_9 rfl) ?_)
      exact ⟨rfl, hI.2⟩
theorem ct_img1 {fi : FI} {fr : FR} {ai : FI} {ar : FR} {N : Nat} {w lg : Nat → Nat} {E u : Nat} {V : Nat → Nat → Nat} (cs : CLS fi fr ai ar N w lg E u V none) : CP mX10_image 4 0 0 [.ref (rf 10 0), .int (bI false)] fi fr ai ar N (aQ (some (.int (bI false))) w lg E u V none fi ai) := by
  have cs0 := cs
  obtain ⟨cm, sm, hK, B, t, cb⟩ := cs
  have al := cb.1
  obtain ⟨b7, b8⟩ := cb.2.2.2.2.2.2.1 rfl
  have f8 : fr (32 * 10 + 8) (rf 10 0) = none := by rw [al.2.2.2.2.2.2.1, if_pos b7]
  change EV mX10_image 4 0 0 0 [some (.ref (rf 10 0)), some (.int (bI false))] [] fi fr ai ar N _
  refine e_iload_n dX10_image_0 rfl rfl ?_
  first | ((with_reducible refine mk_b ?_); refine b_if_eq (tgt := 10) dX10_image_1 (by decide) (fun h1 => ?_) (fun h1 => ?_)) | ((with_reducible refine mk_ll ?_); refine m_if_eq (tgt := 10) dX10_image_1 (by decide) (by omega) (by omega) (fun h1 => ?_) (fun h1 => ?_)) | ((with_reducible refine mk_lc ?_); refine l_if_eq (tgt := 10) dX10_image_1 (by decide) (fun h1 => ?_) (fun h1 => ?_)) | ((with_reducible refine mk_n ?_); refine n_if_eq (tgt := 10) dX10_image_1 (by decide) (by omega) (fun h1 => ?_) (fun h1 => ?_)) | refine e_if_eq (tgt := 10) dX10_image_1 (by decide) (fun h1 => ?_) (fun h1 => ?_)
  · try first | contradiction | omega | (simp only [decide_eq_true_eq, decide_eq_false_iff_not] at h1; omega)
    all_goals
      refine e_aload_n dX10_image_10 rfl rfl ?_
      refine e_getN dX10_image_11 fl_X10_69 rfl f8 ?_
      refine e_ifnullN (tgt := 24) dX10_image_14 (by decide) ?_
      refine e_iconst (v := nI 0) dX10_image_24 rfl ?_
      first | ((with_reducible refine mk_b ?_); refine e_ret (some _) rfl (r_bool dX10_image_25 rfl) ?_) | ((with_reducible refine mk_n1 ?_); refine e_ret (some _) rfl (r_b1 dX10_image_25 rfl) ?_) | ((with_reducible refine mk_n0 ?_); refine e_ret (some _) rfl (r_b0 dX10_image_25 rfl) ?_)
      exact ⟨rfl, cs0, FX_rf⟩
  · try first | contradiction | omega | (simp only [decide_eq_true_eq, decide_eq_false_iff_not] at h1; omega)
    all_goals
      cases h1
theorem im_fin {fi f2 : FI} {fr : FR} {ai a2 a3 : FI} {ar : FR} {N : Nat} {w lg B : Nat → Nat} {E u t : Nat} {V : Nat → Nat → Nat} {q : (Nat → Nat) × (Nat → Nat)} (cm : CM fr ar) (sm : SM fr) (hK : K fi ai w lg E) (cb : CB fi fr ai ar N u V (some q) B t) (b7 : B 7 ≠ 0) (b8 : B 8 ≠ 0) (iv : Inv q.1) (k72 : KW (B 7) f2 a2 q.1) (l82 : LGR (B 8) a2 q.1 q.2 (q.1 0)) (p1 : KW 1 f2 a2 q.1) (p2 : ∀ f r, (r / 64 < 1 ∨ 1 + 57 ≤ r / 64) → f2 f r = fi f r) (p3 : ∀ a, (a / 64 < 1 ∨ 1 + 57 ≤ a / 64) → a2 a = ai a) (s2 : LGR 58 a3 q.1 q.2 (q.1 0)) (s3 : ∀ a, (a / 64 < 58 ∨ 58 + 7 ≤ a / 64) → a3 a = a2 a) (hB7 : 89 ≤ B 7 ∧ B 7 + 57 ≤ N) (hB8 : 89 ≤ B 8 ∧ B 8 + 7 ≤ N) : aQ (some (.int (bI true))) q.1 q.2 (q.1 0) 0 V (some q) fi ai (some (.int (bI true))) (up2 f2 (32 * 0 + 2) (rf 0 74) (nI 0)) fr a3 ar N := by
  have uo : ∀ f r, r ≠ rf 0 74 → up2 f2 (32 * 0 + 2) (rf 0 74) (nI 0) f r = f2 f r := fun f r h => up2_n _ _ (fun e => h e.2)
  have un : ∀ f r, (r / 64 < 74 ∨ 75 ≤ r / 64) → up2 f2 (32 * 0 + 2) (rf 0 74) (nI 0) f r = f2 f r := fun f r h => uo f r (fun e => by rw [e, rf_div (by decide)] at h; omega)
  refine ⟨rfl, ⟨cm, sm, ⟨KW_fr (iv_mm iv) (fun f r x y => un f r (by omega)) (fun a x y => s3 a (by omega)) p1, s2, ?_⟩, B, t, cb.1, cb.2.1, by omega, ?_, up2_s _ _ _ _, fun j hj => absurd hj (by omega), (fun e => nomatch e), fun q' hq => ?_⟩, ⟨fun f r x => ?_, fun a x => ?_⟩⟩
  · rw [s3 _ (by decide), p3 _ (by decide)]; exact hK.2.2
  · rw [up2_n _ _ (by decide), p2 _ _ (by decide)]; exact cb.2.2.2.1
  · cases hq
    exact ⟨b7, b8, KW_fr (iv_mm iv) (fun f r x y => un f r (by omega)) (fun a x y => s3 a (by omega)) k72, iv, LGR_fr (fun a x y => s3 a (by omega)) l82⟩
  · rw [un f r (by omega)]; exact p2 f r (by omega)
  · rw [s3 a (by omega)]; exact p3 a (by omega)
theorem ct_img2 {fi : FI} {fr : FR} {ai : FI} {ar : FR} {N : Nat} {w lg : Nat → Nat} {E u : Nat} {V : Nat → Nat → Nat} {q : (Nat → Nat) × (Nat → Nat)} (cs : CLS fi fr ai ar N w lg E u V (some q)) (hE : q.1 0 < 2000) : CP mX10_image 4 0 0 [.ref (rf 10 0), .int (bI false)] fi fr ai ar N (aQ (some (.int (bI true))) q.1 q.2 (q.1 0) 0 V (some q) fi ai) := by
  obtain ⟨cm, sm, hK, B, t, cb⟩ := cs
  have al := cb.1
  obtain ⟨b7, b8, k7, iv, l8⟩ := cb.2.2.2.2.2.2.2 q rfl
  have hB7 := al.2.1 7 (by decide) b7
  have hB8 := al.2.1 8 (by decide) b8
  rw [show szA 7 = 57 from rfl] at hB7
  rw [show szA 8 = 7 from rfl] at hB8
  have d78 := al.2.2.1 7 8 (by decide) (by decide) (by decide) b7 b8
  change EV mX10_image 4 0 0 0 [some (.ref (rf 10 0)), some (.int (bI false))] [] fi fr ai ar N _
  refine e_iload_n dX10_image_0 rfl rfl ?_
  first | ((with_reducible refine mk_b ?_); refine b_if_eq (tgt := 10) dX10_image_1 (by decide) (fun h1 => ?_) (fun h1 => ?_)) | ((with_reducible refine mk_ll ?_); refine m_if_eq (tgt := 10) dX10_image_1 (by decide) (by omega) (by omega) (fun h1 => ?_) (fun h1 => ?_)) | ((with_reducible refine mk_lc ?_); refine l_if_eq (tgt := 10) dX10_image_1 (by decide) (fun h1 => ?_) (fun h1 => ?_)) | ((with_reducible refine mk_n ?_); refine n_if_eq (tgt := 10) dX10_image_1 (by decide) (by omega) (fun h1 => ?_) (fun h1 => ?_)) | refine e_if_eq (tgt := 10) dX10_image_1 (by decide) (fun h1 => ?_) (fun h1 => ?_)
  · try first | contradiction | omega | (simp only [decide_eq_true_eq, decide_eq_false_iff_not] at h1; omega)
    all_goals
      refine e_aload_n dX10_image_10 rfl rfl ?_
      refine e_getR dX10_image_11 fl_X10_69 rfl (al_iw al b7) ?_
      refine e_ifnull dX10_image_14 ?_
      refine e_aload_n dX10_image_17 rfl rfl ?_
      refine e_getR dX10_image_18 fl_X10_72 rfl (al_il al b8) ?_
      refine e_ifnonnull (tgt := 26) dX10_image_21 (by decide) ?_
      refine e_aload_n dX10_image_26 rfl rfl ?_
      refine e_getR dX10_image_27 fl_X10_18 rfl (cx_0 cm) ?_
      refine e_aload_n dX10_image_30 rfl rfl ?_
      refine e_getR dX10_image_31 fl_X10_69 rfl (al_iw al b7) ?_
      refine my_V1 (M' := mX9_copyFrom) dX10_image_34 ml_X10_213 ok_X9_copyFrom (by decide) rfl im_X9_copyFrom se_X9_copyFrom (ct_X9_copyFrom cm.1 (al.2.2.2.2.1 7 (by omega) b7) iv k7 (by omega)) (Nat.le_of_ble_eq_true rfl) (by decide) (Nat.le_of_ble_eq_true rfl) (fun f2 a2 hP => ?_)
      obtain ⟨p1, p2, p3⟩ := hP
      have k72 : KW (B 7) f2 a2 q.1 := KW_fr (iv_mm iv) (fun f r x y => p2 f r (by omega)) (fun a x y => p3 a (by omega)) k7
      have l82 : LGR (B 8) a2 q.1 q.2 (q.1 0) := LGR_fr (fun a x y => p3 a (by omega)) l8
      refine e_aload_n dX10_image_37 rfl rfl ?_
      refine e_getR dX10_image_38 fl_X10_22 rfl (cx_1 cm) ?_
      refine e_aload_n dX10_image_41 rfl rfl ?_
      refine e_getR dX10_image_42 fl_X10_72 rfl (al_il al b8) ?_
      refine e_aload_n dX10_image_45 rfl rfl ?_
      refine e_getR dX10_image_46 fl_X10_69 rfl (al_iw al b7) ?_
      refine e_getR dX10_image_49 fl_X10_216 rfl (al.2.2.2.2.1 7 (by decide) b7).2.2.1 ?_
      refine e_getE dX10_image_52 fl_X10_105 rfl k72.2.2.1.2.1 ?_
      refine my_V2 (M' := mX3_copyFrom) dX10_image_55 ml_X10_220 ok_X3_copyFrom (by decide) rfl im_X3_copyFrom se_X3_copyFrom (ct_X3_copyFrom cm.2.1 (al.2.2.2.2.2.1 b8) l82 hE (by omega)) (Nat.le_of_ble_eq_true rfl) (by decide) (Nat.le_of_ble_eq_true rfl) (fun f3 a3 hP3 => ?_)
      obtain ⟨s1, s2, s3⟩ := hP3
      subst s1
      refine e_aload_n dX10_image_58 rfl rfl ?_
      refine e_getR dX10_image_59 fl_X10_58 rfl (cx_6 cm) ?_
      refine y_V0 (M' := mX0_forget) dX10_image_62 ml_X10_83 ok_X0_forget (by decide) rfl im_X0_forget se_X0_forget (ct_X0_forget) (Nat.le_of_ble_eq_true rfl) (by decide) (Nat.le_of_ble_eq_true rfl) ?_
      refine e_iconst (v := nI 1) dX10_image_65 rfl ?_
      first | ((with_reducible refine mk_b ?_); refine e_ret (some _) rfl (r_bool dX10_image_66 rfl) ?_) | ((with_reducible refine mk_n1 ?_); refine e_ret (some _) rfl (r_b1 dX10_image_66 rfl) ?_) | ((with_reducible refine mk_n0 ?_); refine e_ret (some _) rfl (r_b0 dX10_image_66 rfl) ?_)
      exact im_fin cm sm hK cb b7 b8 iv k72 l82 p1 p2 p3 s2 s3.2 hB7 hB8
  · try first | contradiction | omega | (simp only [decide_eq_true_eq, decide_eq_false_iff_not] at h1; omega)
    all_goals
      cases h1
