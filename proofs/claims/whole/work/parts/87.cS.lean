def szA (i : Nat) : Nat := if i = 8 then 7 else 57
/-- the worlds that are kept: seven rows of acts (0 .. 6), the image's world (7) and ledger (8); B i is the first cell, 0 is none -/
def AL (fr ar : FR) (N : Nat) (B : Nat → Nat) : Prop :=
  89 ≤ N ∧ (∀ i, i < 9 → B i ≠ 0 → 89 ≤ B i ∧ B i + szA i ≤ N) ∧ (∀ i j, i < 9 → j < 9 → i ≠ j → B i ≠ 0 → B j ≠ 0 → B i + szA i ≤ B j ∨ B j + szA j ≤ B i) ∧
  (∀ i, i < 7 → ar (rf 28 75) i = if B i = 0 then none else some (rf 9 (B i))) ∧ (∀ i, i < 8 → B i ≠ 0 → WL fr ar (B i)) ∧ (B 8 ≠ 0 → LL fr (B 8)) ∧
  fr (32 * 10 + 8) (rf 10 0) = (if B 7 = 0 then none else some (rf 9 (B 7))) ∧ fr (32 * 10 + 9) (rf 10 0) = (if B 8 = 0 then none else some (rf 3 (B 8)))
theorem LL_fr {fr fr' : FR} {b : Nat} (hf : ∀ f, fr' f (rf 3 b) = fr f (rf 3 b)) (h : LL fr b) : LL fr' b := by unfold LL; rw [hf, hf, hf, hf, hf, hf]; exact h
theorem CM_fr {fr fr' ar ar' : FR} (hf : ∀ f r, r / 64 < 89 → ¬ (f = 32 * 10 + 8 ∧ r = rf 10 0) → ¬ (f = 32 * 10 + 9 ∧ r = rf 10 0) → fr' f r = fr f r) (ha : ∀ a i, a / 64 < 89 → a ≠ rf 28 75 → ar' a i = ar a i) (h : CM fr ar) : CM fr' ar' := by
  obtain ⟨h1, h2, h3, h4, h5, h6, h7, h8, h9⟩ := h
  have q : ∀ f r, r / 64 < 89 → 1 ≤ r / 64 → fr' f r = fr f r := fun f r a b => hf f r a (fun e => by rw [e.2] at b; exact absurd b (by decide)) (fun e => by rw [e.2] at b; exact absurd b (by decide))
  refine ⟨WL_fr (fun f r a b => q f r (by omega) a) (fun a i x y => ha a i (by omega) (fun e => by rw [e] at y; exact absurd y (by decide))) h1, LL_fr (fun f => q _ _ (by decide) (by decide)) h2, ?_, ?_, ?_, ?_, ?_, ?_, ?_⟩
  · rw [q _ _ (by decide) (by decide), q _ _ (by decide) (by decide), q _ _ (by decide) (by decide), q _ _ (by decide) (by decide), q _ _ (by decide) (by decide)]; exact h3
  · rw [q _ _ (by decide) (by decide), q _ _ (by decide) (by decide)]; exact h4
  · rw [q _ _ (by decide) (by decide), q _ _ (by decide) (by decide), q _ _ (by decide) (by decide)]; exact h5
  · rw [q _ _ (by decide) (by decide), q _ _ (by decide) (by decide)]; exact h6
  · rw [q _ _ (by decide) (by decide)]; exact h7
  · rw [q _ _ (by decide) (by decide), q _ _ (by decide) (by decide), q _ _ (by decide) (by decide)]; exact h8
  · rw [hf _ _ (by decide) (by decide) (by decide), hf _ _ (by decide) (by decide) (by decide), hf _ _ (by decide) (by decide) (by decide), hf _ _ (by decide) (by decide) (by decide), hf _ _ (by decide) (by decide) (by decide), hf _ _ (by decide) (by decide) (by decide), hf _ _ (by decide) (by decide) (by decide), hf _ _ (by decide) (by decide) (by decide)]; exact h9
theorem SM_fr {fr fr' : FR} (hf : ∀ f, fr' f (rf 11 80) = fr f (rf 11 80)) (h : SM fr) : SM fr' := by unfold SM; rw [hf, hf, hf, hf, hf, hf, hf, hf]; exact h
theorem szA_8 {i : Nat} (h : i < 8) : szA i = 57 := if_neg (by omega)
theorem upN_0 {B : Nat → Nat} {t n i : Nat} (h : i ≠ t) : upN B t n i = B i := upN_n h
theorem AL_add {fr ar fr2 ar2 : FR} {N t : Nat} {B : Nat → Nat} (al : AL fr ar N B) (ht : t < 9) (h0 : B t = 0) (hf : ∀ f r, r / 64 < N → ¬ (f = 32 * 10 + 8 ∧ r = rf 10 0) → ¬ (f = 32 * 10 + 9 ∧ r = rf 10 0) → fr2 f r = fr f r) (ha : ∀ a i, a / 64 < N → a ≠ rf 28 75 → ar2 a i = ar a i)
    (hr : ∀ i, i < 7 → ar2 (rf 28 75) i = if i = t then some (rf 9 N) else ar (rf 28 75) i) (h7 : fr2 (32 * 10 + 8) (rf 10 0) = if t = 7 then some (rf 9 N) else fr (32 * 10 + 8) (rf 10 0)) (h8 : fr2 (32 * 10 + 9) (rf 10 0) = if t = 8 then some (rf 3 N) else fr (32 * 10 + 9) (rf 10 0))
    (hW : t < 8 → WL fr2 ar2 N) (hL : t = 8 → LL fr2 N) : AL fr2 ar2 (N + szA t) (upN B t N) := by
  obtain ⟨a1, a2, a3, a4, a5, a6, a7, a8⟩ := al
  have hN : N ≠ 0 := by omega
  have s7 : ∀ i, 7 ≤ szA i := fun i => by unfold szA; split <;> omega
  refine ⟨by omega, fun i hi hb => ?_, fun i j hi hj hij hb hc => ?_, fun i hi => ?_, fun i hi hb => ?_, fun hb => ?_, ?_, ?_⟩
  · by_cases e : i = t
    · rw [e, upN_s]; omega
    · rw [upN_n e] at hb; rw [upN_n e]; have := a2 i hi hb; omega
  · by_cases e : i = t
    · have e2 : j ≠ t := fun q => hij (e.trans q.symm)
      rw [upN_n e2] at hc
      rw [e, upN_s, upN_n e2]; have := a2 j hj hc; omega
    · rw [upN_n e] at hb
      by_cases e2 : j = t
      · rw [e2, upN_s, upN_n e]; have := a2 i hi hb; omega
      · rw [upN_n e2] at hc; rw [upN_n e, upN_n e2]; exact a3 i j hi hj hij hb hc
  · rw [hr i hi]
    by_cases e : i = t
    · rw [if_pos e, e, upN_s, if_neg hN]
    · rw [if_neg e, upN_n e]; exact a4 i hi
  · by_cases e : i = t
    · rw [e, upN_s]; exact hW (by omega)
    · rw [upN_n e] at hb
      rw [upN_n e]
      have hB := a2 i (by omega) hb
      rw [szA_8 hi] at hB
      exact WL_fr (fun f r x y => hf f r (by omega) (fun q => by rw [q.2, rf_div (by decide)] at x; omega) (fun q => by rw [q.2, rf_div (by decide)] at x; omega)) (fun a i x y => ha a i (by omega) (fun q => by rw [q, rf_div (by decide)] at x; omega)) (a5 i hi hb)
  · by_cases e : 8 = t
    · rw [e, upN_s]; exact hL e.symm
    · rw [upN_n e] at hb
      rw [upN_n e]
      have hB := a2 8 (by omega) hb
      refine LL_fr (fun f => hf _ _ (by rw [rf_div (by decide)]; have := s7 8; omega) (fun q => ?_) (fun q => ?_)) (a6 hb)
      · have q2 := q.2; have : rf 3 (B 8) / 64 = rf 10 0 / 64 := by rw [q2]
        rw [rf_div (by decide), rf_div (by decide)] at this; omega
      · have q2 := q.2; have : rf 3 (B 8) / 64 = rf 10 0 / 64 := by rw [q2]
        rw [rf_div (by decide), rf_div (by decide)] at this; omega
  · rw [h7]
    by_cases e : t = 7
    · rw [if_pos e, e, upN_s, if_neg hN]
    · rw [if_neg e, upN_n (by omega)]; exact a7
  · rw [h8]
    by_cases e : t = 8
    · rw [if_pos e, e, upN_s, if_neg hN]
    · rw [if_neg e, upN_n (by omega)]; exact a8
/-- nothing below cell 89 and in no kept world but the one at t changed -/
def FA (B : Nat → Nat) (t : Nat) (fi ai fi' ai' : FI) : Prop := (∀ f r, r / 64 < 89 → fi' f r = fi f r) ∧ (∀ a, a / 64 < 89 → ai' a = ai a) ∧ ∀ i, i < 9 → i ≠ t → B i ≠ 0 → (∀ f r, B i ≤ r / 64 → r / 64 < B i + szA i → fi' f r = fi f r) ∧ ∀ a, B i ≤ a / 64 → a / 64 < B i + szA i → ai' a = ai a
theorem FA_new {fr ar fr' ar' : FR} {N t : Nat} {B : Nat → Nat} {fi ai fi' ai' : FI} (al : AL fr ar N B) (h : FB N fi fr ai ar fi' fr' ai' ar') : FA B t fi ai fi' ai' :=
  ⟨fun f r hr => (h.1 f r (by have := al.1; omega)).1, fun a ha => funext fun i => (h.2 a i (by have := al.1; omega)).1, fun i hi _ hb => ⟨fun f r x y => (h.1 f r (by have := al.2.1 i hi hb; omega)).1, fun a x y => funext fun j => (h.2 a j (by have := al.2.1 i hi hb; omega)).1⟩⟩
theorem FA_cp {fr ar : FR} {N t : Nat} {B : Nat → Nat} {fi ai fi' ai' : FI} (al : AL fr ar N B) (ht : t < 9) (hb : B t ≠ 0) (g : FRg (B t) (B t + szA t) fi ai fi' ai') : FA B t fi ai fi' ai' :=
  ⟨fun f r hr => g.1 f r (by have := al.2.1 t ht hb; omega), fun a hr => g.2 a (by have := al.2.1 t ht hb; omega), fun i hi hn hc => ⟨fun f r x y => g.1 f r (by have := al.2.2.1 i t hi ht hn hc hb; omega), fun a x y => g.2 a (by have := al.2.2.1 i t hi ht hn hc hb; omega)⟩⟩
theorem FA_tr {B B' : Nat → Nat} {t : Nat} {a b c d e f : FI} (hB : ∀ i, i ≠ t → B' i = B i) (h : FA B t a b c d) (g : FA B' t c d e f) : FA B t a b e f := by
  refine ⟨fun q r hr => (g.1 q r hr).trans (h.1 q r hr), fun q hr => (g.2.1 q hr).trans (h.2.1 q hr), fun i hi hn hb => ?_⟩
  have g2 := g.2.2 i hi hn (by rw [hB i hn]; exact hb)
  rw [hB i hn] at g2
  have h2 := h.2.2 i hi hn hb
  exact ⟨fun q r x y => (g2.1 q r x y).trans (h2.1 q r x y), fun q x y => (g2.2 q x y).trans (h2.2 q x y)⟩
theorem FA_rf {B : Nat → Nat} {t : Nat} {fi ai : FI} : FA B t fi ai fi ai := ⟨fun _ _ _ => rfl, fun _ _ => rfl, fun _ _ _ _ => ⟨fun _ _ _ _ => rfl, fun _ _ _ => rfl⟩⟩
theorem FA_KW {B : Nat → Nat} {t : Nat} {fi ai fi' ai' : FI} {w : Nat → Nat} (h3 : w 3 ≤ 12) (h : FA B t fi ai fi' ai') (k : KW 1 fi ai w) : KW 1 fi' ai' w := KW_fr h3 (fun f r a b => h.1 f r (by omega)) (fun a x y => h.2.1 a (by omega)) k
def svQ (w : Nat → Nat) (t : Nat) (B : Nat → Nat) (fi ai : FI) : EQ := fun r fi' fr' ai' ar' N' => r = none ∧ ∃ B' : Nat → Nat, CM fr' ar' ∧ SM fr' ∧ AL fr' ar' N' B' ∧ (∀ i, i ≠ t → B' i = B i) ∧ B' t ≠ 0 ∧ KW (B' t) fi' ai' w ∧ FA B t fi ai fi' ai'
theorem al_row {fr ar : FR} {N i : Nat} {B : Nat → Nat} (al : AL fr ar N B) (hi : i < 7) (h : B i ≠ 0) : ar (rf 28 75) i = some (rf 9 (B i)) := by rw [al.2.2.2.1 i hi, if_neg h]
theorem al_no {fr ar : FR} {N i : Nat} {B : Nat → Nat} (al : AL fr ar N B) (hi : i < 7) (h : B i = 0) : ar (rf 28 75) i = none := by rw [al.2.2.2.1 i hi, if_pos h]
theorem ct_sv28 {fi : FI} {fr : FR} {ai : FI} {ar : FR} {N t k z : Nat} {w B : Nat → Nat} (cm : CM fr ar) (sm : SM fr) (al : AL fr ar N B) (iv : Inv w) (hK : KW 1 fi ai w) (ht : t < 7) (hb : B t ≠ 0) (h5 : fi (32 * 0 + 1) (rf 0 74) = nI t) : EV mX0_save 3 k z 28 [some (.ref (rf 0 74)), some (.ref (rf 9 1))] [] fi fr ai ar N (svQ w t B fi ai) := by
  have hB := al.2.1 t (by omega) hb
  rw [szA_8 (by omega)] at hB
  refine e_aload_n dX0_save_28 rfl rfl ?_
  refine e_getR dX0_save_29 fl_X0_11 rfl cm.2.2.2.2.2.2.1 ?_
  refine e_aload_n dX0_save_32 rfl rfl ?_
  refine e_getE dX0_save_33 fl_X0_17 rfl h5 ?_
  refine e_aald _ dX0_save_36 ⟨by decide, by decide⟩ rfl rfl (by simp only [lenK]; omega) (al_row al ht hb) ?_
  refine e_aload_n dX0_save_37 rfl rfl ?_
  refine my_V1 (M' := mX9_copyFrom) dX0_save_38 ml_X0_22 ok_X9_copyFrom (by decide) rfl im_X9_copyFrom se_X9_copyFrom (ct_X9_copyFrom (al.2.2.2.2.1 t (by omega) hb) cm.1 iv hK (by omega)) (Nat.le_of_ble_eq_true rfl) (by decide) (Nat.le_of_ble_eq_true rfl) (fun fi2 ai2 hP => ?_)
  refine e_ret none rfl (r_void dX0_save_41 rfl) ?_
  exact ⟨rfl, B, cm, sm, al, fun _ _ => rfl, hb, hP.1, FA_cp al (by omega) hb (by rw [szA_8 (by omega)]; exact hP.2)⟩
theorem sv_new {fi fi1 : FI} {fr fr1 : FR} {ai ai1 : FI} {ar ar1 : FR} {N t k z : Nat} {w B : Nat → Nat} (cm : CM fr ar) (sm : SM fr) (al : AL fr ar N B) (iv : Inv w) (hK : KW 1 fi ai w) (ht : t < 7) (hb : B t = 0) (h5 : fi (32 * 0 + 1) (rf 0 74) = nI t) (hW : WL fr1 ar1 N) (hB : FB N fi fr ai ar fi1 fr1 ai1 ar1) : EV mX0_save 3 k z 28 [some (.ref (rf 0 74)), some (.ref (rf 9 1))] [] fi1 fr1 ai1 (up2 ar1 (rf 28 75) t (some (rf 9 N))) (N + 57) (svQ w t B fi ai) := by
  have h89 := al.1
  have hf : ∀ f r, r / 64 < N → ¬ (f = 32 * 10 + 8 ∧ r = rf 10 0) → ¬ (f = 32 * 10 + 9 ∧ r = rf 10 0) → fr1 f r = fr f r := fun f r a _ _ => (hB.1 f r a).2
  have ha : ∀ a i, a / 64 < N → a ≠ rf 28 75 → up2 ar1 (rf 28 75) t (some (rf 9 N)) a i = ar a i := fun a i x y => by rw [up2_o _ _ y]; exact (hB.2 a i x).2
  have hW2 : WL fr1 (up2 ar1 (rf 28 75) t (some (rf 9 N))) N := WL_fr (fun _ _ _ _ => rfl) (fun a i x y => by rw [up2_o _ _ (fun e => by rw [e, rf_div (by decide)] at x; omega)]) hW
  have al2 := AL_add (t := t) al (by omega) hb hf ha (fun i hi => by
    by_cases e : i = t
    · rw [if_pos e, e, up2_s]
    · rw [if_neg e, up2_n _ _ (fun q => e q.2)]; exact (hB.2 _ i (by rw [rf_div (by decide)]; omega)).2) (by rw [if_neg (by omega)]; exact (hB.1 _ _ (by rw [rf_div (by decide)]; omega)).2) (by rw [if_neg (by omega)]; exact (hB.1 _ _ (by rw [rf_div (by decide)]; omega)).2) (fun _ => hW2) (fun e => by omega)
  rw [szA_8 (by omega)] at al2
  have fa : FA B t fi ai fi1 ai1 := FA_new al hB
  have k := ct_sv28 (k := k) (z := z) (CM_fr (fun f r a b c => hf f r (by omega) b c) (fun a i x y => ha a i (by omega) y) cm) (SM_fr (fun f => (hB.1 f _ (by rw [rf_div (by decide)]; omega)).2) sm) al2 iv (FA_KW (iv_mm iv) fa hK) ht (by rw [upN_s]; omega) (by rw [fa.1 _ _ (by decide)]; exact h5)
  refine EV_mono k ?_
  rintro r a b c e n ⟨h1, B', p1, p2, p3, p4, p5, p6, p7⟩
  exact ⟨h1, B', p1, p2, p3, fun i hi => by rw [p4 i hi, upN_n hi], p5, p6, FA_tr (fun i hi => upN_n hi) fa p7⟩
theorem ct_X0_save {fi : FI} {fr : FR} {ai : FI} {ar : FR} {N t : Nat} {w B : Nat → Nat} (cm : CM fr ar) (sm : SM fr) (al : AL fr ar N B) (iv : Inv w) (hK : KW 1 fi ai w) (ht : t < 7) (h5 : fi (32 * 0 + 1) (rf 0 74) = nI t) : CP mX0_save 3 57 8609 [.ref (rf 0 74), .ref (rf 9 1)] fi fr ai ar N (svQ w t B fi ai) := by
  change EV mX0_save 3 57 8609 0 [some (.ref (rf 0 74)), some (.ref (rf 9 1))] [] fi fr ai ar N (svQ w t B fi ai)
  by_cases hb : B t = 0
  · refine e_zr (fun zn => ?_)
    have hz : ∀ f, fi f (rf 9 N) = 0 := fun f => ((zn _ (by rw [rf_div (by decide)]; exact Nat.le_refl _)).1 f).1
    refine e_aload_n dX0_save_0 rfl rfl ?_
    refine e_getR dX0_save_1 fl_X0_11 rfl cm.2.2.2.2.2.2.1 ?_
    refine e_aload_n dX0_save_4 rfl rfl ?_
    refine e_getE dX0_save_5 fl_X0_17 rfl h5 ?_
    refine e_aaldN _ dX0_save_8 ⟨by decide, by decide⟩ rfl rfl (by simp only [lenK]; omega) (al_no al ht hb) ?_
    refine e_ifnonnullN dX0_save_9 ?_
    refine e_aload_n dX0_save_12 rfl rfl ?_
    refine e_getR dX0_save_13 fl_X0_11 rfl cm.2.2.2.2.2.2.1 ?_
    refine e_aload_n dX0_save_16 rfl rfl ?_
    refine e_getE dX0_save_17 fl_X0_17 rfl h5 ?_
    refine e_new 9 dX0_save_20 (by decide) cl_X0_9 iz_9 nz_9 df_9 (k2 := 56) (z2 := 8601) ⟨by omega, by (show 8 + _ ≤ _; omega)⟩ ?_
    refine e_dup dX0_save_23 rfl ?_
    refine e_callI (M' := mX9_init) (k' := 56) (z' := 8601) (k2 := 0) (z2 := 0) (As := []) dX0_save_24 ml_X0_21 ok_X9_init rfl rfl im_X9_init (ct_X9_init (b := N) hz) rfl rfl (Nat.le_of_ble_eq_true rfl) (by decide) ⟨by omega, by omega⟩ (Nat.le_of_ble_eq_true rfl) (fun r1 f1 g1 a1 q1 n1 hI => ?_)
    obtain ⟨i1, i2, hW, hKW, hBB⟩ := hI
    rw [i1, i2]
    clear i1 i2
    dsimp only [Option.toList, List.nil_append]
    refine e_aast _ dX0_save_27 ⟨by decide, by decide⟩ (by decide) rfl rfl (by simp only [lenK]; omega) ?_
    exact sv_new cm sm al iv hK ht hb h5 hW hBB
  · skip
    refine e_aload_n dX0_save_0 rfl rfl ?_
    refine e_getR dX0_save_1 fl_X0_11 rfl cm.2.2.2.2.2.2.1 ?_
    refine e_aload_n dX0_save_4 rfl rfl ?_
    refine e_getE dX0_save_5 fl_X0_17 rfl h5 ?_
    refine e_aald _ dX0_save_8 ⟨by decide, by decide⟩ rfl rfl (by simp only [lenK]; omega) (al_row al ht hb) ?_
    refine e_ifnonnull (tgt := 28) dX0_save_9 (by decide) ?_
    exact ct_sv28 cm sm al iv hK ht hb h5
theorem ct_X0_keep {fi : FI} {fr : FR} {ai : FI} {ar : FR} {N t u : Nat} (ht : t < 7) (hu : u ≤ 6) (h5 : fi (32 * 0 + 1) (rf 0 74) = nI t) (h6 : fi (32 * 0 + 2) (rf 0 74) = nI u) : CP mX0_keep 1 0 0 [.ref (rf 0 74)] fi fr ai ar N (xQ none (up2 (up2 fi (32 * 0 + 1) (rf 0 74) (nI ((t + 1) % 7))) (32 * 0 + 2) (rf 0 74) (nI (if 6 < u + 1 then 6 else u + 1))) fr ai ar N) := by
  change EV mX0_keep 1 0 0 0 [some (.ref (rf 0 74))] [] fi fr ai ar N _
  have h62 : up2 fi (32 * 0 + 1) (rf 0 74) (nI ((t + 1) % 7)) (32 * 0 + 2) (rf 0 74) = nI u := (up2_n _ _ (by decide)).trans h6
  refine e_aload_n dX0_keep_0 rfl rfl ?_
  refine e_aload_n dX0_keep_1 rfl rfl ?_
  refine e_getE dX0_keep_2 fl_X0_17 rfl h5 ?_
  refine e_iconst (v := nI 1) dX0_keep_5 rfl ?_
  first | ((with_reducible refine mk_nn ?_); refine n_iadd dX0_keep_6 ?_) | refine e_iadd dX0_keep_6 ?_
  refine e_bipush (v := nI 7) dX0_keep_7 rfl ?_
  first | ((with_reducible refine mk_nn ?_); refine n_irem dX0_keep_9 (by omega) (by omega) (by omega) ?_) | refine e_irem dX0_keep_9 (by decide) ?_
  refine e_putI dX0_keep_10 fl_X0_17 rfl rfl rfl rfl ?_
  refine e_aload_n dX0_keep_13 rfl rfl ?_
  refine e_aload_n dX0_keep_14 rfl rfl ?_
  refine e_getE dX0_keep_15 fl_X0_26 rfl h62 ?_
  refine e_iconst (v := nI 1) dX0_keep_18 rfl ?_
  first | ((with_reducible refine mk_nn ?_); refine n_iadd dX0_keep_19 ?_) | refine e_iadd dX0_keep_19 ?_
  refine e_bipush (v := nI 6) dX0_keep_20 rfl ?_
  refine e_mmin dX0_keep_22 ml_X0_29 sc_Mmin nz_M cd_Mmin (by decide) (Nat.le_of_ble_eq_true rfl) ?_
  refine e_putI dX0_keep_25 fl_X0_26 rfl rfl rfl rfl ?_
  refine e_ret none rfl (r_void dX0_keep_28 rfl) ?_
  exact xq rfl (by rw [nI_min (by omega) (by decide)]) rfl rfl rfl rfl
theorem ct_tb0 {fi : FI} {fr : FR} {ai : FI} {ar : FR} {N t : Nat} (ht : t < 7) (h5 : fi (32 * 0 + 1) (rf 0 74) = nI t) (h6 : fi (32 * 0 + 2) (rf 0 74) = nI 0) : CP mX0_takeBack 3 0 0 [.ref (rf 0 74), .ref (rf 9 1)] fi fr ai ar N (xQ (some (.int (nI 0))) fi fr ai ar N) := by
  change EV mX0_takeBack 3 0 0 0 [some (.ref (rf 0 74)), some (.ref (rf 9 1)), none] [] fi fr ai ar N _
  refine e_aload_n dX0_takeBack_0 rfl rfl ?_
  refine e_getE dX0_takeBack_1 fl_X0_17 rfl h5 ?_
  refine e_bipush (v := nI 7) dX0_takeBack_4 rfl ?_
  first | ((with_reducible refine mk_nn ?_); refine n_iadd dX0_takeBack_6 ?_) | refine e_iadd dX0_takeBack_6 ?_
  refine e_iconst (v := nI 1) dX0_takeBack_7 rfl ?_
  first | ((with_reducible refine mk_nn ?_); refine n_isub dX0_takeBack_8 (by omega) ?_) | refine e_isub dX0_takeBack_8 ?_
  refine e_bipush (v := nI 7) dX0_takeBack_9 rfl ?_
  first | ((with_reducible refine mk_nn ?_); refine n_irem dX0_takeBack_11 (by omega) (by omega) (by omega) ?_) | refine e_irem dX0_takeBack_11 (by decide) ?_
  refine e_istore_n dX0_takeBack_12 rfl (Nat.le_of_ble_eq_true rfl) rfl ?_
  refine e_aload_n dX0_takeBack_13 rfl rfl ?_
  refine e_getE dX0_takeBack_14 fl_X0_26 rfl h6 ?_
  first | ((with_reducible refine mk_b ?_); refine b_if_eq (tgt := 29) dX0_takeBack_17 (by decide) (fun h17 => ?_) (fun h17 => ?_)) | ((with_reducible refine mk_ll ?_); refine m_if_eq (tgt := 29) dX0_takeBack_17 (by decide) (by omega) (by omega) (fun h17 => ?_) (fun h17 => ?_)) | ((with_reducible refine mk_lc ?_); refine l_if_eq (tgt := 29) dX0_takeBack_17 (by decide) (fun h17 => ?_) (fun h17 => ?_)) | ((with_reducible refine mk_n ?_); refine n_if_eq (tgt := 29) dX0_takeBack_17 (by decide) (by omega) (fun h17 => ?_) (fun h17 => ?_)) | refine e_if_eq (tgt := 29) dX0_takeBack_17 (by decide) (fun h17 => ?_) (fun h17 => ?_)
  · try first | contradiction | omega | (simp only [decide_eq_true_eq, decide_eq_false_iff_not] at h17; omega)
    all_goals
      refine e_iconst (v := nI 0) dX0_takeBack_29 rfl ?_
      first | ((with_reducible refine mk_b ?_); refine e_ret (some _) rfl (r_bool dX0_takeBack_30 rfl) ?_) | ((with_reducible refine mk_n1 ?_); refine e_ret (some _) rfl (r_b1 dX0_takeBack_30 rfl) ?_) | ((with_reducible refine mk_n0 ?_); refine e_ret (some _) rfl (r_b0 dX0_takeBack_30 rfl) ?_)
      exact xq rfl rfl rfl rfl rfl rfl
  · try first | contradiction | omega | (simp only [decide_eq_true_eq, decide_eq_false_iff_not] at h17; omega)
    all_goals
      omega
theorem ct_tb1 {fi : FI} {fr : FR} {ai : FI} {ar : FR} {N t u : Nat} {v B : Nat → Nat} (cm : CM fr ar) (al : AL fr ar N B) (iv : Inv v) (ht : t < 7) (hu : u + 1 ≤ 6) (h5 : fi (32 * 0 + 1) (rf 0 74) = nI t) (h6 : fi (32 * 0 + 2) (rf 0 74) = nI (u + 1)) (hb : B ((t + 6) % 7) ≠ 0) (hK : KW (B ((t + 6) % 7)) fi ai v) : CP mX0_takeBack 3 0 0 [.ref (rf 0 74), .ref (rf 9 1)] fi fr ai ar N (mQ (some (.int (nI 1))) fr ar N (fun fi' ai' => KW 1 fi' ai' v ∧ fi' (32 * 0 + 1) (rf 0 74) = nI ((t + 6) % 7) ∧ fi' (32 * 0 + 2) (rf 0 74) = nI u ∧ (∀ f r, (r / 64 < 1 ∨ 58 ≤ r / 64) → ¬ (f = 32 * 0 + 1 ∧ r = rf 0 74) → ¬ (f = 32 * 0 + 2 ∧ r = rf 0 74) → fi' f r = fi f r) ∧ ∀ a, (a / 64 < 1 ∨ 58 ≤ a / 64) → ai' a = ai a)) := by
  change EV mX0_takeBack 3 0 0 0 [some (.ref (rf 0 74)), some (.ref (rf 9 1)), none] [] fi fr ai ar N _
  have hs : (t + 6) % 7 < 7 := Nat.mod_lt _ (by decide)
  have hB := al.2.1 _ (by omega) hb
  rw [szA_8 (by omega)] at hB
  refine e_aload_n dX0_takeBack_0 rfl rfl ?_
  refine e_getE dX0_takeBack_1 fl_X0_17 rfl h5 ?_
  refine e_bipush (v := nI 7) dX0_takeBack_4 rfl ?_
  first | ((with_reducible refine mk_nn ?_); refine n_iadd dX0_takeBack_6 ?_) | refine e_iadd dX0_takeBack_6 ?_
  refine e_iconst (v := nI 1) dX0_takeBack_7 rfl ?_
  first | ((with_reducible refine mk_nn ?_); refine n_isub dX0_takeBack_8 (by omega) ?_) | refine e_isub dX0_takeBack_8 ?_
  refine e_bipush (v := nI 7) dX0_takeBack_9 rfl ?_
  first | ((with_reducible refine mk_nn ?_); refine n_irem dX0_takeBack_11 (by omega) (by omega) (by omega) ?_) | refine e_irem dX0_takeBack_11 (by decide) ?_
  rw [show t + 7 - 1 = t + 6 by omega]
  refine e_istore_n dX0_takeBack_12 rfl (Nat.le_of_ble_eq_true rfl) rfl ?_
  refine e_aload_n dX0_takeBack_13 rfl rfl ?_
  refine e_getE dX0_takeBack_14 fl_X0_26 rfl h6 ?_
  first | ((with_reducible refine mk_b ?_); refine b_if_eq (tgt := 29) dX0_takeBack_17 (by decide) (fun h17 => ?_) (fun h17 => ?_)) | ((with_reducible refine mk_ll ?_); refine m_if_eq (tgt := 29) dX0_takeBack_17 (by decide) (by omega) (by omega) (fun h17 => ?_) (fun h17 => ?_)) | ((with_reducible refine mk_lc ?_); refine l_if_eq (tgt := 29) dX0_takeBack_17 (by decide) (fun h17 => ?_) (fun h17 => ?_)) | ((with_reducible refine mk_n ?_); refine n_if_eq (tgt := 29) dX0_takeBack_17 (by decide) (by omega) (fun h17 => ?_) (fun h17 => ?_)) | refine e_if_eq (tgt := 29) dX0_takeBack_17 (by decide) (fun h17 => ?_) (fun h17 => ?_)
  · try first | contradiction | omega | (simp only [decide_eq_true_eq, decide_eq_false_iff_not] at h17; omega)
    all_goals
      omega
  · try first | contradiction | omega | (simp only [decide_eq_true_eq, decide_eq_false_iff_not] at h17; omega)
    all_goals
      refine e_aload_n dX0_takeBack_20 rfl rfl ?_
      refine e_getR dX0_takeBack_21 fl_X0_11 rfl cm.2.2.2.2.2.2.1 ?_
      refine e_iload_n dX0_takeBack_24 rfl rfl ?_
      refine e_aald _ dX0_takeBack_25 ⟨by decide, by decide⟩ rfl rfl (by simp only [lenK]; omega) (al_row al hs hb) ?_
      refine e_ifnonnull (tgt := 31) dX0_takeBack_26 (by decide) ?_
      refine e_aload_n dX0_takeBack_31 rfl rfl ?_
      refine e_aload_n dX0_takeBack_32 rfl rfl ?_
      refine e_getR dX0_takeBack_33 fl_X0_11 rfl cm.2.2.2.2.2.2.1 ?_
      refine e_iload_n dX0_takeBack_36 rfl rfl ?_
      refine e_aald _ dX0_takeBack_37 ⟨by decide, by decide⟩ rfl rfl (by simp only [lenK]; omega) (al_row al hs hb) ?_
      refine my_V1 (M' := mX9_copyFrom) dX0_takeBack_38 ml_X0_22 ok_X9_copyFrom (by decide) rfl im_X9_copyFrom se_X9_copyFrom (ct_X9_copyFrom cm.1 (al.2.2.2.2.1 _ (by omega) hb) iv hK (by omega)) (Nat.le_of_ble_eq_true rfl) (by decide) (Nat.le_of_ble_eq_true rfl) (fun fi2 ai2 hP => ?_)
      have h62 : up2 fi2 (32 * 0 + 1) (rf 0 74) (nI ((t + 6) % 7)) (32 * 0 + 2) (rf 0 74) = nI (u + 1) := by
        rw [up2_n _ _ (by decide), hP.2.1 _ _ (by decide)]; exact h6
      refine e_aload_n dX0_takeBack_41 rfl rfl ?_
      refine e_iload_n dX0_takeBack_42 rfl rfl ?_
      refine e_putI dX0_takeBack_43 fl_X0_17 rfl rfl rfl rfl ?_
      refine e_aload_n dX0_takeBack_46 rfl rfl ?_
      refine e_dup dX0_takeBack_47 rfl ?_
      refine e_getE dX0_takeBack_48 fl_X0_26 rfl h62 ?_
      refine e_iconst (v := nI 1) dX0_takeBack_51 rfl ?_
      first | ((with_reducible refine mk_nn ?_); refine n_isub dX0_takeBack_52 (by omega) ?_) | refine e_isub dX0_takeBack_52 ?_
      rw [show u + 1 - 1 = u by omega]
      refine e_putI dX0_takeBack_53 fl_X0_26 rfl rfl rfl rfl ?_
      refine e_iconst (v := nI 1) dX0_takeBack_56 rfl ?_
      first | ((with_reducible refine mk_b ?_); refine e_ret (some _) rfl (r_bool dX0_takeBack_57 rfl) ?_) | ((with_reducible refine mk_n1 ?_); refine e_ret (some _) rfl (r_b1 dX0_takeBack_57 rfl) ?_) | ((with_reducible refine mk_n0 ?_); refine e_ret (some _) rfl (r_b0 dX0_takeBack_57 rfl) ?_)
      exact mq rfl ⟨KW_fr (iv_mm iv) (fun f r a b => by rw [up2_n _ _ (fun e => by rw [e.2, rf_div (by decide)] at b; omega), up2_n _ _ (fun e => by rw [e.2, rf_div (by decide)] at b; omega)]) (fun _ _ _ => rfl) hP.1, by rw [up2_n _ _ (by decide), up2_s], up2_s _ _ _ _, fun f r a b c => by rw [up2_n _ _ c, up2_n _ _ b]; exact hP.2.1 f r (by omega), fun a x => hP.2.2 a (by omega)⟩
