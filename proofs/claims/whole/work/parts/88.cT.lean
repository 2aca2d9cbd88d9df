/-- the kept worlds' contents: u acts V 0 .. V (u - 1), the oldest first, the next row is t; and the image -/
def CB (fi : FI) (fr : FR) (ai : FI) (ar : FR) (N u : Nat) (V : Nat → Nat → Nat) (im : Option ((Nat → Nat) × (Nat → Nat))) (B : Nat → Nat) (t : Nat) : Prop :=
  AL fr ar N B ∧ t < 7 ∧ u ≤ 6 ∧ fi (32 * 0 + 1) (rf 0 74) = nI t ∧ fi (32 * 0 + 2) (rf 0 74) = nI u ∧ (∀ j, j < u → B ((t + 7 - u + j) % 7) ≠ 0 ∧ KW (B ((t + 7 - u + j) % 7)) fi ai (V j) ∧ Inv (V j)) ∧
  (im = none → B 7 = 0 ∧ B 8 = 0) ∧ ∀ q, im = some q → B 7 ≠ 0 ∧ B 8 ≠ 0 ∧ KW (B 7) fi ai q.1 ∧ Inv q.1 ∧ LGR (B 8) ai q.1 q.2 (q.1 0)
def CLS (fi : FI) (fr : FR) (ai : FI) (ar : FR) (N : Nat) (w lg : Nat → Nat) (E u : Nat) (V : Nat → Nat → Nat) (im : Option ((Nat → Nat) × (Nat → Nat))) : Prop := CM fr ar ∧ SM fr ∧ K fi ai w lg E ∧ ∃ B t, CB fi fr ai ar N u V im B t
/-- the tape, the reference and the class's own cell are as before -/
def FX (fi ai fi' ai' : FI) : Prop := (∀ f r, (r / 64 = 0 ∨ 76 ≤ r / 64 ∧ r / 64 < 89) → fi' f r = fi f r) ∧ ∀ a, (a / 64 = 0 ∨ 76 ≤ a / 64 ∧ a / 64 < 89) → ai' a = ai a
def aQ (r : Option Value) (w lg : Nat → Nat) (E u : Nat) (V : Nat → Nat → Nat) (im : Option ((Nat → Nat) × (Nat → Nat))) (fi ai : FI) : EQ := fun r1 fi' fr' ai' ar' N' => r1 = r ∧ CLS fi' fr' ai' ar' N' w lg E u V im ∧ FX fi ai fi' ai'
theorem CB_fr {fi fi' : FI} {fr : FR} {ai ai' : FI} {ar : FR} {N u t : Nat} {V : Nat → Nat → Nat} {im : Option ((Nat → Nat) × (Nat → Nat))} {B : Nat → Nat} (h : CB fi fr ai ar N u V im B t) (h5 : fi' (32 * 0 + 1) (rf 0 74) = fi (32 * 0 + 1) (rf 0 74)) (h6 : fi' (32 * 0 + 2) (rf 0 74) = fi (32 * 0 + 2) (rf 0 74)) (hf : ∀ f r, 89 ≤ r / 64 → fi' f r = fi f r) (ha : ∀ a, 89 ≤ a / 64 → ai' a = ai a) : CB fi' fr ai' ar N u V im B t := by
  obtain ⟨al, ht, hu, g5, g6, hV, hn, hs⟩ := h
  have kk : ∀ i v, i < 9 → B i ≠ 0 → v 3 ≤ 12 → KW (B i) fi ai v → KW (B i) fi' ai' v := fun i v hi hb h3 k => KW_fr h3 (fun f r x y => hf f r (by have := al.2.1 i hi hb; omega)) (fun a x y => ha a (by have := al.2.1 i hi hb; omega)) k
  refine ⟨al, ht, hu, h5.trans g5, h6.trans g6, fun j hj => ?_, hn, fun q hq => ?_⟩
  · obtain ⟨a, b, c⟩ := hV j hj
    exact ⟨a, kk _ _ (by have := Nat.mod_lt (t + 7 - u + j) (show 0 < 7 by decide); omega) a (iv_mm c) b, c⟩
  · obtain ⟨a, b, c, d, e⟩ := hs q hq
    exact ⟨a, b, kk 7 _ (by decide) a (iv_mm d) c, d, LGR_fr (fun x y z => ha x (by have := al.2.1 8 (by decide) b; omega)) e⟩
theorem slt_ne {t u j : Nat} (ht : t < 7) (hu : u ≤ 6) (hj : j < u) : (t + 7 - u + j) % 7 ≠ t := by omega
theorem slt_lt (n : Nat) : n % 7 < 7 := Nat.mod_lt _ (by decide)
theorem FA_KW2 {fr ar : FR} {N : Nat} {B : Nat → Nat} {t i : Nat} {fi ai fi' ai' : FI} {w : Nat → Nat} (h3 : w 3 ≤ 12) (h : FA B t fi ai fi' ai') (hi : i < 8) (hn : i ≠ t) (hb : B i ≠ 0) (k : KW (B i) fi ai w) : KW (B i) fi' ai' w := by
  have g := h.2.2 i (by omega) hn hb
  rw [szA_8 hi] at g
  exact KW_fr h3 g.1 g.2 k
theorem CB_sv {fi fi' : FI} {fr fr' : FR} {ai ai' : FI} {ar ar' : FR} {N N' u t : Nat} {V : Nat → Nat → Nat} {im : Option ((Nat → Nat) × (Nat → Nat))} {B B' : Nat → Nat} (h : CB fi fr ai ar N u V im B t) (al : AL fr' ar' N' B') (hB : ∀ i, i ≠ t → B' i = B i) (fa : FA B t fi ai fi' ai') : CB fi' fr' ai' ar' N' u V im B' t := by
  obtain ⟨_, ht, hu, g5, g6, hV, hn, hs⟩ := h
  refine ⟨al, ht, hu, (fa.1 _ _ (by decide)).trans g5, (fa.1 _ _ (by decide)).trans g6, fun j hj => ?_, fun e => ?_, fun q hq => ?_⟩
  · obtain ⟨a, b, c⟩ := hV j hj
    rw [hB _ (slt_ne ht hu hj)]
    exact ⟨a, FA_KW2 (fr := fr) (ar := ar) (N := N) (iv_mm c) fa (by have := slt_lt (t + 7 - u + j); omega) (slt_ne ht hu hj) a b, c⟩
  · rw [hB 7 (by omega), hB 8 (by omega)]; exact hn e
  · obtain ⟨a, b, c, d, e⟩ := hs q hq
    rw [hB 7 (by omega), hB 8 (by omega)]
    exact ⟨a, b, FA_KW2 (fr := fr) (ar := ar) (N := N) (iv_mm d) fa (by decide) (by omega) a c, d, LGR_fr (fun x y z => (fa.2.2 8 (by decide) (by omega) b).2 x y z) e⟩
def kpF (fi : FI) (t u : Nat) : FI := up2 (up2 fi (32 * 0 + 1) (rf 0 74) (nI ((t + 1) % 7))) (32 * 0 + 2) (rf 0 74) (nI (if 6 < u + 1 then 6 else u + 1))
def psV (u : Nat) (V : Nat → Nat → Nat) (w : Nat → Nat) : Nat → Nat → Nat := fun j => if u < 6 then (if j = u then w else V j) else if j = 5 then w else V (j + 1)
theorem kpF_o {fi : FI} {t u f r : Nat} (h : r ≠ rf 0 74) : kpF fi t u f r = fi f r := by unfold kpF; rw [up2_n _ _ (fun e => h e.2), up2_n _ _ (fun e => h e.2)]
theorem CB_kp {fi : FI} {fr : FR} {ai : FI} {ar : FR} {N : Nat} {u t : Nat} {V : Nat → Nat → Nat} {im : Option ((Nat → Nat) × (Nat → Nat))} {B w : Nat → Nat} (h : CB fi fr ai ar N u V im B t) (hb : B t ≠ 0) (hk : KW (B t) fi ai w) (iv : Inv w) : CB (kpF fi t u) fr ai ar N (if 6 < u + 1 then 6 else u + 1) (psV u V w) im B ((t + 1) % 7) := by
  obtain ⟨al, ht, hu, g5, g6, hV, hn, hs⟩ := h
  have kk : ∀ i v, i < 9 → B i ≠ 0 → v 3 ≤ 12 → KW (B i) fi ai v → KW (B i) (kpF fi t u) ai v := fun i v hi hb h3 k => KW_fr h3 (fun f r x y => kpF_o (fun e => by have := al.2.1 i hi hb; rw [e, rf_div (by decide)] at x; omega)) (fun _ _ _ => rfl) k
  refine ⟨al, by omega, by split <;> omega, ?_, up2_s _ _ _ _, fun j hj => ?_, hn, fun q hq => ?_⟩
  · unfold kpF; rw [up2_n _ _ (by decide), up2_s]
  · by_cases h6 : u < 6
    · rw [if_neg (by omega)] at hj
      rw [if_neg (by omega)]
      unfold psV
      rw [if_pos h6]
      by_cases e : j = u
      · rw [if_pos e, show ((t + 1) % 7 + 7 - (u + 1) + j) % 7 = t by omega]
        exact ⟨hb, kk t w (by omega) hb (iv_mm iv) hk, iv⟩
      · rw [if_neg e, show ((t + 1) % 7 + 7 - (u + 1) + j) % 7 = (t + 7 - u + j) % 7 by omega]
        obtain ⟨a, b, c⟩ := hV j (by omega)
        exact ⟨a, kk _ _ (by have := slt_lt (t + 7 - u + j); omega) a (iv_mm c) b, c⟩
    · have hu6 : u = 6 := by omega
      subst hu6
      rw [if_pos (by omega)] at hj
      rw [if_pos (by omega)]
      unfold psV
      rw [if_neg h6]
      by_cases e : j = 5
      · rw [if_pos e, show ((t + 1) % 7 + 7 - 6 + j) % 7 = t by omega]
        exact ⟨hb, kk t w (by omega) hb (iv_mm iv) hk, iv⟩
      · rw [if_neg e, show ((t + 1) % 7 + 7 - 6 + j) % 7 = (t + 7 - 6 + (j + 1)) % 7 by omega]
        obtain ⟨a, b, c⟩ := hV (j + 1) (by omega)
        exact ⟨a, kk _ _ (by have := slt_lt (t + 7 - 6 + (j + 1)); omega) a (iv_mm c) b, c⟩
  · obtain ⟨a, b, c, d, e⟩ := hs q hq
    exact ⟨a, b, kk 7 _ (by decide) a (iv_mm d) c, d, e⟩
def acU (b : Bool) (u : Nat) : Nat := if b then (if 6 < u + 1 then 6 else u + 1) else u
def acV (b : Bool) (u : Nat) (V : Nat → Nat → Nat) (w : Nat → Nat) : Nat → Nat → Nat := if b then psV u V w else V
def acF (b : Bool) (fi : FI) (t u : Nat) : FI := if b then kpF fi t u else fi
theorem ac_fin {fi0 ai0 f1 a1 fi ai : FI} {fr ar : FR} {N u t E : Nat} {V : Nat → Nat → Nat} {im : Option ((Nat → Nat) × (Nat → Nat))} {B0 B w w2 lg2 : Nat → Nat} {b : Bool} {r : Option Value} (cm : CM fr ar) (sm : SM fr) (fa : FA B0 t fi0 ai0 f1 a1) (cb : CB f1 fr a1 ar N u V im B t) (hb : B t ≠ 0) (hk : KW (B t) f1 a1 w) (iv : Inv w) (hF : FR1 f1 a1 fi ai) (hK : K fi ai w2 lg2 E) (h3 : w2 3 ≤ 12) : aQ r w2 lg2 E (acU b u) (acV b u V w) im fi0 ai0 r (acF b fi t u) fr ai ar N := by
  have fx : FX fi0 ai0 fi ai := ⟨fun f r hr => (hF.1 f r (by omega)).trans (fa.1 f r (by omega)), fun a hr => (hF.2 a (by omega)).trans (fa.2.1 a (by omega))⟩
  have cb2 : CB fi fr ai ar N u V im B t := CB_fr cb (hF.1 _ _ (by decide)) (hF.1 _ _ (by decide)) (fun f r x => hF.1 f r (by omega)) (fun a x => hF.2 a (by omega))
  cases b with
  | false => exact ⟨rfl, ⟨cm, sm, hK, B, t, cb2⟩, fx⟩
  | true =>
    have hB := cb.1.2.1 t (by have := cb.2.1; omega) hb
    have hk2 : KW (B t) fi ai w := KW_fr (iv_mm iv) (fun f r x y => hF.1 f r (by omega)) (fun a x y => hF.2 a (by omega)) hk
    refine ⟨rfl, ⟨cm, sm, K_fr h3 (fun f r x y => kpF_o (fun e => by rw [e, rf_div (by decide)] at y; omega)) (fun _ _ _ => rfl) hK, B, (t + 1) % 7, CB_kp cb2 hb hk2 iv⟩, ⟨fun f r hr => (kpF_o (fun e => by rw [e, rf_div (by decide)] at hr; omega)).trans (fx.1 f r hr), fx.2⟩⟩
theorem ct_X10_kept {fi : FI} {fr : FR} {ai : FI} {ar : FR} {N : Nat} {t u : Nat} {r : Int32} (cm : CM fr ar) (ht : t < 7) (hu : u ≤ 6) (h5 : fi (32 * 0 + 1) (rf 0 74) = nI t) (h6 : fi (32 * 0 + 2) (rf 0 74) = nI u) : CP mX10_kept 2 0 0 [.ref (rf 10 0), .int r] fi fr ai ar N (xQ (some (.int r)) (acF (decide (r ≠ -1)) fi t u) fr ai ar N) := by
  change EV mX10_kept 2 0 0 0 [some (.ref (rf 10 0)), some (.int r)] [] fi fr ai ar N _
  by_cases hr : r = -1
  · subst hr
    refine e_iload_n dX10_kept_0 rfl rfl ?_
    refine e_iconst (v := -1) dX10_kept_1 rfl ?_
    first | ((with_reducible refine mk_mo ?_); refine p_icmp_eq (tgt := 12) dX10_kept_2 (by decide) (fun h2 => ?_) (fun h2 => ?_)) | ((with_reducible refine mk_ms ?_); refine s_icmp_eq (tgt := 12) dX10_kept_2 (by decide) (by omega) (fun h2 => ?_) (fun h2 => ?_)) | ((with_reducible refine mk_mn ?_); refine q_icmp_eq (tgt := 12) dX10_kept_2 (by decide) (by omega) (fun h2 => ?_) (fun h2 => ?_)) | ((with_reducible refine mk_nn ?_); refine n_icmp_eq (tgt := 12) dX10_kept_2 (by decide) (by omega) (by omega) (fun h2 => ?_) (fun h2 => ?_)) | refine e_icmp_eq (tgt := 12) dX10_kept_2 (by decide) (fun h2 => ?_) (fun h2 => ?_)
    · try first | contradiction | omega
      all_goals
        refine e_iload_n dX10_kept_12 rfl rfl ?_
        refine e_ret (some _) rfl (r_int dX10_kept_13 rfl) ?_
        exact xq rfl rfl rfl rfl rfl rfl
    · try first | contradiction | omega
      all_goals
        exact absurd rfl h2
  · rw [show decide (r ≠ -1) = true from decide_eq_true hr]
    refine e_iload_n dX10_kept_0 rfl rfl ?_
    refine e_iconst (v := -1) dX10_kept_1 rfl ?_
    first | ((with_reducible refine mk_mo ?_); refine p_icmp_eq (tgt := 12) dX10_kept_2 (by decide) (fun h2 => ?_) (fun h2 => ?_)) | ((with_reducible refine mk_ms ?_); refine s_icmp_eq (tgt := 12) dX10_kept_2 (by decide) (by omega) (fun h2 => ?_) (fun h2 => ?_)) | ((with_reducible refine mk_mn ?_); refine q_icmp_eq (tgt := 12) dX10_kept_2 (by decide) (by omega) (fun h2 => ?_) (fun h2 => ?_)) | ((with_reducible refine mk_nn ?_); refine n_icmp_eq (tgt := 12) dX10_kept_2 (by decide) (by omega) (by omega) (fun h2 => ?_) (fun h2 => ?_)) | refine e_icmp_eq (tgt := 12) dX10_kept_2 (by decide) (fun h2 => ?_) (fun h2 => ?_)
    · try first | contradiction | omega
      all_goals
        refine e_iload_n dX10_kept_12 rfl rfl ?_
        refine e_ret (some _) rfl (r_int dX10_kept_13 rfl) ?_
        first | contradiction | exact xq rfl rfl rfl rfl rfl rfl
    · try first | contradiction | omega
      all_goals
        refine e_aload_n dX10_kept_5 rfl rfl ?_
        refine e_getR dX10_kept_6 fl_X10_58 rfl (cx_6 cm) ?_
        refine y_V0 (M' := mX0_keep) dX10_kept_9 ml_X10_164 ok_X0_keep (by decide) rfl im_X0_keep se_X0_keep (ct_X0_keep ht hu h5 h6) (Nat.le_of_ble_eq_true rfl) (by decide) (Nat.le_of_ble_eq_true rfl) ?_
        refine e_iload_n dX10_kept_12 rfl rfl ?_
        refine e_ret (some _) rfl (r_int dX10_kept_13 rfl) ?_
        first | contradiction | exact xq rfl rfl rfl rfl rfl rfl
theorem ct_X10_split {fi : FI} {fr : FR} {ai : FI} {ar : FR} {N : Nat} {w lg : Nat → Nat} {u : Nat} {V : Nat → Nat → Nat} {im : Option ((Nat → Nat) × (Nat → Nat))} (cs : CLS fi fr ai ar N w lg (w 0) u V im) (iv : Inv w) (h01 : w 0 < 1999) (x y : Int32) (h3 : sptW w (nmO w x) y 3 ≤ 12) : CP mX10_split 4 57 8609 [.ref (rf 10 0), .int x, .int y] fi fr ai ar N (aQ (some (.int (sptR w (nmO w x) y (-1)))) (sptW w (nmO w x) y) (sptL lg w (nmO w x) y) (sptW w (nmO w x) y 0) (acU (decide (sptR w (nmO w x) y (-1) ≠ -1)) u) (acV (decide (sptR w (nmO w x) y (-1) ≠ -1)) u V w) im fi ai) := by
  obtain ⟨cm, sm, hK, B0, t, cb⟩ := cs
  have ht := cb.2.1
  have hu := cb.2.2.1
  change EV mX10_split 4 57 8609 0 [some (.ref (rf 10 0)), some (.int x), some (.int y)] [] fi fr ai ar N (aQ (some (.int (sptR w (nmO w x) y (-1)))) (sptW w (nmO w x) y) (sptL lg w (nmO w x) y) (sptW w (nmO w x) y 0) (acU (decide (sptR w (nmO w x) y (-1) ≠ -1)) u) (acV (decide (sptR w (nmO w x) y (-1) ≠ -1)) u V w) im fi ai)
  generalize hQ : (aQ (some (.int (sptR w (nmO w x) y (-1)))) (sptW w (nmO w x) y) (sptL lg w (nmO w x) y) (sptW w (nmO w x) y 0) (acU (decide (sptR w (nmO w x) y (-1) ≠ -1)) u) (acV (decide (sptR w (nmO w x) y (-1) ≠ -1)) u V w) im fi ai) = Q
  refine e_aload_n dX10_split_0 rfl rfl ?_
  refine e_getR dX10_split_1 fl_X10_58 rfl (cx_6 cm) ?_
  refine e_aload_n dX10_split_4 rfl rfl ?_
  refine e_getR dX10_split_5 fl_X10_18 rfl (cx_0 cm) ?_
  refine e_callV (M' := mX0_save) (k' := 57) (z' := 8609) (k2 := 0) (z2 := 0) (As := [_]) dX10_split_8 ml_X10_126 ok_X0_save (by decide) rfl im_X0_save se_X0_save (ct_X0_save cm sm cb.1 iv hK.1 ht cb.2.2.2.1) rfl rfl (Nat.le_of_ble_eq_true rfl) (by decide) ⟨by omega, by omega⟩ (Nat.le_of_ble_eq_true rfl) (fun r1 f1 g1 a1 q1 n1 hI => ?_)
  obtain ⟨i1, B, cm, sm, al, hB, hb, hk, fa⟩ := hI
  rw [i1]
  clear i1
  dsimp only [Option.toList, List.nil_append]
  have hK : K f1 a1 w lg (w 0) := K_fr (iv_mm iv) (fun f r a b => fa.1 f r (by omega)) (fun a x y => fa.2.1 a (by omega)) hK
  have cb1 := CB_sv cb al hB fa
  have hF : FR1 f1 a1 f1 a1 := FR1_rf
  refine e_aload_n dX10_split_11 rfl rfl ?_
  refine e_aload_n dX10_split_12 rfl rfl ?_
  refine e_getR dX10_split_13 fl_X10_44 rfl (cx_3 cm) ?_
  refine e_iload_n dX10_split_16 rfl rfl ?_
  refine e_iload_n dX10_split_17 rfl rfl ?_
  refine kx_V2 (M' := mX2_cutAt) dX10_split_18 ml_X10_130 ok_X2_cutAt (by decide) rfl im_X2_cutAt se_X2_cutAt (ct_X2_cutAt cm iv hK (by omega) _ _) (Nat.le_of_ble_eq_true rfl) (by decide) (Nat.le_of_ble_eq_true rfl) (fun fi ai hG hK => ?_)
  have hF := FR1_tr hF hG
  refine x_V1 (M' := mX10_kept) dX10_split_21 ml_X10_133 ok_X10_kept (by decide) rfl im_X10_kept se_X10_kept (ct_X10_kept (t := t) (u := u) cm ht hu ((hF.1 _ _ (by decide)).trans cb1.2.2.2.1) ((hF.1 _ _ (by decide)).trans cb1.2.2.2.2.1)) (Nat.le_of_ble_eq_true rfl) (by decide) (Nat.le_of_ble_eq_true rfl) ?_
  refine e_ret (some _) rfl (r_int dX10_split_24 rfl) ?_
  subst hQ
  exact ac_fin cm sm fa cb1 hb hk iv hF hK h3
