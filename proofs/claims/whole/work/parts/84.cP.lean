/-- what lies beyond the cells made so far is empty -/
def ZN (fi : FI) (fr : FR) (ai : FI) (ar : FR) (N : Nat) : Prop := ∀ a, N ≤ a / 64 → (∀ f, fi f a = 0 ∧ fr f a = none) ∧ ∀ i, ai a i = 0 ∧ ar a i = none
theorem e_zr {M : MD} {d k z pc : Nat} {ls : List (Option Value)} {st : List Value} {fi : FI} {fr : FR} {ai : FI} {ar : FR} {N : Nat} {Q : EQ} (kk : ZN fi fr ai ar N → EV M d k z pc ls st fi fr ai ar N Q) : EV M d k z pc ls st fi fr ai ar N Q := by
  intro p l e R s m args below meth c A D ad0 kd0 N0 Q' H locs cells slots ad cs kd lr C T h1 h2 hS hR hE hX hT hv hl
  exact kk hR.2.2.2.2.2.2.2 p l e R s m args below meth c A D ad0 kd0 N0 Q' H locs cells slots ad cs kd lr C T h1 h2 hS hR hE hX hT hv hl
theorem e_wk {M : MD} {d k z pc : Nat} {ls : List (Option Value)} {st : List Value} {fi : FI} {fr : FR} {ai : FI} {ar : FR} {N : Nat} {Q : EQ} {k2 z2 : Nat} (hk : k2 ≤ k) (hz : z2 ≤ z) (kk : EV M d k2 z2 pc ls st fi fr ai ar N Q) : EV M d k z pc ls st fi fr ai ar N Q := by
  intro p l e R s m args below meth c A D ad0 kd0 N0 Q' H locs cells slots ad cs kd lr C T h1 h2 hS hR hE hX hT hv hl
  exact kk p l e R s m args below meth c A D ad0 kd0 N0 Q' H locs cells slots ad cs kd lr C T (by omega) (by omega) hS hR hE hX hT hv hl
theorem e_rg {M : MD} {d k z pc : Nat} {ls : List (Option Value)} {st : List Value} {fi : FI} {fr : FR} {ai : FI} {ar : FR} {N : Nat} {Q : EQ} {i κ f n b : Nat} (hd : decode M.2.1 pc = .ok (.putfield i, 3)) (hf : FLK M.1.cls i κ f) (hr : isR (tyK κ f) = true) (hfin : ((cK κ).2.1 f).2.2.2 = true) (hni : M.1.name = "<init>") (hoo : (cK κ).1 = M.1.cls) (kk : ∀ fr', fr' (32 * κ + f) (rf κ n) = some b → (∀ g r, ¬ (g = 32 * κ + f ∧ r = rf κ n) → fr' g r = fr g r) → EV M d k z (pc + 3) ls st fi fr' ai ar N Q) : EV M d k z pc ls (.ref b :: .ref (rf κ n) :: st) fi fr ai ar N Q := e_putRF hd hf hr hfin hni hoo (kk _ (up2_s _ _ _ _) (fun _ _ h => up2_n _ _ h))
theorem ct_X8_init {fi : FI} {fr : FR} {ai : FI} {ar : FR} {N : Nat} {t : Nat} : CP mX8_init 1 3 96 [.ref (rf 8 t)] fi fr ai ar N (xQ none fi (up2 (up2 (up2 fr (32 * 8 + 0) (rf 8 t) (some (rf 16 N))) (32 * 8 + 1) (rf 8 t) (some (rf 16 (N + 1)))) (32 * 8 + 2) (rf 8 t) (some (rf 16 (N + 1 + 1)))) ai ar (N + 1 + 1 + 1)) := by
  change EV mX8_init 1 3 96 0 [some (.ref (rf 8 t))] [] fi fr ai ar N _
  refine e_aload_n dX8_init_0 rfl rfl ?_
  refine e_objInit dX8_init_1 ml_X8_3 im_O cd_O (by decide) (Nat.le_of_ble_eq_true rfl) ?_
  refine e_aload_n dX8_init_4 rfl rfl ?_
  refine e_bipush (v := nI 32) dX8_init_5 rfl ?_
  refine e_newa 16 (at_ := .int) dX8_init_7 ⟨by decide, by decide⟩ rfl ⟨rfl, rfl, by decide, Nat.le_of_ble_eq_true rfl⟩ ac_int rfl (k2 := 2) (z2 := 64) ⟨by omega, by (show 32 + _ ≤ _; omega)⟩ ?_
  refine e_putRF dX8_init_9 fl_X8_9 rfl rfl rfl rfl ?_
  refine e_aload_n dX8_init_12 rfl rfl ?_
  refine e_bipush (v := nI 32) dX8_init_13 rfl ?_
  refine e_newa 16 (at_ := .int) dX8_init_15 ⟨by decide, by decide⟩ rfl ⟨rfl, rfl, by decide, Nat.le_of_ble_eq_true rfl⟩ ac_int rfl (k2 := 1) (z2 := 32) ⟨by omega, by (show 32 + _ ≤ _; omega)⟩ ?_
  refine e_putRF dX8_init_17 fl_X8_15 rfl rfl rfl rfl ?_
  refine e_aload_n dX8_init_20 rfl rfl ?_
  refine e_bipush (v := nI 32) dX8_init_21 rfl ?_
  refine e_newa 16 (at_ := .int) dX8_init_23 ⟨by decide, by decide⟩ rfl ⟨rfl, rfl, by decide, Nat.le_of_ble_eq_true rfl⟩ ac_int rfl (k2 := 0) (z2 := 0) ⟨by omega, by (show 32 + _ ≤ _; omega)⟩ ?_
  refine e_putRF dX8_init_25 fl_X8_18 rfl rfl rfl rfl ?_
  refine e_ret none rfl (r_void dX8_init_28 rfl) ?_
  exact xq rfl rfl rfl rfl rfl rfl
theorem ct_X4_init {fi : FI} {fr : FR} {ai : FI} {ar : FR} {N : Nat} {t : Nat} : CP mX4_init 1 1 60 [.ref (rf 4 t)] fi fr ai ar N (xQ none fi (up2 fr (32 * 4 + 0) (rf 4 t) (some (rf 17 N))) ai ar (N + 1)) := by
  change EV mX4_init 1 1 60 0 [some (.ref (rf 4 t))] [] fi fr ai ar N _
  refine e_aload_n dX4_init_0 rfl rfl ?_
  refine e_objInit dX4_init_1 ml_X4_3 im_O cd_O (by decide) (Nat.le_of_ble_eq_true rfl) ?_
  refine e_aload_n dX4_init_4 rfl rfl ?_
  refine e_bipush (v := nI 60) dX4_init_5 rfl ?_
  refine e_newa 17 (at_ := .int) dX4_init_7 ⟨by decide, by decide⟩ rfl ⟨rfl, rfl, by decide, Nat.le_of_ble_eq_true rfl⟩ ac_int rfl (k2 := 0) (z2 := 0) ⟨by omega, by (show 60 + _ ≤ _; omega)⟩ ?_
  refine e_putRF dX4_init_9 fl_X4_9 rfl rfl rfl rfl ?_
  refine e_ret none rfl (r_void dX4_init_12 rfl) ?_
  exact xq rfl rfl rfl rfl rfl rfl
theorem ct_put2 {fi : FI} {fr : FR} {ai : FI} {ar : FR} {N : Nat} {t i : Nat} {x y : Int32} (tl : TBL fr t) (hi : i < 32) : CP mX8_put 0 0 0 [.ref (rf 8 t), .int (nI i), .int x, .int y] fi fr ai ar N (xQ none fi fr (up2 (up2 (up2 ai (rf 16 (t + 1)) i x) (rf 16 (t + 2)) i y) (rf 16 (t + 3)) i (fi (32 * 8 + 4) (rf 8 t))) ar N) := by
  change EV mX8_put 0 0 0 0 [some (.ref (rf 8 t)), some (.int (nI i)), some (.int x), some (.int y)] [] fi fr ai ar N _
  refine e_aload_n dX8_put_0 rfl rfl ?_
  refine e_getR dX8_put_1 fl_X8_9 rfl tl.1 ?_
  refine e_iload_n dX8_put_4 rfl rfl ?_
  refine e_iload_n dX8_put_5 rfl rfl ?_
  refine e_iast _ dX8_put_6 ⟨by decide, by decide⟩ rfl rfl (by simp only [lenK]; omega) ?_
  refine e_aload_n dX8_put_7 rfl rfl ?_
  refine e_getR dX8_put_8 fl_X8_15 rfl tl.2.1 ?_
  refine e_iload_n dX8_put_11 rfl rfl ?_
  refine e_iload_n dX8_put_12 rfl rfl ?_
  refine e_iast _ dX8_put_13 ⟨by decide, by decide⟩ rfl rfl (by simp only [lenK]; omega) ?_
  refine e_aload_n dX8_put_14 rfl rfl ?_
  refine e_getR dX8_put_15 fl_X8_18 rfl tl.2.2 ?_
  refine e_iload_n dX8_put_18 rfl rfl ?_
  refine e_aload_n dX8_put_19 rfl rfl ?_
  refine e_getE dX8_put_20 fl_X8_25 rfl rfl ?_
  refine e_iast _ dX8_put_23 ⟨by decide, by decide⟩ rfl rfl (by simp only [lenK]; omega) ?_
  refine e_ret none rfl (r_void dX8_put_24 rfl) ?_
  exact xq rfl rfl rfl rfl rfl rfl
def w00 : Nat → Nat := fun q => if q < 2 ∨ q = 74 ∨ (4 ≤ q ∧ q < 10) then 1 else if q = 2 then 4 else 0
def FB (b : Nat) (fi : FI) (fr : FR) (ai : FI) (ar : FR) (fi' : FI) (fr' : FR) (ai' : FI) (ar' : FR) : Prop := (∀ f r, r / 64 < b → fi' f r = fi f r ∧ fr' f r = fr f r) ∧ ∀ a i, a / 64 < b → ai' a i = ai a i ∧ ar' a i = ar a i
def wQ (fi : FI) (fr : FR) (ai : FI) (ar : FR) (b : Nat) : EQ := fun r fi' fr' ai' ar' N' => r = none ∧ N' = b + 57 ∧ WL fr' ar' b ∧ KW b fi' ai' w00 ∧ FB b fi fr ai ar fi' fr' ai' ar'
def WLa (fr : FR) (b : Nat) : Prop := fr (32 * 9 + 0) (rf 9 b) = some (rf 18 (b + 1)) ∧ fr (32 * 9 + 1) (rf 9 b) = some (rf 19 (b + 2)) ∧ fr (32 * 9 + 2) (rf 9 b) = some (rf 8 (b + 3)) ∧ fr (32 * 9 + 3) (rf 9 b) = some (rf 20 (b + 7)) ∧ fr (32 * 9 + 4) (rf 9 b) = some (rf 21 (b + 8)) ∧ TBL fr (b + 3)
theorem TBL_fr {fr fr' : FR} {t : Nat} (h : ∀ f, fr' f (rf 8 t) = fr f (rf 8 t)) (g : TBL fr t) : TBL fr' t := by unfold TBL; rw [h, h, h]; exact g
theorem WLa_fr {fr fr' : FR} {b : Nat} (h : ∀ f, fr' f (rf 9 b) = fr f (rf 9 b)) (h2 : ∀ f, fr' f (rf 8 (b + 3)) = fr f (rf 8 (b + 3))) (g : WLa fr b) : WLa fr' b := by
  obtain ⟨g1, g2, g3, g4, g5, g6⟩ := g
  unfold WLa
  rw [h, h, h, h, h]
  exact ⟨g1, g2, g3, g4, g5, TBL_fr h2 g6⟩
theorem TB_new {fr : FR} {t : Nat} : TBL (up2 (up2 (up2 fr (32 * 8 + 0) (rf 8 t) (some (rf 16 (t + 1)))) (32 * 8 + 1) (rf 8 t) (some (rf 16 (t + 1 + 1)))) (32 * 8 + 2) (rf 8 t) (some (rf 16 (t + 1 + 1 + 1)))) t := by
  refine ⟨?_, ?_, ?_⟩
  · rw [up2_n _ _ (by omega), up2_n _ _ (by omega), up2_s]
  · rw [up2_n _ _ (by omega), up2_s]
  · rw [up2_s]
theorem TB_oth {fr : FR} {t : Nat} {a b c : Option Nat} {f r : Nat} (h : r ≠ rf 8 t) : up2 (up2 (up2 fr (32 * 8 + 0) (rf 8 t) a) (32 * 8 + 1) (rf 8 t) b) (32 * 8 + 2) (rf 8 t) c f r = fr f r := by
  rw [up2_n _ _ (fun e => h e.2), up2_n _ _ (fun e => h e.2), up2_n _ _ (fun e => h e.2)]
theorem KW_new {fi : FI} {fr : FR} {ai : FI} {ar : FR} {b : Nat} (hz : ∀ f, fi f (rf 9 b) = 0) (zn : ZN fi fr ai ar (b + 1)) : KW b (up2 (up2 (up2 (up2 fi (32 * 8 + 4) (rf 8 (b + 3)) (nI 1)) (32 * 8 + 3) (rf 8 (b + 3)) (nI 1)) (32 * 9 + 6) (rf 9 b) (nI 63)) (32 * 9 + 7) (rf 9 b) (nI 4)) (up2 (up2 (up2 ai (rf 16 (b + 3 + 1)) 0 (nI 0)) (rf 16 (b + 3 + 2)) 0 (nI 0)) (rf 16 (b + 3 + 3)) 0 (nI 1)) w00 := by
  have za : ∀ κ n i, κ < 64 → b + 1 ≤ n → ai (rf κ n) i = nI 0 := fun κ n i h h2 => ((zn _ (by rw [rf_div h]; exact h2)).2 i).1
  have zf : ∀ f κ n, κ < 64 → b + 1 ≤ n → fi f (rf κ n) = nI 0 := fun f κ n h h2 => ((zn _ (by rw [rf_div h]; exact h2)).1 f).1
  refine ⟨fun i hi => ?_, fun k hk => ?_, ⟨?_, ?_, fun i hi => ?_⟩, fun c hc => ⟨?_, ?_, fun i hi => absurd hi (by rw [show w00 (7106 + 98 * c + 1) = 0 by unfold w00; rw [if_neg (by omega), if_neg (by omega)]]; omega)⟩, fun m hm => absurd hm (by show ¬ m < 0; omega), ?_, ?_, ?_⟩
  · rw [up2_o _ _ (rf_ne (by decide) (by decide) (by omega)), up2_o _ _ (rf_ne (by decide) (by decide) (by omega)), up2_o _ _ (rf_ne (by decide) (by decide) (by omega)), za _ _ _ (by decide) (by omega), show w00 (1106 + i) = 0 by unfold w00; rw [if_neg (by omega), if_neg (by omega)]]
  · rw [up2_o _ _ (rf_ne (by decide) (by decide) (by omega)), up2_o _ _ (rf_ne (by decide) (by decide) (by omega)), up2_o _ _ (rf_ne (by decide) (by decide) (by omega)), za _ _ _ (by decide) (by omega), show w00 (106 + k) = 0 by unfold w00; rw [if_neg (by omega), if_neg (by omega)]]
  · rw [up2_n _ _ (by omega), up2_n _ _ (by omega), up2_s]; rfl
  · rw [up2_n _ _ (by omega), up2_n _ _ (by omega), up2_n _ _ (by omega), up2_s]; rfl
  · have h0 : i = 0 := by have : i < 1 := hi; omega
    subst h0
    refine ⟨?_, ?_, ?_⟩
    · rw [up2_o _ _ (rf_ne (by decide) (by decide) (by omega)), up2_o _ _ (rf_ne (by decide) (by decide) (by omega)), up2_s]; rfl
    · rw [up2_o _ _ (rf_ne (by decide) (by decide) (by omega)), up2_s]; rfl
    · rw [up2_s]; rfl
  · rw [up2_n _ _ (by omega), up2_n _ _ (by omega), up2_n _ _ (fun e => absurd e.2 (rf_ne (by decide) (by decide) (by omega))), up2_n _ _ (by omega), zf _ _ _ (by decide) (by omega), show w00 (7106 + 98 * c + 1) = 0 by unfold w00; rw [if_neg (by omega), if_neg (by omega)]]
  · rw [up2_n _ _ (by omega), up2_n _ _ (by omega), up2_n _ _ (by omega), up2_n _ _ (fun e => absurd e.2 (rf_ne (by decide) (by decide) (by omega))), zf _ _ _ (by decide) (by omega), show w00 (7106 + 98 * c + 0) = 0 by unfold w00; rw [if_neg (by omega), if_neg (by omega)]]
  · rw [up2_n _ _ (by omega), up2_n _ _ (by omega), up2_n _ _ (by omega), up2_n _ _ (by omega), hz]; rfl
  · rw [up2_n _ _ (by omega), up2_s]; rfl
  · rw [up2_s]; rfl
theorem ct_X9_init {fi : FI} {fr : FR} {ai : FI} {ar : FR} {b : Nat} (hz : ∀ f, fi f (rf 9 b) = 0) : CP mX9_init 2 56 8601 [.ref (rf 9 b)] fi fr ai ar (b + 1) (wQ fi fr ai ar b) := by
  change EV mX9_init 2 56 8601 0 [some (.ref (rf 9 b)), none] [] fi fr ai ar (b + 1) (wQ fi fr ai ar b)
  refine e_zr (fun zn => ?_)
  have key2 := ev_up (P := fun j => ∀ fr2 ar2, (∀ f r, r / 64 < b → fr2 f r = fr f r) → (∀ a i, a / 64 < b → ar2 a i = ar a i) → WLa fr2 b → (∀ c, c < 6 → ar2 (rf 20 (b + 7)) c = some (rf 8 (b + 9 + 4 * c)) ∧ TBL fr2 (b + 9 + 4 * c)) → (∀ m, m < j → ar2 (rf 21 (b + 8)) m = some (rf 4 (b + 33 + 2 * m)) ∧ fr2 (32 * 4 + 0) (rf 4 (b + 33 + 2 * m)) = some (rf 17 (b + 33 + 2 * m + 1))) → EV mX9_init 2 (24 - 2 * j) (876 - 73 * j) 106 [some (.ref (rf 9 b)), some (.int (nI j))] [] (up2 (up2 fi (32 * 8 + 4) (rf 8 (b + 3)) (nI 1)) (32 * 8 + 3) (rf 8 (b + 3)) (nI 1)) fr2 (up2 (up2 (up2 ai (rf 16 (b + 3 + 1)) 0 (nI 0)) (rf 16 (b + 3 + 2)) 0 (nI 0)) (rf 16 (b + 3 + 3)) 0 (nI 1)) ar2 (b + 33 + 2 * j) (wQ fi fr ai ar b)) 12 (fun j hj ih fr2 ar2 h1 h2 hW hC hM => by
    refine e_iload_n dX9_init_106 rfl rfl ?_
    refine e_bipush (v := nI 12) dX9_init_107 rfl ?_
    first | ((with_reducible refine mk_nn ?_); refine n_icmp_ge (tgt := 131) dX9_init_109 (by decide) (by omega) (by omega) (fun h109 => ?_) (fun h109 => ?_)) | refine e_icmp_ge (tgt := 131) dX9_init_109 (by decide) (fun h109 => ?_) (fun h109 => ?_)
    · try first | contradiction | omega
      all_goals
        omega
    · try first | contradiction | omega
      all_goals
        refine e_aload_n dX9_init_112 rfl rfl ?_
        refine e_getR dX9_init_113 fl_X9_31 rfl hW.2.2.2.2.1 ?_
        refine e_iload_n dX9_init_116 rfl rfl ?_
        refine e_new 4 dX9_init_117 (by decide) cl_X9_29 iz_4 nz_4 df_4 (k2 := ((24 - 2 * j) - 1)) (z2 := ((876 - 73 * j) - 13)) ⟨by omega, by (show 13 + _ ≤ _; omega)⟩ ?_
        refine e_dup dX9_init_120 rfl ?_
        refine e_callIN (M' := mX4_init) (k' := 1) (z' := 60) (k2 := (((24 - 2 * j) - 1) - 1)) (z2 := (((876 - 73 * j) - 13) - 60)) (As := []) dX9_init_121 (List.mem_of_getElem? (i := 1) rfl) ok_X4_init rfl rfl im_X4_init (ct_X4_init) rfl rfl (Nat.le_of_ble_eq_true rfl) (by decide) ⟨by omega, by omega⟩ (Nat.le_of_ble_eq_true rfl) (fun r1 f1 g1 a1 q1 n1 hI => ?_)
        obtain ⟨i1, i2, i3, i4, i5, i6⟩ := hI
        rw [i1, i2, i3, i4, i5, i6]
        clear i1 i2 i3 i4 i5 i6 r1 f1 g1 a1 q1 n1
        dsimp only [Option.toList, List.nil_append]
        refine e_aast _ dX9_init_124 ⟨by decide, by decide⟩ (by decide) rfl rfl (by simp only [lenK]; omega) ?_
        first | refine n_inc dX9_init_125 rfl (Nat.le_of_ble_eq_true rfl) rfl ?_ | refine e_iinc dX9_init_125 rfl rfl (Nat.le_of_ble_eq_true rfl) rfl ?_
        refine e_goto (tgt := 106) dX9_init_128 (by decide) ?_
        refine e_wk (k2 := 24 - 2 * (j + 1)) (z2 := 876 - 73 * (j + 1)) (by omega) (by omega) (ih _ _ (fun f r hr => ?_) (fun a i hr => ?_) (WLa_fr (fun f => up2_n _ _ (fun e => absurd e.2 (rf_ne (by decide) (by decide) (by omega)))) (fun f => up2_n _ _ (fun e => absurd e.2 (rf_ne (by decide) (by decide) (by omega)))) hW) (fun c hc => ⟨?_, ?_⟩) (fun m hm => ⟨?_, ?_⟩))
        · rw [up2_n _ _ (fun e => by rw [e.2, rf_div (by decide)] at hr; omega)]; exact h1 f r hr
        · rw [up2_n _ _ (fun e => by rw [e.1, rf_div (by decide)] at hr; omega)]; exact h2 a i hr
        · rw [up2_n _ _ (fun e => absurd e.1 (rf_ne (by decide) (by decide) (by omega)))]; exact (hC c hc).1
        · exact TBL_fr (fun f => up2_n _ _ (fun e => absurd e.2 (rf_ne (by decide) (by decide) (by omega)))) (hC c hc).2
        · by_cases e : m = j
          · rw [e, up2_s]
          · rw [up2_n _ _ (fun q => e q.2)]; exact (hM m (by omega)).1
        · by_cases e : m = j
          · rw [e, up2_s]
          · rw [up2_n _ _ (fun q => absurd q.2 (rf_ne (by decide) (by decide) (by omega)))]; exact (hM m (by omega)).2
    ) (fun fr2 ar2 h1 h2 hW hC hM => by
    refine e_wk (k2 := 0) (z2 := 0) (by omega) (by omega) ?_
    refine e_iload_n dX9_init_106 rfl rfl ?_
    refine e_bipush (v := nI 12) dX9_init_107 rfl ?_
    first | ((with_reducible refine mk_nn ?_); refine n_icmp_ge (tgt := 131) dX9_init_109 (by decide) (by omega) (by omega) (fun h109 => ?_) (fun h109 => ?_)) | refine e_icmp_ge (tgt := 131) dX9_init_109 (by decide) (fun h109 => ?_) (fun h109 => ?_)
    · try first | contradiction | omega
      all_goals
        refine e_aload_n dX9_init_131 rfl rfl ?_
        refine e_bipush (v := nI 63) dX9_init_132 rfl ?_
        refine e_putI dX9_init_134 fl_X9_47 rfl rfl rfl rfl ?_
        refine e_aload_n dX9_init_137 rfl rfl ?_
        refine e_iconst (v := nI 4) dX9_init_138 rfl ?_
        refine e_putI dX9_init_139 fl_X9_50 rfl rfl rfl rfl ?_
        refine e_ret none rfl (r_void dX9_init_142 rfl) ?_
        refine ⟨rfl, rfl, ⟨hW.1, hW.2.1, hW.2.2.1, hW.2.2.2.1, hW.2.2.2.2.1, hW.2.2.2.2.2, hC, hM⟩, KW_new hz zn, fun f r hr => ⟨?_, h1 f r hr⟩, fun a i hr => ⟨?_, h2 a i hr⟩⟩
        · rw [up2_n _ _ (fun e => by rw [e.2, rf_div (by decide)] at hr; omega), up2_n _ _ (fun e => by rw [e.2, rf_div (by decide)] at hr; omega), up2_n _ _ (fun e => by rw [e.2, rf_div (by decide)] at hr; omega), up2_n _ _ (fun e => by rw [e.2, rf_div (by decide)] at hr; omega)]
        · rw [up2_o _ _ (fun e => by rw [e, rf_div (by decide)] at hr; omega), up2_o _ _ (fun e => by rw [e, rf_div (by decide)] at hr; omega), up2_o _ _ (fun e => by rw [e, rf_div (by decide)] at hr; omega)]
    · try first | contradiction | omega
      all_goals
        omega
    )
  have key1 := ev_up (P := fun j => ∀ fr2 ar2, (∀ f r, r / 64 < b → fr2 f r = fr f r) → (∀ a i, a / 64 < b → ar2 a i = ar a i) → WLa fr2 b → (∀ c, c < j → ar2 (rf 20 (b + 7)) c = some (rf 8 (b + 9 + 4 * c)) ∧ TBL fr2 (b + 9 + 4 * c)) → EV mX9_init 2 (48 - 4 * j) (1482 - 101 * j) 79 [some (.ref (rf 9 b)), some (.int (nI j))] [] (up2 (up2 fi (32 * 8 + 4) (rf 8 (b + 3)) (nI 1)) (32 * 8 + 3) (rf 8 (b + 3)) (nI 1)) fr2 (up2 (up2 (up2 ai (rf 16 (b + 3 + 1)) 0 (nI 0)) (rf 16 (b + 3 + 2)) 0 (nI 0)) (rf 16 (b + 3 + 3)) 0 (nI 1)) ar2 (b + 9 + 4 * j) (wQ fi fr ai ar b)) 6 (fun j hj ih fr2 ar2 h1 h2 hW hC => by
    refine e_iload_n dX9_init_79 rfl rfl ?_
    refine e_bipush (v := nI 6) dX9_init_80 rfl ?_
    first | ((with_reducible refine mk_nn ?_); refine n_icmp_ge (tgt := 104) dX9_init_82 (by decide) (by omega) (by omega) (fun h82 => ?_) (fun h82 => ?_)) | refine e_icmp_ge (tgt := 104) dX9_init_82 (by decide) (fun h82 => ?_) (fun h82 => ?_)
    · try first | contradiction | omega
      all_goals
        omega
    · try first | contradiction | omega
      all_goals
        refine e_aload_n dX9_init_85 rfl rfl ?_
        refine e_getR dX9_init_86 fl_X9_25 rfl hW.2.2.2.1 ?_
        refine e_iload_n dX9_init_89 rfl rfl ?_
        refine e_new 8 dX9_init_90 (by decide) cl_X9_18 iz_8 nz_8 df_8 (k2 := ((48 - 4 * j) - 1)) (z2 := ((1482 - 101 * j) - 5)) ⟨by omega, by (show 5 + _ ≤ _; omega)⟩ ?_
        refine e_dup dX9_init_93 rfl ?_
        refine e_callIN (M' := mX8_init) (k' := 3) (z' := 96) (k2 := (((48 - 4 * j) - 1) - 3)) (z2 := (((1482 - 101 * j) - 5) - 96)) (As := []) dX9_init_94 (List.mem_of_getElem? (i := 0) rfl) ok_X8_init rfl rfl im_X8_init (ct_X8_init) rfl rfl (Nat.le_of_ble_eq_true rfl) (by decide) ⟨by omega, by omega⟩ (Nat.le_of_ble_eq_true rfl) (fun r1 f1 g1 a1 q1 n1 hI => ?_)
        obtain ⟨i1, i2, i3, i4, i5, i6⟩ := hI
        rw [i1, i2, i3, i4, i5, i6]
        clear i1 i2 i3 i4 i5 i6 r1 f1 g1 a1 q1 n1
        dsimp only [Option.toList, List.nil_append]
        refine e_aast _ dX9_init_97 ⟨by decide, by decide⟩ (by decide) rfl rfl (by simp only [lenK]; omega) ?_
        first | refine n_inc dX9_init_98 rfl (Nat.le_of_ble_eq_true rfl) rfl ?_ | refine e_iinc dX9_init_98 rfl rfl (Nat.le_of_ble_eq_true rfl) rfl ?_
        refine e_goto (tgt := 79) dX9_init_101 (by decide) ?_
        refine e_wk (k2 := 48 - 4 * (j + 1)) (z2 := 1482 - 101 * (j + 1)) (by omega) (by omega) (ih _ _ (fun f r hr => ?_) (fun a i hr => ?_) (WLa_fr (fun f => TB_oth (rf_ne (by decide) (by decide) (by omega))) (fun f => TB_oth (rf_ne (by decide) (by decide) (by omega))) hW) (fun c hc => ⟨?_, ?_⟩))
        · rw [TB_oth (fun e => by rw [e, rf_div (by decide)] at hr; omega)]; exact h1 f r hr
        · rw [up2_n _ _ (fun e => by rw [e.1, rf_div (by decide)] at hr; omega)]; exact h2 a i hr
        · by_cases e : c = j
          · rw [e, up2_s]
          · rw [up2_n _ _ (fun q => e q.2)]; exact (hC c (by omega)).1
        · by_cases e : c = j
          · rw [e]; exact TB_new
          · exact TBL_fr (fun f => TB_oth (rf_ne (by decide) (by decide) (by omega))) (hC c (by omega)).2
    ) (fun fr2 ar2 h1 h2 hW hC => by
    refine e_iload_n dX9_init_79 rfl rfl ?_
    refine e_bipush (v := nI 6) dX9_init_80 rfl ?_
    first | ((with_reducible refine mk_nn ?_); refine n_icmp_ge (tgt := 104) dX9_init_82 (by decide) (by omega) (by omega) (fun h82 => ?_) (fun h82 => ?_)) | refine e_icmp_ge (tgt := 104) dX9_init_82 (by decide) (fun h82 => ?_) (fun h82 => ?_)
    · try first | contradiction | omega
      all_goals
        refine e_iconst (v := nI 0) dX9_init_104 rfl ?_
        refine e_istore_n dX9_init_105 rfl (Nat.le_of_ble_eq_true rfl) rfl ?_
        exact e_wk (by omega) (by omega) (key2 0 (by omega) fr2 ar2 h1 h2 hW hC (fun m hm => absurd hm (by omega)))
    · try first | contradiction | omega
      all_goals
        omega
    )
  refine e_aload_n dX9_init_0 rfl rfl ?_
  refine e_objInit dX9_init_1 ml_X9_3 im_O cd_O (by decide) (Nat.le_of_ble_eq_true rfl) ?_
  refine e_aload_n dX9_init_4 rfl rfl ?_
  refine e_sipush (v := nI 6000) dX9_init_5 rfl ?_
  refine e_newa 18 (at_ := .int) dX9_init_8 ⟨by decide, by decide⟩ rfl ⟨rfl, rfl, by decide, Nat.le_of_ble_eq_true rfl⟩ ac_int rfl (k2 := 55) (z2 := 2601) ⟨by omega, by (show 6000 + _ ≤ _; omega)⟩ ?_
  refine e_rg dX9_init_10 fl_X9_9 rfl rfl rfl rfl (fun fr10 g10 o10 => ?_)
  refine e_aload_n dX9_init_13 rfl rfl ?_
  refine e_sipush (v := nI 1000) dX9_init_14 rfl ?_
  refine e_newa 19 (at_ := .int) dX9_init_17 ⟨by decide, by decide⟩ rfl ⟨rfl, rfl, by decide, Nat.le_of_ble_eq_true rfl⟩ ac_int rfl (k2 := 54) (z2 := 1601) ⟨by omega, by (show 1000 + _ ≤ _; omega)⟩ ?_
  refine e_rg dX9_init_19 fl_X9_15 rfl rfl rfl rfl (fun fr19 g19 o19 => ?_)
  refine e_aload_n dX9_init_22 rfl rfl ?_
  refine e_new 8 dX9_init_23 (by decide) cl_X9_18 iz_8 nz_8 df_8 (k2 := 53) (z2 := 1596) ⟨by omega, by (show 5 + _ ≤ _; omega)⟩ ?_
  refine e_dup dX9_init_26 rfl ?_
  refine e_callIN (M' := mX8_init) (k' := 3) (z' := 96) (k2 := 50) (z2 := 1500) (As := []) dX9_init_27 (List.mem_of_getElem? (i := 0) rfl) ok_X8_init rfl rfl im_X8_init (ct_X8_init) rfl rfl (Nat.le_of_ble_eq_true rfl) (by decide) ⟨by omega, by omega⟩ (Nat.le_of_ble_eq_true rfl) (fun r1 f1 g1 a1 q1 n1 hI => ?_)
  obtain ⟨i1, i2, i3, i4, i5, i6⟩ := hI
  rw [i1, i2, i3, i4, i5, i6]
  clear i1 i2 i3 i4 i5 i6 r1 f1 g1 a1 q1 n1
  have tb : TBL _ (b + 3) := TB_new (fr := fr19) (t := b + 3)
  have to : ∀ f r, r ≠ rf 8 (b + 3) → _ = fr19 f r := fun f r h => TB_oth (fr := fr19) (t := b + 3) (a := some (rf 16 (b + 3 + 1))) (b := some (rf 16 (b + 3 + 1 + 1))) (c := some (rf 16 (b + 3 + 1 + 1 + 1))) (f := f) (r := r) h
  generalize up2 (up2 (up2 fr19 (32 * 8 + 0) (rf 8 (b + 3)) (some (rf 16 (b + 3 + 1)))) (32 * 8 + 1) (rf 8 (b + 3)) (some (rf 16 (b + 3 + 1 + 1)))) (32 * 8 + 2) (rf 8 (b + 3)) (some (rf 16 (b + 3 + 1 + 1 + 1))) = fr27 at *
  dsimp only [Option.toList, List.nil_append]
  refine e_rg dX9_init_30 fl_X9_21 rfl rfl rfl rfl (fun fr30 g30 o30 => ?_)
  refine e_aload_n dX9_init_33 rfl rfl ?_
  refine e_bipush (v := nI 6) dX9_init_34 rfl ?_
  refine e_newq 20 dX9_init_36 ⟨by decide, by decide⟩ rfl cl_X9_18 (by decide) rfl (Nat.le_of_ble_eq_true rfl) (k2 := 49) (z2 := 1494) ⟨by omega, by (show 6 + _ ≤ _; omega)⟩ ?_
  refine e_rg dX9_init_39 fl_X9_25 rfl rfl rfl rfl (fun fr39 g39 o39 => ?_)
  refine e_aload_n dX9_init_42 rfl rfl ?_
  refine e_bipush (v := nI 12) dX9_init_43 rfl ?_
  refine e_newq 21 dX9_init_45 ⟨by decide, by decide⟩ rfl cl_X9_29 (by decide) rfl (Nat.le_of_ble_eq_true rfl) (k2 := 48) (z2 := 1482) ⟨by omega, by (show 12 + _ ≤ _; omega)⟩ ?_
  refine e_rg dX9_init_48 fl_X9_31 rfl rfl rfl rfl (fun fr48 g48 o48 => ?_)
  have hm48 : fr48 (32 * 9 + 2) (rf 9 b) = some (rf 8 (b + 3)) := (o48 _ _ (by omega)).trans ((o39 _ _ (by omega)).trans g30)
  have t48 : TBL fr48 (b + 3) := TBL_fr (fun f => (o48 _ _ (fun e => absurd e.2 (rf_ne (by decide) (by decide) (by omega)))).trans ((o39 _ _ (fun e => absurd e.2 (rf_ne (by decide) (by decide) (by omega)))).trans (o30 _ _ (fun e => absurd e.2 (rf_ne (by decide) (by decide) (by omega)))))) tb
  have hW : WLa fr48 b := ⟨(o48 _ _ (by omega)).trans ((o39 _ _ (by omega)).trans ((o30 _ _ (by omega)).trans ((to _ _ (rf_ne (by decide) (by decide) (by omega))).trans ((o19 _ _ (by omega)).trans g10)))), (o48 _ _ (by omega)).trans ((o39 _ _ (by omega)).trans ((o30 _ _ (by omega)).trans ((to _ _ (rf_ne (by decide) (by decide) (by omega))).trans g19))), hm48, (o48 _ _ (by omega)).trans g39, g48, t48⟩
  have hfr : ∀ f r, r / 64 < b → fr48 f r = fr f r := fun f r hr => by
    have e9 : r ≠ rf 9 b := fun e => by rw [e, rf_div (by decide)] at hr; omega
    have e8 : r ≠ rf 8 (b + 3) := fun e => by rw [e, rf_div (by decide)] at hr; omega
    rw [o48 f r (fun e => e9 e.2), o39 f r (fun e => e9 e.2), o30 f r (fun e => e9 e.2), to f r e8, o19 f r (fun e => e9 e.2), o10 f r (fun e => e9 e.2)]
  refine e_aload_n dX9_init_51 rfl rfl ?_
  refine e_getR dX9_init_52 fl_X9_21 rfl hm48 ?_
  refine e_iconst (v := nI 1) dX9_init_55 rfl ?_
  refine e_putI dX9_init_56 fl_X9_35 rfl rfl rfl rfl ?_
  refine e_aload_n dX9_init_59 rfl rfl ?_
  refine e_getR dX9_init_60 fl_X9_21 rfl hm48 ?_
  refine e_iconst (v := nI 1) dX9_init_63 rfl ?_
  refine e_putI dX9_init_64 fl_X9_39 rfl rfl rfl rfl ?_
  refine e_aload_n dX9_init_67 rfl rfl ?_
  refine e_getR dX9_init_68 fl_X9_21 rfl hm48 ?_
  refine e_iconst (v := nI 0) dX9_init_71 rfl ?_
  refine e_iconst (v := nI 0) dX9_init_72 rfl ?_
  refine e_iconst (v := nI 0) dX9_init_73 rfl ?_
  refine y_V3 (M' := mX8_put) dX9_init_74 ml_X9_42 ok_X8_put (by decide) rfl im_X8_put se_X8_put (ct_put2 t48 (by omega)) (Nat.le_of_ble_eq_true rfl) (by decide) (Nat.le_of_ble_eq_true rfl) ?_
  rw [show (up2 (up2 fi (32 * 8 + 4) (rf 8 (b + 3)) (nI 1)) (32 * 8 + 3) (rf 8 (b + 3)) (nI 1)) (32 * 8 + 4) (rf 8 (b + 3)) = nI 1 by rw [up2_n _ _ (by omega), up2_s]]
  refine e_iconst (v := nI 0) dX9_init_77 rfl ?_
  refine e_istore_n dX9_init_78 rfl (Nat.le_of_ble_eq_true rfl) rfl ?_
  exact e_wk (by omega) (by omega) (key1 0 (by omega) fr48 ar hfr (fun _ _ _ => rfl) hW (fun c hc => absurd hc (by omega)))
theorem ct_X3_init {fi : FI} {fr : FR} {ai : FI} {ar : FR} {N : Nat} {t : Nat} : CP mX3_init 1 6 2087 [.ref (rf 3 t)] fi fr ai ar N (xQ none fi (up2 (up2 (up2 (up2 (up2 (up2 fr (32 * 3 + 0) (rf 3 t) (some (rf 22 N))) (32 * 3 + 1) (rf 3 t) (some (rf 23 (N + 1)))) (32 * 3 + 2) (rf 3 t) (some (rf 23 (N + 1 + 1)))) (32 * 3 + 3) (rf 3 t) (some (rf 23 (N + 1 + 1 + 1)))) (32 * 3 + 4) (rf 3 t) (some (rf 23 (N + 1 + 1 + 1 + 1)))) (32 * 3 + 5) (rf 3 t) (some (rf 24 (N + 1 + 1 + 1 + 1 + 1)))) ai ar (N + 1 + 1 + 1 + 1 + 1 + 1)) := by
  change EV mX3_init 1 6 2087 0 [some (.ref (rf 3 t))] [] fi fr ai ar N _
  refine e_aload_n dX3_init_0 rfl rfl ?_
  refine e_objInit dX3_init_1 ml_X3_3 im_O cd_O (by decide) (Nat.le_of_ble_eq_true rfl) ?_
  refine e_aload_n dX3_init_4 rfl rfl ?_
  refine e_bipush (v := nI 15) dX3_init_5 rfl ?_
  refine e_newa 22 (at_ := .int) dX3_init_7 ⟨by decide, by decide⟩ rfl ⟨rfl, rfl, by decide, Nat.le_of_ble_eq_true rfl⟩ ac_int rfl (k2 := 5) (z2 := 2072) ⟨by omega, by (show 15 + _ ≤ _; omega)⟩ ?_
  refine e_putRF dX3_init_9 fl_X3_9 rfl rfl rfl rfl ?_
  refine e_aload_n dX3_init_12 rfl rfl ?_
  refine e_bipush (v := nI 6) dX3_init_13 rfl ?_
  refine e_newa 23 (at_ := .int) dX3_init_15 ⟨by decide, by decide⟩ rfl ⟨rfl, rfl, by decide, Nat.le_of_ble_eq_true rfl⟩ ac_int rfl (k2 := 4) (z2 := 2066) ⟨by omega, by (show 6 + _ ≤ _; omega)⟩ ?_
  refine e_putRF dX3_init_17 fl_X3_15 rfl rfl rfl rfl ?_
  refine e_aload_n dX3_init_20 rfl rfl ?_
  refine e_bipush (v := nI 6) dX3_init_21 rfl ?_
  refine e_newa 23 (at_ := .int) dX3_init_23 ⟨by decide, by decide⟩ rfl ⟨rfl, rfl, by decide, Nat.le_of_ble_eq_true rfl⟩ ac_int rfl (k2 := 3) (z2 := 2060) ⟨by omega, by (show 6 + _ ≤ _; omega)⟩ ?_
  refine e_putRF dX3_init_25 fl_X3_18 rfl rfl rfl rfl ?_
  refine e_aload_n dX3_init_28 rfl rfl ?_
  refine e_bipush (v := nI 6) dX3_init_29 rfl ?_
  refine e_newa 23 (at_ := .int) dX3_init_31 ⟨by decide, by decide⟩ rfl ⟨rfl, rfl, by decide, Nat.le_of_ble_eq_true rfl⟩ ac_int rfl (k2 := 2) (z2 := 2054) ⟨by omega, by (show 6 + _ ≤ _; omega)⟩ ?_
  refine e_putRF dX3_init_33 fl_X3_21 rfl rfl rfl rfl ?_
  refine e_aload_n dX3_init_36 rfl rfl ?_
  refine e_bipush (v := nI 6) dX3_init_37 rfl ?_
  refine e_newa 23 (at_ := .int) dX3_init_39 ⟨by decide, by decide⟩ rfl ⟨rfl, rfl, by decide, Nat.le_of_ble_eq_true rfl⟩ ac_int rfl (k2 := 1) (z2 := 2048) ⟨by omega, by (show 6 + _ ≤ _; omega)⟩ ?_
  refine e_putRF dX3_init_41 fl_X3_24 rfl rfl rfl rfl ?_
  refine e_aload_n dX3_init_44 rfl rfl ?_
  refine e_sipush (v := nI 2048) dX3_init_45 rfl ?_
  refine e_newa 24 (at_ := .int) dX3_init_48 ⟨by decide, by decide⟩ rfl ⟨rfl, rfl, by decide, Nat.le_of_ble_eq_true rfl⟩ ac_int rfl (k2 := 0) (z2 := 0) ⟨by omega, by (show 2048 + _ ≤ _; omega)⟩ ?_
  refine e_putRF dX3_init_50 fl_X3_27 rfl rfl rfl rfl ?_
  refine e_ret none rfl (r_void dX3_init_53 rfl) ?_
  exact xq rfl rfl rfl rfl rfl rfl
theorem LL_new {fr : FR} {t : Nat} : LL (up2 (up2 (up2 (up2 (up2 (up2 fr (32 * 3 + 0) (rf 3 t) (some (rf 22 (t + 1)))) (32 * 3 + 1) (rf 3 t) (some (rf 23 (t + 1 + 1)))) (32 * 3 + 2) (rf 3 t) (some (rf 23 (t + 1 + 1 + 1)))) (32 * 3 + 3) (rf 3 t) (some (rf 23 (t + 1 + 1 + 1 + 1)))) (32 * 3 + 4) (rf 3 t) (some (rf 23 (t + 1 + 1 + 1 + 1 + 1)))) (32 * 3 + 5) (rf 3 t) (some (rf 24 (t + 1 + 1 + 1 + 1 + 1 + 1)))) t := by
  refine ⟨?_, ?_, ?_, ?_, ?_, ?_⟩
  · rw [up2_n _ _ (by omega), up2_n _ _ (by omega), up2_n _ _ (by omega), up2_n _ _ (by omega), up2_n _ _ (by omega), up2_s]
  · rw [up2_n _ _ (by omega), up2_n _ _ (by omega), up2_n _ _ (by omega), up2_n _ _ (by omega), up2_s]
  · rw [up2_n _ _ (by omega), up2_n _ _ (by omega), up2_n _ _ (by omega), up2_s]
  · rw [up2_n _ _ (by omega), up2_n _ _ (by omega), up2_s]
  · rw [up2_n _ _ (by omega), up2_s]
  · rw [up2_s]
theorem LL_oth {fr : FR} {t : Nat} {a b c d e g : Option Nat} {f r : Nat} (h : r ≠ rf 3 t) : up2 (up2 (up2 (up2 (up2 (up2 fr (32 * 3 + 0) (rf 3 t) a) (32 * 3 + 1) (rf 3 t) b) (32 * 3 + 2) (rf 3 t) c) (32 * 3 + 3) (rf 3 t) d) (32 * 3 + 4) (rf 3 t) e) (32 * 3 + 5) (rf 3 t) g f r = fr f r := by
  rw [up2_n _ _ (fun q => h q.2), up2_n _ _ (fun q => h q.2), up2_n _ _ (fun q => h q.2), up2_n _ _ (fun q => h q.2), up2_n _ _ (fun q => h q.2), up2_n _ _ (fun q => h q.2)]
