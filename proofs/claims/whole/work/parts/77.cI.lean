theorem my_V4 {M : MD} {d k z pc : Nat} {ls : List (Option Value)} {st : List Value} {fi : FI} {fr : FR} {ai : FI} {ar : FR} {N : Nat} {Q : EQ} {M' : MD} {d' i κ o : Nat} {v1 v2 v3 v4 : Value} {P : FI → FI → Prop} (hd : decode M.2.1 pc = .ok (.invokevirtual i, 3)) (hm : Cond.methodLink M.1.cls i M'.1 ∈ gw) (ok : MOK M' 4) (h12 : κ < 12) (hcl : (cK κ).1 = M'.1.cls) (hi : Cond.instanceMethod M'.1 ∈ gw) (hsel : Cond.selects M'.1.cls M'.1 M'.1 ∈ gw) (hc : CP M' d' 0 0 (.ref (rf κ o) :: [v1, v2, v3, v4]) fi fr ai ar N (mQ none fr ar N P)) (hen : (enS (.ref (rf κ o) :: [v1, v2, v3, v4])).length ≤ M'.2.2.1) (hdd : d' < d) (hcat : (st.map fun v => v.category).sum ≤ 8) (kk : ∀ fi' ai', P fi' ai' → EV M d k z (pc + 3) ls st fi' fr ai' ar N Q) : EV M d k z pc ls (v4 :: v3 :: v2 :: v1 :: .ref (rf κ o) :: st) fi fr ai ar N Q := e_callV (k2 := k) (z2 := z) (As := [v1, v2, v3, v4]) hd hm ok h12 hcl hi hsel hc rfl rfl hen hdd ⟨by omega, by omega⟩ hcat (fun r1 f1 g1 a1 q1 n1 h => by obtain ⟨rfl, rfl, rfl, rfl, h5⟩ := h; exact kk _ _ h5)
def nvM (lo en fm to : Nat) : Nat → Nat := fun d => if d = 0 then 1 else if d = 1 then lo else if d = 2 then en else if d = 3 then fm else if d = 4 then to else if d = 5 then lo else 0
def BG (fi0 fi : FI) (p : Nat) (v : Nat → Nat) (D : List Nat) : Prop := (∀ f, f ∈ D → fi (32 * 4 + f) (rf 4 p) = nI (v (fD f))) ∧ ∀ f r, r ≠ rf 4 p → fi f r = fi0 f r
theorem BG_s {fi0 fi fi' : FI} {p : Nat} {v : Nat → Nat} {D : List Nat} (g : Nat) (h : BG fi0 fi p v D) (hg : fi' (32 * 4 + g) (rf 4 p) = nI (v (fD g))) (o : ∀ x r, ¬ (x = 32 * 4 + g ∧ r = rf 4 p) → fi' x r = fi x r) : BG fi0 fi' p v (g :: D) := by
  refine ⟨fun f hf => ?_, fun f r hr => ?_⟩
  · by_cases e : f = g
    · rw [e]; exact hg
    · rw [o _ _ (fun q => e (by have := q.1; omega))]
      rcases List.mem_cons.mp hf with q | q
      · exact absurd q e
      · exact h.1 f q
  · rw [o _ _ (fun e => hr e.2)]; exact h.2 f r hr
theorem ct_X4_begin {fi : FI} {fr : FR} {ai : FI} {ar : FR} {N : Nat} {p lo en fm to : Nat} : CP mX4_begin 0 0 0 [.ref (rf 4 p), .int (nI lo), .int (nI en), .int (nI fm), .int (nI to)] fi fr ai ar N (mQ none fr ar N (fun fi' ai' => ai' = ai ∧ (∀ f, 1 ≤ f → f ≤ 12 → fi' (32 * 4 + f) (rf 4 p) = nI (nvM lo en fm to (fD f))) ∧ ∀ f r, r ≠ rf 4 p → fi' f r = fi f r)) := by
  have c : BG fi fi p (nvM lo en fm to) [] := ⟨fun f hf => absurd hf List.not_mem_nil, fun _ _ _ => rfl⟩
  change EV mX4_begin 0 0 0 0 [some (.ref (rf 4 p)), some (.int (nI lo)), some (.int (nI en)), some (.int (nI fm)), some (.int (nI to))] [] fi fr ai ar N (mQ none fr ar N (fun fi' ai' => ai' = ai ∧ (∀ f, 1 ≤ f → f ≤ 12 → fi' (32 * 4 + f) (rf 4 p) = nI (nvM lo en fm to (fD f))) ∧ ∀ f r, r ≠ rf 4 p → fi' f r = fi f r))
  refine e_aload_n dX4_begin_0 rfl rfl ?_
  refine e_iload_n dX4_begin_1 rfl rfl ?_
  refine e_pg dX4_begin_2 fl_X4_15 rfl rfl rfl rfl (fun fi2 g2 o2 => ?_)
  have c := BG_s 3 c g2 o2
  refine e_aload_n dX4_begin_5 rfl rfl ?_
  refine e_iload_n dX4_begin_6 rfl rfl ?_
  refine e_pg dX4_begin_7 fl_X4_19 rfl rfl rfl rfl (fun fi7 g7 o7 => ?_)
  have c := BG_s 4 c g7 o7
  refine e_aload_n dX4_begin_10 rfl rfl ?_
  refine e_iload_n dX4_begin_11 rfl rfl ?_
  refine e_pg dX4_begin_12 fl_X4_22 rfl rfl rfl rfl (fun fi12 g12 o12 => ?_)
  have c := BG_s 5 c g12 o12
  refine e_aload_n dX4_begin_15 rfl rfl ?_
  refine e_iload dX4_begin_16 rfl ?_
  refine e_pg dX4_begin_18 fl_X4_25 rfl rfl rfl rfl (fun fi18 g18 o18 => ?_)
  have c := BG_s 6 c g18 o18
  refine e_aload_n dX4_begin_21 rfl rfl ?_
  refine e_iconst (v := nI 1) dX4_begin_22 rfl ?_
  refine e_pg dX4_begin_23 fl_X4_28 rfl rfl rfl rfl (fun fi23 g23 o23 => ?_)
  have c := BG_s 2 c g23 o23
  refine e_aload_n dX4_begin_26 rfl rfl ?_
  refine e_iload_n dX4_begin_27 rfl rfl ?_
  refine e_pg dX4_begin_28 fl_X4_31 rfl rfl rfl rfl (fun fi28 g28 o28 => ?_)
  have c := BG_s 7 c g28 o28
  refine e_aload_n dX4_begin_31 rfl rfl ?_
  refine e_iconst (v := nI 0) dX4_begin_32 rfl ?_
  refine e_pg dX4_begin_33 fl_X4_34 rfl rfl rfl rfl (fun fi33 g33 o33 => ?_)
  have c := BG_s 1 c g33 o33
  refine e_aload_n dX4_begin_36 rfl rfl ?_
  refine e_iconst (v := nI 0) dX4_begin_37 rfl ?_
  refine e_pg dX4_begin_38 fl_X4_37 rfl rfl rfl rfl (fun fi38 g38 o38 => ?_)
  have c := BG_s 8 c g38 o38
  refine e_aload_n dX4_begin_41 rfl rfl ?_
  refine e_iconst (v := nI 0) dX4_begin_42 rfl ?_
  refine e_pg dX4_begin_43 fl_X4_41 rfl rfl rfl rfl (fun fi43 g43 o43 => ?_)
  have c := BG_s 9 c g43 o43
  refine e_aload_n dX4_begin_46 rfl rfl ?_
  refine e_iconst (v := nI 0) dX4_begin_47 rfl ?_
  refine e_pg dX4_begin_48 fl_X4_44 rfl rfl rfl rfl (fun fi48 g48 o48 => ?_)
  have c := BG_s 10 c g48 o48
  refine e_aload_n dX4_begin_51 rfl rfl ?_
  refine e_iconst (v := nI 0) dX4_begin_52 rfl ?_
  refine e_pg dX4_begin_53 fl_X4_47 rfl rfl rfl rfl (fun fi53 g53 o53 => ?_)
  have c := BG_s 11 c g53 o53
  refine e_aload_n dX4_begin_56 rfl rfl ?_
  refine e_iconst (v := nI 0) dX4_begin_57 rfl ?_
  refine e_pg dX4_begin_58 fl_X4_50 rfl rfl rfl rfl (fun fi58 g58 o58 => ?_)
  have c := BG_s 12 c g58 o58
  refine e_ret none rfl (r_void dX4_begin_61 rfl) ?_
  refine mq rfl ⟨rfl, fun f a b => c.1 f ?_, c.2⟩
  have : ∀ f, f < 13 → 1 ≤ f → f ∈ [12, 11, 10, 9, 8, 1, 7, 2, 6, 5, 4, 3] := by decide
  exact this f (by omega) a
def mo3 (w : Nat → Nat) (i s : Nat) : Nat → Nat := upN (upN (upN (upN (upN (upN (upN (loF w (7694 + 72 * w 3) 72) (7694 + 72 * w 3 + 0) 1) (7694 + 72 * w 3 + 1) (w (10 + i))) (7694 + 72 * w 3 + 2) (enF w i)) (7694 + 72 * w 3 + 3) (w (42 + i))) (7694 + 72 * w 3 + 4) s) (7694 + 72 * w 3 + 5) (w (10 + i))) 3 (w 3 + 1)
theorem mo3_fr {w : Nat → Nat} {i s q : Nat} (h : q ≠ 3) (h2 : q < 7694 + 72 * w 3 ∨ 7694 + 72 * w 3 + 72 ≤ q) : mo3 w i s q = w q := by
  unfold mo3
  simp (disch := omega) only [upN_n]
  exact loF_fr (by omega)
theorem mo3_new {w : Nat → Nat} {i s d : Nat} (h3 : w 3 < 12) (hd : d < 72) : mo3 w i s (7694 + 72 * w 3 + d) = nvM (w (10 + i)) (enF w i) (w (42 + i)) s d := by
  have := mov_new (i := i) (s := s) h3 d hd
  have e : movW w i s (7694 + 72 * w 3 + d) = mo3 w i s (7694 + 72 * w 3 + d) := upN_n (by omega)
  rw [← e, this]
  unfold nvM
  repeat' split
  all_goals first | rfl | omega
theorem k_mov {fi fi' ai : FI} {w lg : Nat → Nat} {E i s : Nat} (iv : Inv w) (hK : K fi ai w lg E) (h3 : w 3 < 12) (hM : ∀ f, 1 ≤ f → f ≤ 12 → fi' (32 * 4 + f) (rf 4 (34 + 2 * w 3)) = nI (nvM (w (10 + i)) (enF w i) (w (42 + i)) s (fD f))) (hc : fi' (32 * 9 + 5) (rf 9 1) = nI (w 3 + 1)) (ho : ∀ f r, r ≠ rf 4 (34 + 2 * w 3) → ¬ (f = 32 * 9 + 5 ∧ r = rf 9 1) → fi' f r = fi f r) : K fi' ai (mo3 w i s) lg E := by
  have h1 := iv_n iv
  have hw : ∀ q, q ≠ 3 → (q < 7694 + 72 * w 3 ∨ 7694 + 72 * w 3 + 72 ≤ q) → mo3 w i s q = w q := fun q a b => mo3_fr a b
  have n3 : mo3 w i s 3 = w 3 + 1 := upN_s _ _ _
  obtain ⟨v1, v2, v3, v4, v5, v6, v7, v8⟩ := hK.1
  refine K_kw hK ⟨fun j hj => ?_, fun j hj => ?_, ?_, fun c hcc => ?_, fun m hm => ?_, ?_, ?_, ?_⟩ (fun _ _ _ => rfl) (fun q hq => hw q (by omega) (by omega))
  · rw [hw _ (by omega) (by omega)]; exact v1 j hj
  · rw [hw _ (by omega) (by omega)]; exact v2 j hj
  · exact TBR_cg (hw _ (by omega) (by omega)) (hw _ (by omega) (by omega)) (fun j hj => ⟨hw _ (by omega) (by omega), hw _ (by omega) (by omega), hw _ (by omega) (by omega)⟩) (TBR_fr (fun f => ho f _ (rf_ne (by decide) (by decide) (by omega)) (fun e => absurd e.2 (rf_ne (by decide) (by decide) (by omega)))) rfl rfl rfl v3)
  · have hcl := (iv_cl iv hcc).1
    exact TBR_cg (hw _ (by omega) (by omega)) (hw _ (by omega) (by omega)) (fun j hj => ⟨hw _ (by omega) (by omega), hw _ (by omega) (by omega), hw _ (by omega) (by omega)⟩) (TBR_fr (fun f => ho f _ (rf_ne (by decide) (by decide) (by omega)) (fun e => absurd e.2 (rf_ne (by decide) (by decide) (by omega)))) rfl rfl rfl (v4 c hcc))
  · rw [n3] at hm
    by_cases e : m = w 3
    · subst e
      refine ⟨fun f a b => ?_, fun j hj => ?_⟩
      · show fi' _ (rf 4 (34 + 2 * w 3)) = nI (mo3 w i s (7694 + 72 * w 3 + fD f))
        rw [mo3_new h3 (by have := fD_lt f; omega)]
        exact hM f a b
      · have : mrow (mo3 w i s) (w 3) 6 = 0 := (mo3_new h3 (by omega)).trans rfl
        rw [this] at hj
        exact absurd hj (by omega)
    · have hm2 : m < w 3 := by omega
      have h60 := (iv_mv iv hm2).2.2.2.2.2.2.2.1
      exact MVR_cg (fun d hd => hw _ (by omega) (by omega)) (fun j hj => hw _ (by omega) (by have : j < w (7694 + 72 * m + 6) := hj; omega)) (MVR_fr (fun f => ho f _ (rf_ne (by decide) (by decide) (by omega)) (fun e => absurd e.2 (rf_ne (by decide) (by decide) (by omega)))) rfl (v5 m hm2))
  · rw [n3]; exact hc
  · rw [ho _ _ (rf_ne (by decide) (by decide) (by omega)) (fun e => absurd e.1 (by decide)), ubF_fr (fun s2 hs2 => hw (4 + s2) (by omega) (by omega)) 6 (Nat.le_refl 6)]; exact v7
  · rw [ho _ _ (rf_ne (by decide) (by decide) (by omega)) (fun e => absurd e.1 (by decide)), hw _ (by omega) (by omega)]; exact v8
theorem ct_X5_begin {fi : FI} {fr : FR} {ai : FI} {ar : FR} {N : Nat} {w lg : Nat → Nat} {E : Nat} (cm : CM fr ar) (iv : Inv w) (hK : K fi ai w lg E) (g4 : cnt (goB w) (w 3) ≤ 4) (x y : Int32) : CP mX5_begin 2 0 0 [.ref (rf 5 73), .int x, .int y] fi fr ai ar N (kQ (some (.int (mvR w (nmO w x) y))) fi fr ai ar N (fun fi ai => K fi ai (mvW w (nmO w x) y) lg E)) := by
  have h1 := iv_n iv
  have h3 := iv_mm iv
  have bd := Bd_iv iv
  have hF : FR1 fi ai fi ai := FR1_rf
  change EV mX5_begin 2 0 0 0 [some (.ref (rf 5 73)), some (.int x), some (.int y), none, none, none] [] fi fr ai ar N (kQ (some (.int (mvR w (nmO w x) y))) fi fr ai ar N (fun fi ai => K fi ai (mvW w (nmO w x) y) lg E))
  cases hq : nmO w x with
  | none =>
    have e1 : mvR w none y = -1 := rfl
    have e2 : mvW w none y = w := rfl
    rw [e1, e2]
    refine e_aload_n dX5_begin_0 rfl rfl ?_
    refine e_getR dX5_begin_1 fl_X5_9 rfl (cv_w cm) ?_
    refine e_getR dX5_begin_4 fl_X5_19 rfl (cm_map cm) ?_
    refine e_astore_n dX5_begin_7 rfl (Nat.le_of_ble_eq_true rfl) rfl ?_
    refine e_aload_n dX5_begin_8 rfl rfl ?_
    refine e_iload_n dX5_begin_9 rfl rfl ?_
    refine x_V1 (M' := mX8_indexOfLow) dX5_begin_10 ml_X5_25 ok_X8_indexOfLow (by decide) rfl im_X8_indexOfLow se_X8_indexOfLow (ct_X8_indexOfLow cm iv hK _) (Nat.le_of_ble_eq_true rfl) (by decide) (Nat.le_of_ble_eq_true rfl) ?_
    rw [hq]
    refine e_istore dX5_begin_13 (Nat.le_of_ble_eq_true rfl) rfl ?_
    refine e_iload dX5_begin_15 rfl ?_
    refine e_iconst (v := -1) dX5_begin_17 rfl ?_
    first | ((with_reducible refine mk_mo ?_); refine p_icmp_eq (tgt := 39) dX5_begin_18 (by decide) (fun h18 => ?_) (fun h18 => ?_)) | ((with_reducible refine mk_ms ?_); refine s_icmp_eq (tgt := 39) dX5_begin_18 (by decide) (by omega) (fun h18 => ?_) (fun h18 => ?_)) | ((with_reducible refine mk_mn ?_); refine q_icmp_eq (tgt := 39) dX5_begin_18 (by decide) (by omega) (fun h18 => ?_) (fun h18 => ?_)) | ((with_reducible refine mk_nn ?_); refine n_icmp_eq (tgt := 39) dX5_begin_18 (by decide) (by omega) (by omega) (fun h18 => ?_) (fun h18 => ?_)) | refine e_icmp_eq (tgt := 39) dX5_begin_18 (by decide) (fun h18 => ?_) (fun h18 => ?_)
    · try first | contradiction | omega
      all_goals
        refine e_iconst (v := -1) dX5_begin_39 rfl ?_
        refine e_ret (some _) rfl (r_int dX5_begin_40 rfl) ?_
        exact kq rfl hF hK
    · try first | contradiction | omega
      all_goals
        contradiction
  | some i =>
    obtain ⟨hi, hx⟩ := nm_some iv hq
    have he := enF_le iv hi
    have hl := iv_low iv hi
    have ho := iv_own iv hi
    have huo := iv_up iv ho
    subst hx
    cases hy : inR y 6 with
    | false =>
      have eb : mvB w (some i) y = false := by show (inR y 6 && _) = _; rw [hy]; rfl
      have e1 : mvR w (some i) y = -1 := by unfold mvR; rw [eb]; rfl
      have e2 : mvW w (some i) y = w := by unfold mvW; rw [eb]; rfl
      rw [e1, e2]
      refine e_aload_n dX5_begin_0 rfl rfl ?_
      refine e_getR dX5_begin_1 fl_X5_9 rfl (cv_w cm) ?_
      refine e_getR dX5_begin_4 fl_X5_19 rfl (cm_map cm) ?_
      refine e_astore_n dX5_begin_7 rfl (Nat.le_of_ble_eq_true rfl) rfl ?_
      refine e_aload_n dX5_begin_8 rfl rfl ?_
      refine e_iload_n dX5_begin_9 rfl rfl ?_
      refine x_V1 (M' := mX8_indexOfLow) dX5_begin_10 ml_X5_25 ok_X8_indexOfLow (by decide) rfl im_X8_indexOfLow se_X8_indexOfLow (ct_X8_indexOfLow cm iv hK _) (Nat.le_of_ble_eq_true rfl) (by decide) (Nat.le_of_ble_eq_true rfl) ?_
      rw [hq, oI_s]
      refine e_istore dX5_begin_13 (Nat.le_of_ble_eq_true rfl) rfl ?_
      refine e_iload dX5_begin_15 rfl ?_
      refine e_iconst (v := -1) dX5_begin_17 rfl ?_
      first | ((with_reducible refine mk_mo ?_); refine p_icmp_eq (tgt := 39) dX5_begin_18 (by decide) (fun h18 => ?_) (fun h18 => ?_)) | ((with_reducible refine mk_ms ?_); refine s_icmp_eq (tgt := 39) dX5_begin_18 (by decide) (by omega) (fun h18 => ?_) (fun h18 => ?_)) | ((with_reducible refine mk_mn ?_); refine q_icmp_eq (tgt := 39) dX5_begin_18 (by decide) (by omega) (fun h18 => ?_) (fun h18 => ?_)) | ((with_reducible refine mk_nn ?_); refine n_icmp_eq (tgt := 39) dX5_begin_18 (by decide) (by omega) (by omega) (fun h18 => ?_) (fun h18 => ?_)) | refine e_icmp_eq (tgt := 39) dX5_begin_18 (by decide) (fun h18 => ?_) (fun h18 => ?_)
      · try first | contradiction | omega
        all_goals
          refine e_iconst (v := -1) dX5_begin_39 rfl ?_
          refine e_ret (some _) rfl (r_int dX5_begin_40 rfl) ?_
          exact kq rfl hF hK
      · try first | contradiction | omega
        all_goals
          refine e_iload_n dX5_begin_21 rfl rfl ?_
          refine x_N1 (M' := mX10_isServer) dX5_begin_22 (List.mem_of_getElem? (i := 8) rfl) ok_X10_isServer sc_X10_isServer (ct_X10_isServer _) (Nat.le_of_ble_eq_true rfl) (by decide) (Nat.le_of_ble_eq_true rfl) ?_
          rw [hy]
          first | ((with_reducible refine mk_b ?_); refine b_if_eq (tgt := 39) dX5_begin_25 (by decide) (fun h25 => ?_) (fun h25 => ?_)) | ((with_reducible refine mk_ll ?_); refine m_if_eq (tgt := 39) dX5_begin_25 (by decide) (by omega) (by omega) (fun h25 => ?_) (fun h25 => ?_)) | ((with_reducible refine mk_lc ?_); refine l_if_eq (tgt := 39) dX5_begin_25 (by decide) (fun h25 => ?_) (fun h25 => ?_)) | ((with_reducible refine mk_n ?_); refine n_if_eq (tgt := 39) dX5_begin_25 (by decide) (by omega) (fun h25 => ?_) (fun h25 => ?_)) | refine e_if_eq (tgt := 39) dX5_begin_25 (by decide) (fun h25 => ?_) (fun h25 => ?_)
          · try first | contradiction | omega | (simp only [decide_eq_true_eq, decide_eq_false_iff_not] at h25; omega)
            all_goals
              refine e_iconst (v := -1) dX5_begin_39 rfl ?_
              refine e_ret (some _) rfl (r_int dX5_begin_40 rfl) ?_
              exact kq rfl hF hK
          · try first | contradiction | omega | (simp only [decide_eq_true_eq, decide_eq_false_iff_not] at h25; omega)
            all_goals
              contradiction
    | true =>
      obtain ⟨s, hs, hs2, rfl⟩ := inR_ex hy
      have hus := iv_up iv hs
      have ebb : mvB w (some i) (nI s) = movC w i s := by show (inR (nI s) 6 && movC w i (nI s).toNatClampNeg) = _; rw [hy, nI_clamp hs2]; rfl
      cases hmc : movC w i s with
      | false =>
        have eb : mvB w (some i) (nI s) = false := ebb.trans hmc
        have e1 : mvR w (some i) (nI s) = -1 := by unfold mvR; rw [eb]; rfl
        have e2 : mvW w (some i) (nI s) = w := by unfold mvW; rw [eb]; rfl
        rw [e1, e2]
        cases hmv : mvL w (w (10 + i)) with
        | some m =>
          have hm := mvL_lt hmv
          refine e_aload_n dX5_begin_0 rfl rfl ?_
          refine e_getR dX5_begin_1 fl_X5_9 rfl (cv_w cm) ?_
          refine e_getR dX5_begin_4 fl_X5_19 rfl (cm_map cm) ?_
          refine e_astore_n dX5_begin_7 rfl (Nat.le_of_ble_eq_true rfl) rfl ?_
          refine e_aload_n dX5_begin_8 rfl rfl ?_
          refine e_iload_n dX5_begin_9 rfl rfl ?_
          refine x_V1 (M' := mX8_indexOfLow) dX5_begin_10 ml_X5_25 ok_X8_indexOfLow (by decide) rfl im_X8_indexOfLow se_X8_indexOfLow (ct_X8_indexOfLow cm iv hK _) (Nat.le_of_ble_eq_true rfl) (by decide) (Nat.le_of_ble_eq_true rfl) ?_
          rw [hq, oI_s]
          refine e_istore dX5_begin_13 (Nat.le_of_ble_eq_true rfl) rfl ?_
          refine e_iload dX5_begin_15 rfl ?_
          refine e_iconst (v := -1) dX5_begin_17 rfl ?_
          first | ((with_reducible refine mk_mo ?_); refine p_icmp_eq (tgt := 39) dX5_begin_18 (by decide) (fun h18 => ?_) (fun h18 => ?_)) | ((with_reducible refine mk_ms ?_); refine s_icmp_eq (tgt := 39) dX5_begin_18 (by decide) (by omega) (fun h18 => ?_) (fun h18 => ?_)) | ((with_reducible refine mk_mn ?_); refine q_icmp_eq (tgt := 39) dX5_begin_18 (by decide) (by omega) (fun h18 => ?_) (fun h18 => ?_)) | ((with_reducible refine mk_nn ?_); refine n_icmp_eq (tgt := 39) dX5_begin_18 (by decide) (by omega) (by omega) (fun h18 => ?_) (fun h18 => ?_)) | refine e_icmp_eq (tgt := 39) dX5_begin_18 (by decide) (fun h18 => ?_) (fun h18 => ?_)
          · try first | contradiction | omega
            all_goals
              refine e_iconst (v := -1) dX5_begin_39 rfl ?_
              refine e_ret (some _) rfl (r_int dX5_begin_40 rfl) ?_
              exact kq rfl hF hK
          · try first | contradiction | omega
            all_goals
              refine e_iload_n dX5_begin_21 rfl rfl ?_
              refine x_N1 (M' := mX10_isServer) dX5_begin_22 (List.mem_of_getElem? (i := 8) rfl) ok_X10_isServer sc_X10_isServer (ct_X10_isServer _) (Nat.le_of_ble_eq_true rfl) (by decide) (Nat.le_of_ble_eq_true rfl) ?_
              rw [hy]
              first | ((with_reducible refine mk_b ?_); refine b_if_eq (tgt := 39) dX5_begin_25 (by decide) (fun h25 => ?_) (fun h25 => ?_)) | ((with_reducible refine mk_ll ?_); refine m_if_eq (tgt := 39) dX5_begin_25 (by decide) (by omega) (by omega) (fun h25 => ?_) (fun h25 => ?_)) | ((with_reducible refine mk_lc ?_); refine l_if_eq (tgt := 39) dX5_begin_25 (by decide) (fun h25 => ?_) (fun h25 => ?_)) | ((with_reducible refine mk_n ?_); refine n_if_eq (tgt := 39) dX5_begin_25 (by decide) (by omega) (fun h25 => ?_) (fun h25 => ?_)) | refine e_if_eq (tgt := 39) dX5_begin_25 (by decide) (fun h25 => ?_) (fun h25 => ?_)
              · try first | contradiction | omega | (simp only [decide_eq_true_eq, decide_eq_false_iff_not] at h25; omega)
                all_goals
                  refine e_iconst (v := -1) dX5_begin_39 rfl ?_
                  refine e_ret (some _) rfl (r_int dX5_begin_40 rfl) ?_
                  exact kq rfl hF hK
              · try first | contradiction | omega | (simp only [decide_eq_true_eq, decide_eq_false_iff_not] at h25; omega)
                all_goals
                  refine e_iload_n dX5_begin_28 rfl rfl ?_
                  refine e_aload_n dX5_begin_29 rfl rfl ?_
                  refine e_getR dX5_begin_30 fl_X5_35 rfl (by first | exact cm_tow cm | exact cm_ctow cm (by omega) | assumption) ?_
                  refine e_iload dX5_begin_33 rfl ?_
                  refine e_iadE _ dX5_begin_35 ⟨by decide, by decide⟩ rfl rfl (by simp only [lenK]; omega) (by first | exact k_ow hK (by first | omega | (simp (disch := omega) only [upN_n, upN_s]; omega)) | exact k_cow hK (by omega) (by first | omega | (simp (disch := omega) only [upN_n, upN_s]; omega)) | assumption) ?_
                  first | ((with_reducible refine mk_mo ?_); refine p_icmp_ne (tgt := 41) dX5_begin_36 (by decide) (fun h36 => ?_) (fun h36 => ?_)) | ((with_reducible refine mk_ms ?_); refine s_icmp_ne (tgt := 41) dX5_begin_36 (by decide) (by omega) (fun h36 => ?_) (fun h36 => ?_)) | ((with_reducible refine mk_mn ?_); refine q_icmp_ne (tgt := 41) dX5_begin_36 (by decide) (by omega) (fun h36 => ?_) (fun h36 => ?_)) | ((with_reducible refine mk_nn ?_); refine n_icmp_ne (tgt := 41) dX5_begin_36 (by decide) (by omega) (by omega) (fun h36 => ?_) (fun h36 => ?_)) | refine e_icmp_ne (tgt := 41) dX5_begin_36 (by decide) (fun h36 => ?_) (fun h36 => ?_)
                  · try first | contradiction | omega
                    all_goals
                      refine e_aload_n dX5_begin_41 rfl rfl ?_
                      refine e_getR dX5_begin_42 fl_X5_9 rfl (cv_w cm) ?_
                      refine e_iload_n dX5_begin_45 rfl rfl ?_
                      refine x_V1 (M' := mX9_isUp) dX5_begin_46 ml_X5_39 ok_X9_isUp (by decide) rfl im_X9_isUp se_X9_isUp (ct_X9_isUp cm iv hK (by omega)) (Nat.le_of_ble_eq_true rfl) (by decide) (Nat.le_of_ble_eq_true rfl) ?_
                      first | ((with_reducible refine mk_b ?_); refine b_if_eq (tgt := 81) dX5_begin_49 (by decide) (fun h49 => ?_) (fun h49 => ?_)) | ((with_reducible refine mk_ll ?_); refine m_if_eq (tgt := 81) dX5_begin_49 (by decide) (by omega) (by omega) (fun h49 => ?_) (fun h49 => ?_)) | ((with_reducible refine mk_lc ?_); refine l_if_eq (tgt := 81) dX5_begin_49 (by decide) (fun h49 => ?_) (fun h49 => ?_)) | ((with_reducible refine mk_n ?_); refine n_if_eq (tgt := 81) dX5_begin_49 (by decide) (by omega) (fun h49 => ?_) (fun h49 => ?_)) | refine e_if_eq (tgt := 81) dX5_begin_49 (by decide) (fun h49 => ?_) (fun h49 => ?_)
                      · try first | contradiction | omega | (simp only [decide_eq_true_eq, decide_eq_false_iff_not] at h49; omega)
                        all_goals
                          refine e_iconst (v := -1) dX5_begin_81 rfl ?_
                          refine e_ret (some _) rfl (r_int dX5_begin_82 rfl) ?_
                          exact kq rfl hF hK
                      · try first | contradiction | omega | (simp only [decide_eq_true_eq, decide_eq_false_iff_not] at h49; omega)
                        all_goals
                          refine e_aload_n dX5_begin_52 rfl rfl ?_
                          refine e_getR dX5_begin_53 fl_X5_9 rfl (cv_w cm) ?_
                          refine e_aload_n dX5_begin_56 rfl rfl ?_
                          refine e_getR dX5_begin_57 fl_X5_35 rfl (by first | exact cm_tow cm | exact cm_ctow cm (by omega) | assumption) ?_
                          refine e_iload dX5_begin_60 rfl ?_
                          refine e_iadE _ dX5_begin_62 ⟨by decide, by decide⟩ rfl rfl (by simp only [lenK]; omega) (by first | exact k_ow hK (by first | omega | (simp (disch := omega) only [upN_n, upN_s]; omega)) | exact k_cow hK (by omega) (by first | omega | (simp (disch := omega) only [upN_n, upN_s]; omega)) | assumption) ?_
                          refine x_V1 (M' := mX9_isUp) dX5_begin_63 ml_X5_39 ok_X9_isUp (by decide) rfl im_X9_isUp se_X9_isUp (ct_X9_isUp cm iv hK (by omega)) (Nat.le_of_ble_eq_true rfl) (by decide) (Nat.le_of_ble_eq_true rfl) ?_
                          first | ((with_reducible refine mk_b ?_); refine b_if_eq (tgt := 81) dX5_begin_66 (by decide) (fun h66 => ?_) (fun h66 => ?_)) | ((with_reducible refine mk_ll ?_); refine m_if_eq (tgt := 81) dX5_begin_66 (by decide) (by omega) (by omega) (fun h66 => ?_) (fun h66 => ?_)) | ((with_reducible refine mk_lc ?_); refine l_if_eq (tgt := 81) dX5_begin_66 (by decide) (fun h66 => ?_) (fun h66 => ?_)) | ((with_reducible refine mk_n ?_); refine n_if_eq (tgt := 81) dX5_begin_66 (by decide) (by omega) (fun h66 => ?_) (fun h66 => ?_)) | refine e_if_eq (tgt := 81) dX5_begin_66 (by decide) (fun h66 => ?_) (fun h66 => ?_)
                          · try first | contradiction | omega | (simp only [decide_eq_true_eq, decide_eq_false_iff_not] at h66; omega)
                            all_goals
                              refine e_iconst (v := -1) dX5_begin_81 rfl ?_
                              refine e_ret (some _) rfl (r_int dX5_begin_82 rfl) ?_
                              exact kq rfl hF hK
                          · try first | contradiction | omega | (simp only [decide_eq_true_eq, decide_eq_false_iff_not] at h66; omega)
                            all_goals
                              refine e_aload_n dX5_begin_69 rfl rfl ?_
                              refine e_getR dX5_begin_70 fl_X5_9 rfl (cv_w cm) ?_
                              refine e_iload_n dX5_begin_73 rfl rfl ?_
                              refine x_V1 (M' := mX9_moveAt) dX5_begin_74 ml_X5_42 ok_X9_moveAt (by decide) rfl im_X9_moveAt se_X9_moveAt (ct_X9_moveAt cm iv hK (by omega)) (Nat.le_of_ble_eq_true rfl) (by decide) (Nat.le_of_ble_eq_true rfl) ?_
                              rw [hmv, oI_s]
                              refine e_iconst (v := -1) dX5_begin_77 rfl ?_
                              first | ((with_reducible refine mk_mo ?_); refine p_icmp_eq (tgt := 83) dX5_begin_78 (by decide) (fun h78 => ?_) (fun h78 => ?_)) | ((with_reducible refine mk_ms ?_); refine s_icmp_eq (tgt := 83) dX5_begin_78 (by decide) (by omega) (fun h78 => ?_) (fun h78 => ?_)) | ((with_reducible refine mk_mn ?_); refine q_icmp_eq (tgt := 83) dX5_begin_78 (by decide) (by omega) (fun h78 => ?_) (fun h78 => ?_)) | ((with_reducible refine mk_nn ?_); refine n_icmp_eq (tgt := 83) dX5_begin_78 (by decide) (by omega) (by omega) (fun h78 => ?_) (fun h78 => ?_)) | refine e_icmp_eq (tgt := 83) dX5_begin_78 (by decide) (fun h78 => ?_) (fun h78 => ?_)
                              · try first | contradiction | omega
                                all_goals
                                  contradiction
                              · try first | contradiction | omega
                                all_goals
                                  refine e_iconst (v := -1) dX5_begin_81 rfl ?_
                                  refine e_ret (some _) rfl (r_int dX5_begin_82 rfl) ?_
                                  exact kq rfl hF hK
                  · try first | contradiction | omega
                    all_goals
                      refine e_iconst (v := -1) dX5_begin_39 rfl ?_
                      refine e_ret (some _) rfl (r_int dX5_begin_40 rfl) ?_
                      exact kq rfl hF hK
        | none =>
          refine e_aload_n dX5_begin_0 rfl rfl ?_
          refine e_getR dX5_begin_1 fl_X5_9 rfl (cv_w cm) ?_
          refine e_getR dX5_begin_4 fl_X5_19 rfl (cm_map cm) ?_
          refine e_astore_n dX5_begin_7 rfl (Nat.le_of_ble_eq_true rfl) rfl ?_
          refine e_aload_n dX5_begin_8 rfl rfl ?_
          refine e_iload_n dX5_begin_9 rfl rfl ?_
          refine x_V1 (M' := mX8_indexOfLow) dX5_begin_10 ml_X5_25 ok_X8_indexOfLow (by decide) rfl im_X8_indexOfLow se_X8_indexOfLow (ct_X8_indexOfLow cm iv hK _) (Nat.le_of_ble_eq_true rfl) (by decide) (Nat.le_of_ble_eq_true rfl) ?_
          rw [hq, oI_s]
          refine e_istore dX5_begin_13 (Nat.le_of_ble_eq_true rfl) rfl ?_
          refine e_iload dX5_begin_15 rfl ?_
          refine e_iconst (v := -1) dX5_begin_17 rfl ?_
          first | ((with_reducible refine mk_mo ?_); refine p_icmp_eq (tgt := 39) dX5_begin_18 (by decide) (fun h18 => ?_) (fun h18 => ?_)) | ((with_reducible refine mk_ms ?_); refine s_icmp_eq (tgt := 39) dX5_begin_18 (by decide) (by omega) (fun h18 => ?_) (fun h18 => ?_)) | ((with_reducible refine mk_mn ?_); refine q_icmp_eq (tgt := 39) dX5_begin_18 (by decide) (by omega) (fun h18 => ?_) (fun h18 => ?_)) | ((with_reducible refine mk_nn ?_); refine n_icmp_eq (tgt := 39) dX5_begin_18 (by decide) (by omega) (by omega) (fun h18 => ?_) (fun h18 => ?_)) | refine e_icmp_eq (tgt := 39) dX5_begin_18 (by decide) (fun h18 => ?_) (fun h18 => ?_)
          · try first | contradiction | omega
            all_goals
              refine e_iconst (v := -1) dX5_begin_39 rfl ?_
              refine e_ret (some _) rfl (r_int dX5_begin_40 rfl) ?_
              exact kq rfl hF hK
          · try first | contradiction | omega
            all_goals
              refine e_iload_n dX5_begin_21 rfl rfl ?_
              refine x_N1 (M' := mX10_isServer) dX5_begin_22 (List.mem_of_getElem? (i := 8) rfl) ok_X10_isServer sc_X10_isServer (ct_X10_isServer _) (Nat.le_of_ble_eq_true rfl) (by decide) (Nat.le_of_ble_eq_true rfl) ?_
              rw [hy]
              first | ((with_reducible refine mk_b ?_); refine b_if_eq (tgt := 39) dX5_begin_25 (by decide) (fun h25 => ?_) (fun h25 => ?_)) | ((with_reducible refine mk_ll ?_); refine m_if_eq (tgt := 39) dX5_begin_25 (by decide) (by omega) (by omega) (fun h25 => ?_) (fun h25 => ?_)) | ((with_reducible refine mk_lc ?_); refine l_if_eq (tgt := 39) dX5_begin_25 (by decide) (fun h25 => ?_) (fun h25 => ?_)) | ((with_reducible refine mk_n ?_); refine n_if_eq (tgt := 39) dX5_begin_25 (by decide) (by omega) (fun h25 => ?_) (fun h25 => ?_)) | refine e_if_eq (tgt := 39) dX5_begin_25 (by decide) (fun h25 => ?_) (fun h25 => ?_)
              · try first | contradiction | omega | (simp only [decide_eq_true_eq, decide_eq_false_iff_not] at h25; omega)
                all_goals
                  refine e_iconst (v := -1) dX5_begin_39 rfl ?_
                  refine e_ret (some _) rfl (r_int dX5_begin_40 rfl) ?_
                  exact kq rfl hF hK
              · try first | contradiction | omega | (simp only [decide_eq_true_eq, decide_eq_false_iff_not] at h25; omega)
                all_goals
                  refine e_iload_n dX5_begin_28 rfl rfl ?_
                  refine e_aload_n dX5_begin_29 rfl rfl ?_
                  refine e_getR dX5_begin_30 fl_X5_35 rfl (by first | exact cm_tow cm | exact cm_ctow cm (by omega) | assumption) ?_
                  refine e_iload dX5_begin_33 rfl ?_
                  refine e_iadE _ dX5_begin_35 ⟨by decide, by decide⟩ rfl rfl (by simp only [lenK]; omega) (by first | exact k_ow hK (by first | omega | (simp (disch := omega) only [upN_n, upN_s]; omega)) | exact k_cow hK (by omega) (by first | omega | (simp (disch := omega) only [upN_n, upN_s]; omega)) | assumption) ?_
                  first | ((with_reducible refine mk_mo ?_); refine p_icmp_ne (tgt := 41) dX5_begin_36 (by decide) (fun h36 => ?_) (fun h36 => ?_)) | ((with_reducible refine mk_ms ?_); refine s_icmp_ne (tgt := 41) dX5_begin_36 (by decide) (by omega) (fun h36 => ?_) (fun h36 => ?_)) | ((with_reducible refine mk_mn ?_); refine q_icmp_ne (tgt := 41) dX5_begin_36 (by decide) (by omega) (fun h36 => ?_) (fun h36 => ?_)) | ((with_reducible refine mk_nn ?_); refine n_icmp_ne (tgt := 41) dX5_begin_36 (by decide) (by omega) (by omega) (fun h36 => ?_) (fun h36 => ?_)) | refine e_icmp_ne (tgt := 41) dX5_begin_36 (by decide) (fun h36 => ?_) (fun h36 => ?_)
                  · try first | contradiction | omega
                    all_goals
                      refine e_aload_n dX5_begin_41 rfl rfl ?_
                      refine e_getR dX5_begin_42 fl_X5_9 rfl (cv_w cm) ?_
                      refine e_iload_n dX5_begin_45 rfl rfl ?_
                      refine x_V1 (M' := mX9_isUp) dX5_begin_46 ml_X5_39 ok_X9_isUp (by decide) rfl im_X9_isUp se_X9_isUp (ct_X9_isUp cm iv hK (by omega)) (Nat.le_of_ble_eq_true rfl) (by decide) (Nat.le_of_ble_eq_true rfl) ?_
                      first | ((with_reducible refine mk_b ?_); refine b_if_eq (tgt := 81) dX5_begin_49 (by decide) (fun h49 => ?_) (fun h49 => ?_)) | ((with_reducible refine mk_ll ?_); refine m_if_eq (tgt := 81) dX5_begin_49 (by decide) (by omega) (by omega) (fun h49 => ?_) (fun h49 => ?_)) | ((with_reducible refine mk_lc ?_); refine l_if_eq (tgt := 81) dX5_begin_49 (by decide) (fun h49 => ?_) (fun h49 => ?_)) | ((with_reducible refine mk_n ?_); refine n_if_eq (tgt := 81) dX5_begin_49 (by decide) (by omega) (fun h49 => ?_) (fun h49 => ?_)) | refine e_if_eq (tgt := 81) dX5_begin_49 (by decide) (fun h49 => ?_) (fun h49 => ?_)
                      · try first | contradiction | omega | (simp only [decide_eq_true_eq, decide_eq_false_iff_not] at h49; omega)
                        all_goals
                          refine e_iconst (v := -1) dX5_begin_81 rfl ?_
                          refine e_ret (some _) rfl (r_int dX5_begin_82 rfl) ?_
                          exact kq rfl hF hK
                      · try first | contradiction | omega | (simp only [decide_eq_true_eq, decide_eq_false_iff_not] at h49; omega)
                        all_goals
                          refine e_aload_n dX5_begin_52 rfl rfl ?_
                          refine e_getR dX5_begin_53 fl_X5_9 rfl (cv_w cm) ?_
                          refine e_aload_n dX5_begin_56 rfl rfl ?_
                          refine e_getR dX5_begin_57 fl_X5_35 rfl (by first | exact cm_tow cm | exact cm_ctow cm (by omega) | assumption) ?_
                          refine e_iload dX5_begin_60 rfl ?_
                          refine e_iadE _ dX5_begin_62 ⟨by decide, by decide⟩ rfl rfl (by simp only [lenK]; omega) (by first | exact k_ow hK (by first | omega | (simp (disch := omega) only [upN_n, upN_s]; omega)) | exact k_cow hK (by omega) (by first | omega | (simp (disch := omega) only [upN_n, upN_s]; omega)) | assumption) ?_
                          refine x_V1 (M' := mX9_isUp) dX5_begin_63 ml_X5_39 ok_X9_isUp (by decide) rfl im_X9_isUp se_X9_isUp (ct_X9_isUp cm iv hK (by omega)) (Nat.le_of_ble_eq_true rfl) (by decide) (Nat.le_of_ble_eq_true rfl) ?_
                          first | ((with_reducible refine mk_b ?_); refine b_if_eq (tgt := 81) dX5_begin_66 (by decide) (fun h66 => ?_) (fun h66 => ?_)) | ((with_reducible refine mk_ll ?_); refine m_if_eq (tgt := 81) dX5_begin_66 (by decide) (by omega) (by omega) (fun h66 => ?_) (fun h66 => ?_)) | ((with_reducible refine mk_lc ?_); refine l_if_eq (tgt := 81) dX5_begin_66 (by decide) (fun h66 => ?_) (fun h66 => ?_)) | ((with_reducible refine mk_n ?_); refine n_if_eq (tgt := 81) dX5_begin_66 (by decide) (by omega) (fun h66 => ?_) (fun h66 => ?_)) | refine e_if_eq (tgt := 81) dX5_begin_66 (by decide) (fun h66 => ?_) (fun h66 => ?_)
                          · try first | contradiction | omega | (simp only [decide_eq_true_eq, decide_eq_false_iff_not] at h66; omega)
                            all_goals
                              refine e_iconst (v := -1) dX5_begin_81 rfl ?_
                              refine e_ret (some _) rfl (r_int dX5_begin_82 rfl) ?_
                              exact kq rfl hF hK
                          · try first | contradiction | omega | (simp only [decide_eq_true_eq, decide_eq_false_iff_not] at h66; omega)
                            all_goals
                              refine e_aload_n dX5_begin_69 rfl rfl ?_
                              refine e_getR dX5_begin_70 fl_X5_9 rfl (cv_w cm) ?_
                              refine e_iload_n dX5_begin_73 rfl rfl ?_
                              refine x_V1 (M' := mX9_moveAt) dX5_begin_74 ml_X5_42 ok_X9_moveAt (by decide) rfl im_X9_moveAt se_X9_moveAt (ct_X9_moveAt cm iv hK (by omega)) (Nat.le_of_ble_eq_true rfl) (by decide) (Nat.le_of_ble_eq_true rfl) ?_
                              rw [hmv]
                              refine e_iconst (v := -1) dX5_begin_77 rfl ?_
                              first | ((with_reducible refine mk_mo ?_); refine p_icmp_eq (tgt := 83) dX5_begin_78 (by decide) (fun h78 => ?_) (fun h78 => ?_)) | ((with_reducible refine mk_ms ?_); refine s_icmp_eq (tgt := 83) dX5_begin_78 (by decide) (by omega) (fun h78 => ?_) (fun h78 => ?_)) | ((with_reducible refine mk_mn ?_); refine q_icmp_eq (tgt := 83) dX5_begin_78 (by decide) (by omega) (fun h78 => ?_) (fun h78 => ?_)) | ((with_reducible refine mk_nn ?_); refine n_icmp_eq (tgt := 83) dX5_begin_78 (by decide) (by omega) (by omega) (fun h78 => ?_) (fun h78 => ?_)) | refine e_icmp_eq (tgt := 83) dX5_begin_78 (by decide) (fun h78 => ?_) (fun h78 => ?_)
                              · try first | contradiction | omega
                                all_goals
                                  refine e_aload_n dX5_begin_83 rfl rfl ?_
                                  refine e_getR dX5_begin_84 fl_X5_9 rfl (cv_w cm) ?_
                                  refine e_getE dX5_begin_87 fl_X5_45 rfl (k_mm hK) ?_
                                  refine e_bipush (v := nI 12) dX5_begin_90 rfl ?_
                                  first | ((with_reducible refine mk_nn ?_); refine n_icmp_ge (tgt := 106) dX5_begin_92 (by decide) (by omega) (by omega) (fun h92 => ?_) (fun h92 => ?_)) | refine e_icmp_ge (tgt := 106) dX5_begin_92 (by decide) (fun h92 => ?_) (fun h92 => ?_)
                                  · try first | contradiction | omega
                                    all_goals
                                      refine e_iconst (v := -1) dX5_begin_106 rfl ?_
                                      refine e_ret (some _) rfl (r_int dX5_begin_107 rfl) ?_
                                      exact kq rfl hF hK
                                  · try first | contradiction | omega
                                    all_goals
                                      refine e_aload_n dX5_begin_95 rfl rfl ?_
                                      refine e_getR dX5_begin_96 fl_X5_9 rfl (cv_w cm) ?_
                                      refine x_V0 (M' := mX9_movesGoingOn) dX5_begin_99 ml_X5_49 ok_X9_movesGoingOn (by decide) rfl im_X9_movesGoingOn se_X9_movesGoingOn (ct_X9_movesGoingOn cm iv hK) (Nat.le_of_ble_eq_true rfl) (by decide) (Nat.le_of_ble_eq_true rfl) ?_
                                      refine e_iconst (v := nI 4) dX5_begin_102 rfl ?_
                                      first | ((with_reducible refine mk_nn ?_); refine n_icmp_lt (tgt := 108) dX5_begin_103 (by decide) (by omega) (by omega) (fun h103 => ?_) (fun h103 => ?_)) | refine e_icmp_lt (tgt := 108) dX5_begin_103 (by decide) (fun h103 => ?_) (fun h103 => ?_)
                                      · try first | contradiction | omega
                                        all_goals
                                          exfalso; simp only [decide_eq_true_eq] at h49 h66; have : movC w i s = true := (by unfold movC; rw [hmv, decide_eq_true (show w (42 + i) ≠ s by omega), decide_eq_true (show w (4 + s) ≠ 0 by omega), decide_eq_true (show w (4 + w (42 + i)) ≠ 0 by omega), decide_eq_true (show w 3 ≠ 12 by omega), decide_eq_true (show cnt (goB w) (w 3) ≠ 4 by omega)]; rfl); rw [this] at hmc; exact absurd hmc (by decide)
                                      · try first | contradiction | omega
                                        all_goals
                                          refine e_iconst (v := -1) dX5_begin_106 rfl ?_
                                          refine e_ret (some _) rfl (r_int dX5_begin_107 rfl) ?_
                                          exact kq rfl hF hK
                              · try first | contradiction | omega
                                all_goals
                                  refine e_iconst (v := -1) dX5_begin_81 rfl ?_
                                  refine e_ret (some _) rfl (r_int dX5_begin_82 rfl) ?_
                                  exact kq rfl hF hK
                  · try first | contradiction | omega
                    all_goals
                      refine e_iconst (v := -1) dX5_begin_39 rfl ?_
                      refine e_ret (some _) rfl (r_int dX5_begin_40 rfl) ?_
                      exact kq rfl hF hK
      | true =>
        have eb : mvB w (some i) (nI s) = true := ebb.trans hmc
        have e1 : mvR w (some i) (nI s) = nI (w 3) := by unfold mvR; rw [eb]; rfl
        have e2 : mvW w (some i) (nI s) = movW w i s := by unfold mvW; rw [eb, if_pos rfl, nI_clamp hs2]
        rw [e1, e2]
        unfold movC at hmc
        simp only [Bool.and_eq_true, decide_eq_true_eq] at hmc
        obtain ⟨⟨⟨⟨⟨c1, c2⟩, c3⟩, c4⟩, c5⟩, c6⟩ := hmc
        have hmv : mvL w (w (10 + i)) = none := by cases q : mvL w (w (10 + i)) <;> simp_all
        have d1 : decide (w (4 + s) = 1) = true := decide_eq_true (by omega)
        have d2 : decide (w (4 + w (42 + i)) = 1) = true := decide_eq_true (by omega)
        refine e_aload_n dX5_begin_0 rfl rfl ?_
        refine e_getR dX5_begin_1 fl_X5_9 rfl (cv_w cm) ?_
        refine e_getR dX5_begin_4 fl_X5_19 rfl (cm_map cm) ?_
        refine e_astore_n dX5_begin_7 rfl (Nat.le_of_ble_eq_true rfl) rfl ?_
        refine e_aload_n dX5_begin_8 rfl rfl ?_
        refine e_iload_n dX5_begin_9 rfl rfl ?_
        refine x_V1 (M' := mX8_indexOfLow) dX5_begin_10 ml_X5_25 ok_X8_indexOfLow (by decide) rfl im_X8_indexOfLow se_X8_indexOfLow (ct_X8_indexOfLow cm iv hK _) (Nat.le_of_ble_eq_true rfl) (by decide) (Nat.le_of_ble_eq_true rfl) ?_
        rw [hq, oI_s]
        refine e_istore dX5_begin_13 (Nat.le_of_ble_eq_true rfl) rfl ?_
        refine e_iload dX5_begin_15 rfl ?_
        refine e_iconst (v := -1) dX5_begin_17 rfl ?_
        first | ((with_reducible refine mk_mo ?_); refine p_icmp_eq (tgt := 39) dX5_begin_18 (by decide) (fun h18 => ?_) (fun h18 => ?_)) | ((with_reducible refine mk_ms ?_); refine s_icmp_eq (tgt := 39) dX5_begin_18 (by decide) (by omega) (fun h18 => ?_) (fun h18 => ?_)) | ((with_reducible refine mk_mn ?_); refine q_icmp_eq (tgt := 39) dX5_begin_18 (by decide) (by omega) (fun h18 => ?_) (fun h18 => ?_)) | ((with_reducible refine mk_nn ?_); refine n_icmp_eq (tgt := 39) dX5_begin_18 (by decide) (by omega) (by omega) (fun h18 => ?_) (fun h18 => ?_)) | refine e_icmp_eq (tgt := 39) dX5_begin_18 (by decide) (fun h18 => ?_) (fun h18 => ?_)
        · try first | contradiction | omega
          all_goals
            omega
        · try first | contradiction | omega
          all_goals
            refine e_iload_n dX5_begin_21 rfl rfl ?_
            refine x_N1 (M' := mX10_isServer) dX5_begin_22 (List.mem_of_getElem? (i := 8) rfl) ok_X10_isServer sc_X10_isServer (ct_X10_isServer _) (Nat.le_of_ble_eq_true rfl) (by decide) (Nat.le_of_ble_eq_true rfl) ?_
            rw [hy]
            first | ((with_reducible refine mk_b ?_); refine b_if_eq (tgt := 39) dX5_begin_25 (by decide) (fun h25 => ?_) (fun h25 => ?_)) | ((with_reducible refine mk_ll ?_); refine m_if_eq (tgt := 39) dX5_begin_25 (by decide) (by omega) (by omega) (fun h25 => ?_) (fun h25 => ?_)) | ((with_reducible refine mk_lc ?_); refine l_if_eq (tgt := 39) dX5_begin_25 (by decide) (fun h25 => ?_) (fun h25 => ?_)) | ((with_reducible refine mk_n ?_); refine n_if_eq (tgt := 39) dX5_begin_25 (by decide) (by omega) (fun h25 => ?_) (fun h25 => ?_)) | refine e_if_eq (tgt := 39) dX5_begin_25 (by decide) (fun h25 => ?_) (fun h25 => ?_)
            · try first | contradiction | omega | (simp only [decide_eq_true_eq, decide_eq_false_iff_not] at h25; omega)
              all_goals
                omega
            · try first | contradiction | omega | (simp only [decide_eq_true_eq, decide_eq_false_iff_not] at h25; omega)
              all_goals
                refine e_iload_n dX5_begin_28 rfl rfl ?_
                refine e_aload_n dX5_begin_29 rfl rfl ?_
                refine e_getR dX5_begin_30 fl_X5_35 rfl (by first | exact cm_tow cm | exact cm_ctow cm (by omega) | assumption) ?_
                refine e_iload dX5_begin_33 rfl ?_
                refine e_iadE _ dX5_begin_35 ⟨by decide, by decide⟩ rfl rfl (by simp only [lenK]; omega) (by first | exact k_ow hK (by first | omega | (simp (disch := omega) only [upN_n, upN_s]; omega)) | exact k_cow hK (by omega) (by first | omega | (simp (disch := omega) only [upN_n, upN_s]; omega)) | assumption) ?_
                first | ((with_reducible refine mk_mo ?_); refine p_icmp_ne (tgt := 41) dX5_begin_36 (by decide) (fun h36 => ?_) (fun h36 => ?_)) | ((with_reducible refine mk_ms ?_); refine s_icmp_ne (tgt := 41) dX5_begin_36 (by decide) (by omega) (fun h36 => ?_) (fun h36 => ?_)) | ((with_reducible refine mk_mn ?_); refine q_icmp_ne (tgt := 41) dX5_begin_36 (by decide) (by omega) (fun h36 => ?_) (fun h36 => ?_)) | ((with_reducible refine mk_nn ?_); refine n_icmp_ne (tgt := 41) dX5_begin_36 (by decide) (by omega) (by omega) (fun h36 => ?_) (fun h36 => ?_)) | refine e_icmp_ne (tgt := 41) dX5_begin_36 (by decide) (fun h36 => ?_) (fun h36 => ?_)
                · try first | contradiction | omega
                  all_goals
                    refine e_aload_n dX5_begin_41 rfl rfl ?_
                    refine e_getR dX5_begin_42 fl_X5_9 rfl (cv_w cm) ?_
                    refine e_iload_n dX5_begin_45 rfl rfl ?_
                    refine x_V1 (M' := mX9_isUp) dX5_begin_46 ml_X5_39 ok_X9_isUp (by decide) rfl im_X9_isUp se_X9_isUp (ct_X9_isUp cm iv hK (by omega)) (Nat.le_of_ble_eq_true rfl) (by decide) (Nat.le_of_ble_eq_true rfl) ?_
                    rw [d1]
                    first | ((with_reducible refine mk_b ?_); refine b_if_eq (tgt := 81) dX5_begin_49 (by decide) (fun h49 => ?_) (fun h49 => ?_)) | ((with_reducible refine mk_ll ?_); refine m_if_eq (tgt := 81) dX5_begin_49 (by decide) (by omega) (by omega) (fun h49 => ?_) (fun h49 => ?_)) | ((with_reducible refine mk_lc ?_); refine l_if_eq (tgt := 81) dX5_begin_49 (by decide) (fun h49 => ?_) (fun h49 => ?_)) | ((with_reducible refine mk_n ?_); refine n_if_eq (tgt := 81) dX5_begin_49 (by decide) (by omega) (fun h49 => ?_) (fun h49 => ?_)) | refine e_if_eq (tgt := 81) dX5_begin_49 (by decide) (fun h49 => ?_) (fun h49 => ?_)
                    · try first | contradiction | omega | (simp only [decide_eq_true_eq, decide_eq_false_iff_not] at h49; omega)
                      all_goals
                        contradiction
                    · try first | contradiction | omega | (simp only [decide_eq_true_eq, decide_eq_false_iff_not] at h49; omega)
                      all_goals
                        refine e_aload_n dX5_begin_52 rfl rfl ?_
                        refine e_getR dX5_begin_53 fl_X5_9 rfl (cv_w cm) ?_
                        refine e_aload_n dX5_begin_56 rfl rfl ?_
                        refine e_getR dX5_begin_57 fl_X5_35 rfl (by first | exact cm_tow cm | exact cm_ctow cm (by omega) | assumption) ?_
                        refine e_iload dX5_begin_60 rfl ?_
                        refine e_iadE _ dX5_begin_62 ⟨by decide, by decide⟩ rfl rfl (by simp only [lenK]; omega) (by first | exact k_ow hK (by first | omega | (simp (disch := omega) only [upN_n, upN_s]; omega)) | exact k_cow hK (by omega) (by first | omega | (simp (disch := omega) only [upN_n, upN_s]; omega)) | assumption) ?_
                        refine x_V1 (M' := mX9_isUp) dX5_begin_63 ml_X5_39 ok_X9_isUp (by decide) rfl im_X9_isUp se_X9_isUp (ct_X9_isUp cm iv hK (by omega)) (Nat.le_of_ble_eq_true rfl) (by decide) (Nat.le_of_ble_eq_true rfl) ?_
                        rw [d2]
                        first | ((with_reducible refine mk_b ?_); refine b_if_eq (tgt := 81) dX5_begin_66 (by decide) (fun h66 => ?_) (fun h66 => ?_)) | ((with_reducible refine mk_ll ?_); refine m_if_eq (tgt := 81) dX5_begin_66 (by decide) (by omega) (by omega) (fun h66 => ?_) (fun h66 => ?_)) | ((with_reducible refine mk_lc ?_); refine l_if_eq (tgt := 81) dX5_begin_66 (by decide) (fun h66 => ?_) (fun h66 => ?_)) | ((with_reducible refine mk_n ?_); refine n_if_eq (tgt := 81) dX5_begin_66 (by decide) (by omega) (fun h66 => ?_) (fun h66 => ?_)) | refine e_if_eq (tgt := 81) dX5_begin_66 (by decide) (fun h66 => ?_) (fun h66 => ?_)
                        · try first | contradiction | omega | (simp only [decide_eq_true_eq, decide_eq_false_iff_not] at h66; omega)
                          all_goals
                            contradiction
                        · try first | contradiction | omega | (simp only [decide_eq_true_eq, decide_eq_false_iff_not] at h66; omega)
                          all_goals
                            refine e_aload_n dX5_begin_69 rfl rfl ?_
                            refine e_getR dX5_begin_70 fl_X5_9 rfl (cv_w cm) ?_
                            refine e_iload_n dX5_begin_73 rfl rfl ?_
                            refine x_V1 (M' := mX9_moveAt) dX5_begin_74 ml_X5_42 ok_X9_moveAt (by decide) rfl im_X9_moveAt se_X9_moveAt (ct_X9_moveAt cm iv hK (by omega)) (Nat.le_of_ble_eq_true rfl) (by decide) (Nat.le_of_ble_eq_true rfl) ?_
                            rw [hmv]
                            refine e_iconst (v := -1) dX5_begin_77 rfl ?_
                            first | ((with_reducible refine mk_mo ?_); refine p_icmp_eq (tgt := 83) dX5_begin_78 (by decide) (fun h78 => ?_) (fun h78 => ?_)) | ((with_reducible refine mk_ms ?_); refine s_icmp_eq (tgt := 83) dX5_begin_78 (by decide) (by omega) (fun h78 => ?_) (fun h78 => ?_)) | ((with_reducible refine mk_mn ?_); refine q_icmp_eq (tgt := 83) dX5_begin_78 (by decide) (by omega) (fun h78 => ?_) (fun h78 => ?_)) | ((with_reducible refine mk_nn ?_); refine n_icmp_eq (tgt := 83) dX5_begin_78 (by decide) (by omega) (by omega) (fun h78 => ?_) (fun h78 => ?_)) | refine e_icmp_eq (tgt := 83) dX5_begin_78 (by decide) (fun h78 => ?_) (fun h78 => ?_)
                            · try first | contradiction | omega
                              all_goals
                                refine e_aload_n dX5_begin_83 rfl rfl ?_
                                refine e_getR dX5_begin_84 fl_X5_9 rfl (cv_w cm) ?_
                                refine e_getE dX5_begin_87 fl_X5_45 rfl (k_mm hK) ?_
                                refine e_bipush (v := nI 12) dX5_begin_90 rfl ?_
                                first | ((with_reducible refine mk_nn ?_); refine n_icmp_ge (tgt := 106) dX5_begin_92 (by decide) (by omega) (by omega) (fun h92 => ?_) (fun h92 => ?_)) | refine e_icmp_ge (tgt := 106) dX5_begin_92 (by decide) (fun h92 => ?_) (fun h92 => ?_)
                                · try first | contradiction | omega
                                  all_goals
                                    omega
                                · try first | contradiction | omega
                                  all_goals
                                    refine e_aload_n dX5_begin_95 rfl rfl ?_
                                    refine e_getR dX5_begin_96 fl_X5_9 rfl (cv_w cm) ?_
                                    refine x_V0 (M' := mX9_movesGoingOn) dX5_begin_99 ml_X5_49 ok_X9_movesGoingOn (by decide) rfl im_X9_movesGoingOn se_X9_movesGoingOn (ct_X9_movesGoingOn cm iv hK) (Nat.le_of_ble_eq_true rfl) (by decide) (Nat.le_of_ble_eq_true rfl) ?_
                                    refine e_iconst (v := nI 4) dX5_begin_102 rfl ?_
                                    first | ((with_reducible refine mk_nn ?_); refine n_icmp_lt (tgt := 108) dX5_begin_103 (by decide) (by omega) (by omega) (fun h103 => ?_) (fun h103 => ?_)) | refine e_icmp_lt (tgt := 108) dX5_begin_103 (by decide) (fun h103 => ?_) (fun h103 => ?_)
                                    · try first | contradiction | omega
                                      all_goals
                                        refine e_aload_n dX5_begin_108 rfl rfl ?_
                                        refine e_getR dX5_begin_109 fl_X5_9 rfl (cv_w cm) ?_
                                        refine e_getE dX5_begin_112 fl_X5_45 rfl (k_mm hK) ?_
                                        refine e_istore dX5_begin_115 (Nat.le_of_ble_eq_true rfl) rfl ?_
                                        refine e_aload_n dX5_begin_117 rfl rfl ?_
                                        refine e_getR dX5_begin_118 fl_X5_9 rfl (cv_w cm) ?_
                                        refine e_getR dX5_begin_121 fl_X5_53 rfl (cm_mvs cm) ?_
                                        refine e_iload dX5_begin_124 rfl ?_
                                        refine e_aald _ dX5_begin_126 ⟨by decide, by decide⟩ rfl rfl (by simp only [lenK]; omega) (cm_mo cm (by omega)) ?_
                                        refine e_iload_n dX5_begin_127 rfl rfl ?_
                                        refine e_aload_n dX5_begin_128 rfl rfl ?_
                                        refine e_iload dX5_begin_129 rfl ?_
                                        refine x_V1 (M' := mX8_endOf) dX5_begin_131 ml_X5_57 ok_X8_endOf (by decide) rfl im_X8_endOf se_X8_endOf (ct_X8_endOf cm iv hK (by omega)) (Nat.le_of_ble_eq_true rfl) (by decide) (Nat.le_of_ble_eq_true rfl) ?_
                                        refine e_aload_n dX5_begin_134 rfl rfl ?_
                                        refine e_getR dX5_begin_135 fl_X5_35 rfl (by first | exact cm_tow cm | exact cm_ctow cm (by omega) | assumption) ?_
                                        refine e_iload dX5_begin_138 rfl ?_
                                        refine e_iadE _ dX5_begin_140 ⟨by decide, by decide⟩ rfl rfl (by simp only [lenK]; omega) (by first | exact k_ow hK (by first | omega | (simp (disch := omega) only [upN_n, upN_s]; omega)) | exact k_cow hK (by omega) (by first | omega | (simp (disch := omega) only [upN_n, upN_s]; omega)) | assumption) ?_
                                        refine e_iload_n dX5_begin_141 rfl rfl ?_
                                        refine my_V4 (M' := mX4_begin) dX5_begin_142 ml_X5_60 ok_X4_begin (by decide) rfl im_X4_begin se_X4_begin (ct_X4_begin) (Nat.le_of_ble_eq_true rfl) (by decide) (Nat.le_of_ble_eq_true rfl) (fun fi142 ai142 hR => ?_)
                                        obtain ⟨hai, b1, b2⟩ := hR
                                        rw [hai]
                                        refine e_aload_n dX5_begin_145 rfl rfl ?_
                                        refine e_getR dX5_begin_146 fl_X5_9 rfl (cv_w cm) ?_
                                        refine e_dup dX5_begin_149 rfl ?_
                                        refine e_getE dX5_begin_150 fl_X5_45 rfl ((b2 _ _ (rf_ne (by decide) (by decide) (by omega))).trans (k_mm hK)) ?_
                                        refine e_iconst (v := nI 1) dX5_begin_153 rfl ?_
                                        first | ((with_reducible refine mk_nn ?_); refine n_iadd dX5_begin_154 ?_) | refine e_iadd dX5_begin_154 ?_
                                        refine e_pg dX5_begin_155 fl_X5_45 rfl rfl rfl rfl (fun fi155 g155 o155 => ?_)
                                        have hF : FR1 fi ai fi155 ai := ⟨fun f r hr => (o155 f r (fun e => by rw [e.2, rf_div (by decide)] at hr; omega)).trans (b2 f r (fun e => by rw [e, rf_div (by decide)] at hr; omega)), fun _ _ => rfl⟩
                                        have hK := k_mov (s := s) (i := i) iv hK (by omega) (fun f a b => (o155 _ _ (fun e => absurd e.2 (rf_ne (by decide) (by decide) (by omega)))).trans (b1 f a b)) g155 (fun f r x y => (o155 f r y).trans (b2 f r x))
                                        have bd : Bd (mo3 w i s) := ⟨by rw [mo3_fr (by omega) (by omega)]; exact bd.1, by unfold mo3; rw [upN_s]; omega, fun c hc => by rw [mo3_fr (by omega) (by omega)]; exact bd.2.2.1 c hc, fun m hm => by
                                          have n3 : mo3 w i s 3 = w 3 + 1 := upN_s _ _ _
                                          rw [n3] at hm
                                          by_cases e : m = w 3
                                          · rw [e, mo3_new (by omega) (by omega)]; exact Nat.zero_le _
                                          · rw [mo3_fr (by omega) (by omega)]; exact bd.2.2.2 m (by omega)⟩
                                        refine e_aload_n dX5_begin_158 rfl rfl ?_
                                        refine e_getR dX5_begin_159 fl_X5_15 rfl (cv_l cm) ?_
                                        refine e_bipush (v := nI 8) dX5_begin_162 rfl ?_
                                        refine e_iconst (v := nI 1) dX5_begin_164 rfl ?_
                                        refine ky_V2 (M' := mX3_add) dX5_begin_165 ml_X5_66 ok_X3_add (by decide) rfl im_X3_add se_X3_add (ct_X3_add cm bd hK (by omega)) (Nat.le_of_ble_eq_true rfl) (by decide) (Nat.le_of_ble_eq_true rfl) (fun fi ai hG hK => ?_)
                                        have hF := FR1_tr hF hG
                                        refine e_iload dX5_begin_168 rfl ?_
                                        refine e_ret (some _) rfl (r_int dX5_begin_170 rfl) ?_
                                        refine kq rfl hF (K_eq hK ?_)
                                        rw [mo3_fr (q := 8558 + 8) (by omega) (by omega)]; rfl
                                    · try first | contradiction | omega
                                      all_goals
                                        omega
                            · try first | contradiction | omega
                              all_goals
                                contradiction
                · try first | contradiction | omega
                  all_goals
                    omega
theorem ct_X5_copySome {fi : FI} {fr : FR} {ai : FI} {ar : FR} {N : Nat} {w lg : Nat → Nat} {E : Nat} (cm : CM fr ar) (iv : Inv w) (hK : K fi ai w lg E) {m ch : Nat} (hm : m < w 3) (hch : ch ≤ 16) : CP mX5_copySome 1 0 0 [.ref (rf 5 73), .ref (rf 4 (34 + 2 * m)), .int (nI ch)] fi fr ai ar N (kQ (some (.int (nI (govN w m ch false)))) fi fr ai ar N (fun fi ai => K fi ai (govW w m ch false) lg E)) := by
  have h1 := iv_n iv
  have h3 := iv_mm iv
  have bd := Bd_iv iv
  have hF : FR1 fi ai fi ai := FR1_rf
  have hq := iv_mv iv hm
  change EV mX5_copySome 1 0 0 0 [some (.ref (rf 5 73)), some (.ref (rf 4 (34 + 2 * m))), some (.int (nI ch)), none, none, none] [] fi fr ai ar N (kQ (some (.int (nI (govN w m ch false)))) fi fr ai ar N (fun fi ai => K fi ai (govW w m ch false) lg E))
  have ex : ∀ fi2 ai2 y z, FR1 fi ai fi2 ai2 → K fi2 ai2 (goS w m ch false (w (7694 + 72 * m + 2) - w (7694 + 72 * m + 5))).1 lg E → EV mX5_copySome 1 0 0 74 [some (.ref (rf 5 73)), some (.ref (rf 4 (34 + 2 * m))), some (.int (nI ch)), some (.int (nI (goS w m ch false (w (7694 + 72 * m + 2) - w (7694 + 72 * m + 5))).2)), y, z] [] fi2 fr ai2 ar N (kQ (some (.int (nI (govN w m ch false)))) fi fr ai ar N (fun fi ai => K fi ai (govW w m ch false) lg E)) := by
    intro fi2 ai2 y z hF hK
    obtain ⟨g1, -⟩ := goS_in iv (ch := ch) (cl := false) hm (w (7694 + 72 * m + 2) - w (7694 + 72 * m + 5)) (by omega)
    have bd : Bd (goS w m ch false (w (7694 + 72 * m + 2) - w (7694 + 72 * m + 5))).1 := Bd_sm (g1 1 (by omega) (by omega)) (g1 3 (by omega) (by omega)) (fun c hc => g1 _ (by omega) (by omega)) (fun m2 hm2 => g1 _ (by omega) (by omega)) bd
    refine e_aload_n dX5_copySome_74 rfl rfl ?_
    refine e_getR dX5_copySome_75 fl_X5_15 rfl (cv_l cm) ?_
    refine e_bipush (v := nI 13) dX5_copySome_78 rfl ?_
    refine e_iload_n dX5_copySome_80 rfl rfl ?_
    refine ky_V2 (M' := mX3_add) dX5_copySome_81 ml_X5_66 ok_X3_add (by decide) rfl im_X3_add se_X3_add (ct_X3_add cm bd hK (by omega)) (Nat.le_of_ble_eq_true rfl) (by decide) (Nat.le_of_ble_eq_true rfl) (fun fi ai hG hK => ?_)
    have hF := FR1_tr hF hG
    refine e_iload_n dX5_copySome_84 rfl rfl ?_
    refine e_ret (some _) rfl (r_int dX5_copySome_85 rfl) ?_
    refine kq rfl hF (K_eq hK ?_)
    rw [g1 (8558 + 13) (by omega) (by omega)]; rfl
  have key := ev_up (P := fun j => ∀ fi2 ai2 z, FR1 fi ai fi2 ai2 → K fi2 ai2 (goS w m ch false j).1 lg E → EV mX5_copySome 1 0 0 8 [some (.ref (rf 5 73)), some (.ref (rf 4 (34 + 2 * m))), some (.int (nI ch)), some (.int (nI (goS w m ch false j).2)), some (.int (nI (w (7694 + 72 * m + 5) + j))), z] [] fi2 fr ai2 ar N (kQ (some (.int (nI (govN w m ch false)))) fi fr ai ar N (fun fi ai => K fi ai (govW w m ch false) lg E))) (w (7694 + 72 * m + 2) - w (7694 + 72 * m + 5)) (fun j hj ih fi2 ai2 z hF hK => by
    obtain ⟨g1, g2, g3, g4, g5, g6⟩ := goS_in iv (ch := ch) (cl := false) hm j (by omega)
    have bd : Bd (goS w m ch false j).1 := Bd_sm (g1 1 (by omega) (by omega)) (g1 3 (by omega) (by omega)) (fun c hc => g1 _ (by omega) (by omega)) (fun m2 hm2 => g1 _ (by omega) (by omega)) bd
    have e2 := g1 (7694 + 72 * m + 2) (by omega) (by omega)
    have e3 := g1 (7694 + 72 * m + 3) (by omega) (by omega)
    have e4 := g1 (7694 + 72 * m + 4) (by omega) (by omega)
    have e33 := g1 3 (by omega) (by omega)
    have hs : goS w m ch false (j + 1) = go1 (goS w m ch false j).1 m ch false (w (7694 + 72 * m + 5) + j) (goS w m ch false j).2 := rfl
    have hst : ¬ (goS w m ch false j).2 < ch → goS w m ch false (w (7694 + 72 * m + 2) - w (7694 + 72 * m + 5)) = goS w m ch false j := fun h => by
      have := goS_st h ((w (7694 + 72 * m + 2) - w (7694 + 72 * m + 5)) - j)
      rw [show j + ((w (7694 + 72 * m + 2) - w (7694 + 72 * m + 5)) - j) = (w (7694 + 72 * m + 2) - w (7694 + 72 * m + 5)) by omega] at this
      exact this
    have hva : (goS w m ch false j).1 (1106 + 1000 * (goS w m ch false j).1 (7694 + 72 * m + 3) + (w (7694 + 72 * m + 5) + j)) ≤ 99999 := by
      have := g2 (1000 * (goS w m ch false j).1 (7694 + 72 * m + 3) + (w (7694 + 72 * m + 5) + j)) (by omega)
      rw [← Nat.add_assoc] at this
      exact this
    rw [hs] at ih
    generalize goS w m ch false j = X at *
    refine e_iload dX5_copySome_8 rfl ?_
    refine e_aload_n dX5_copySome_10 rfl rfl ?_
    refine e_getE dX5_copySome_11 fl_X5_124 rfl (k_m4 hK (by first | omega | (simp (disch := omega) only [upN_n, upN_s]; omega))) ?_
    first | ((with_reducible refine mk_nn ?_); refine n_icmp_ge (tgt := 74) dX5_copySome_14 (by decide) (by omega) (by omega) (fun h14 => ?_) (fun h14 => ?_)) | refine e_icmp_ge (tgt := 74) dX5_copySome_14 (by decide) (fun h14 => ?_) (fun h14 => ?_)
    · try first | contradiction | omega
      all_goals
        first | (exfalso; omega) | (rw [hst (by omega)] at ex; exact ex _ _ _ _ hF hK)
    · try first | contradiction | omega
      all_goals
        refine e_iload_n dX5_copySome_17 rfl rfl ?_
        refine e_iload_n dX5_copySome_18 rfl rfl ?_
        first | ((with_reducible refine mk_nn ?_); refine n_icmp_ge (tgt := 74) dX5_copySome_19 (by decide) (by omega) (by omega) (fun h19 => ?_) (fun h19 => ?_)) | refine e_icmp_ge (tgt := 74) dX5_copySome_19 (by decide) (fun h19 => ?_) (fun h19 => ?_)
        · try first | contradiction | omega
          all_goals
            first | (exfalso; omega) | (rw [hst (by omega)] at ex; exact ex _ _ _ _ hF hK)
        · try first | contradiction | omega
          all_goals
            refine e_aload_n dX5_copySome_22 rfl rfl ?_
            refine e_getR dX5_copySome_23 fl_X5_9 rfl (cv_w cm) ?_
            refine e_aload_n dX5_copySome_26 rfl rfl ?_
            refine e_getE dX5_copySome_27 fl_X5_133 rfl (k_m5 hK (by first | omega | (simp (disch := omega) only [upN_n, upN_s]; omega))) ?_
            refine e_iload dX5_copySome_30 rfl ?_
            refine x_V2 (M' := mX9_valueOf) dX5_copySome_32 ml_X5_136 ok_X9_valueOf (by decide) rfl im_X9_valueOf se_X9_valueOf (ct_valueOf2 cm bd hK (by omega) (by omega)) (Nat.le_of_ble_eq_true rfl) (by decide) (Nat.le_of_ble_eq_true rfl) ?_
            refine e_istore dX5_copySome_35 (Nat.le_of_ble_eq_true rfl) rfl ?_
            refine e_iload dX5_copySome_37 rfl ?_
            first | ((with_reducible refine mk_b ?_); refine b_if_eq (tgt := 68) dX5_copySome_39 (by decide) (fun h39 => ?_) (fun h39 => ?_)) | ((with_reducible refine mk_ll ?_); refine m_if_eq (tgt := 68) dX5_copySome_39 (by decide) (by omega) (by omega) (fun h39 => ?_) (fun h39 => ?_)) | ((with_reducible refine mk_lc ?_); refine l_if_eq (tgt := 68) dX5_copySome_39 (by decide) (fun h39 => ?_) (fun h39 => ?_)) | ((with_reducible refine mk_n ?_); refine n_if_eq (tgt := 68) dX5_copySome_39 (by decide) (by omega) (fun h39 => ?_) (fun h39 => ?_)) | refine e_if_eq (tgt := 68) dX5_copySome_39 (by decide) (fun h39 => ?_) (fun h39 => ?_)
            · try first | contradiction | omega | (simp only [decide_eq_true_eq, decide_eq_false_iff_not] at h39; omega)
              all_goals
                first | refine n_inc dX5_copySome_68 rfl (Nat.le_of_ble_eq_true rfl) rfl ?_ | refine e_iinc dX5_copySome_68 rfl rfl (Nat.le_of_ble_eq_true rfl) rfl ?_
                refine e_goto (tgt := 8) dX5_copySome_71 (by decide) ?_
                first | (rw [go1_f (fun z => z.2 (by omega))] at ih; exact ih _ _ _ hF hK) | (rw [go1_t ⟨by omega, by omega⟩] at ih; exact ih _ _ _ hF hK)
            · try first | contradiction | omega | (simp only [decide_eq_true_eq, decide_eq_false_iff_not] at h39; omega)
              all_goals
                refine e_aload_n dX5_copySome_42 rfl rfl ?_
                refine e_getR dX5_copySome_43 fl_X5_9 rfl (cv_w cm) ?_
                refine e_aload_n dX5_copySome_46 rfl rfl ?_
                refine e_getE dX5_copySome_47 fl_X5_140 rfl (k_m6 hK (by first | omega | (simp (disch := omega) only [upN_n, upN_s]; omega))) ?_
                refine e_iload dX5_copySome_50 rfl ?_
                refine e_iload dX5_copySome_52 rfl ?_
                refine ky_V3 (M' := mX9_putValue) dX5_copySome_54 ml_X5_143 ok_X9_putValue (by decide) rfl im_X9_putValue se_X9_putValue (ct_X9_putValue cm bd hK (by omega) (by omega)) (Nat.le_of_ble_eq_true rfl) (by decide) (Nat.le_of_ble_eq_true rfl) (fun fi ai hG hK => ?_)
                have hF := FR1_tr hF hG
                have bd := Bd_K bd hK (by omega)
                refine e_aload_n dX5_copySome_57 rfl rfl ?_
                refine e_iload dX5_copySome_58 rfl ?_
                refine e_iconst (v := nI 1) dX5_copySome_60 rfl ?_
                first | ((with_reducible refine mk_nn ?_); refine n_iadd dX5_copySome_61 ?_) | refine e_iadd dX5_copySome_61 ?_
                refine e_pm (f := 7) (dd := 5) dX5_copySome_62 fl_X5_127 (by decide) rfl rfl rfl rfl rfl bd hK (by first | omega | (simp (disch := omega) only [upN_n, upN_s]; omega)) hF (fun fi hF hK => ?_)
                have bd := Bd_K bd hK (by omega)
                first | refine n_inc dX5_copySome_65 rfl (Nat.le_of_ble_eq_true rfl) rfl ?_ | refine e_iinc dX5_copySome_65 rfl rfl (Nat.le_of_ble_eq_true rfl) rfl ?_
                first | refine n_inc dX5_copySome_68 rfl (Nat.le_of_ble_eq_true rfl) rfl ?_ | refine e_iinc dX5_copySome_68 rfl rfl (Nat.le_of_ble_eq_true rfl) rfl ?_
                refine e_goto (tgt := 8) dX5_copySome_71 (by decide) ?_
                first | (rw [go1_f (fun z => z.2 (by omega))] at ih; exact ih _ _ _ hF hK) | (rw [go1_t ⟨by omega, by omega⟩] at ih; exact ih _ _ _ hF hK)
    ) (fun fi2 ai2 z hF hK => by
    obtain ⟨g1, g2, g3, g4, g5, g6⟩ := goS_in iv (ch := ch) (cl := false) hm (w (7694 + 72 * m + 2) - w (7694 + 72 * m + 5)) (by omega)
    have e2 := g1 (7694 + 72 * m + 2) (by omega) (by omega)
    have e33 := g1 3 (by omega) (by omega)
    refine e_iload dX5_copySome_8 rfl ?_
    refine e_aload_n dX5_copySome_10 rfl rfl ?_
    refine e_getE dX5_copySome_11 fl_X5_124 rfl (k_m4 hK (by first | omega | (simp (disch := omega) only [upN_n, upN_s]; omega))) ?_
    first | ((with_reducible refine mk_nn ?_); refine n_icmp_ge (tgt := 74) dX5_copySome_14 (by decide) (by omega) (by omega) (fun h14 => ?_) (fun h14 => ?_)) | refine e_icmp_ge (tgt := 74) dX5_copySome_14 (by decide) (fun h14 => ?_) (fun h14 => ?_)
    · try first | contradiction | omega
      all_goals
        exact ex _ _ _ _ hF hK
    · try first | contradiction | omega
      all_goals
        omega
    )
  refine e_iconst (v := nI 0) dX5_copySome_0 rfl ?_
  refine e_istore_n dX5_copySome_1 rfl (Nat.le_of_ble_eq_true rfl) rfl ?_
  refine e_aload_n dX5_copySome_2 rfl rfl ?_
  refine e_getE dX5_copySome_3 fl_X5_127 rfl (k_m7 hK (by first | omega | (simp (disch := omega) only [upN_n, upN_s]; omega))) ?_
  refine e_istore dX5_copySome_6 (Nat.le_of_ble_eq_true rfl) rfl ?_
  exact key 0 (by omega) _ _ _ hF hK
theorem ct_X5_cleanSome {fi : FI} {fr : FR} {ai : FI} {ar : FR} {N : Nat} {w lg : Nat → Nat} {E : Nat} (cm : CM fr ar) (iv : Inv w) (hK : K fi ai w lg E) {m ch : Nat} (hm : m < w 3) (hch : ch ≤ 16) : CP mX5_cleanSome 1 0 0 [.ref (rf 5 73), .ref (rf 4 (34 + 2 * m)), .int (nI ch)] fi fr ai ar N (kQ (some (.int (nI (govN w m ch true)))) fi fr ai ar N (fun fi ai => K fi ai (govW w m ch true) lg E)) := by
  have h1 := iv_n iv
  have h3 := iv_mm iv
  have bd := Bd_iv iv
  have hF : FR1 fi ai fi ai := FR1_rf
  have hq := iv_mv iv hm
  change EV mX5_cleanSome 1 0 0 0 [some (.ref (rf 5 73)), some (.ref (rf 4 (34 + 2 * m))), some (.int (nI ch)), none, none] [] fi fr ai ar N (kQ (some (.int (nI (govN w m ch true)))) fi fr ai ar N (fun fi ai => K fi ai (govW w m ch true) lg E))
  have ex : ∀ fi2 ai2 y, FR1 fi ai fi2 ai2 → K fi2 ai2 (goS w m ch true (w (7694 + 72 * m + 2) - w (7694 + 72 * m + 5))).1 lg E → EV mX5_cleanSome 1 0 0 69 [some (.ref (rf 5 73)), some (.ref (rf 4 (34 + 2 * m))), some (.int (nI ch)), some (.int (nI (goS w m ch true (w (7694 + 72 * m + 2) - w (7694 + 72 * m + 5))).2)), y] [] fi2 fr ai2 ar N (kQ (some (.int (nI (govN w m ch true)))) fi fr ai ar N (fun fi ai => K fi ai (govW w m ch true) lg E)) := by
    intro fi2 ai2 y hF hK
    obtain ⟨g1, -⟩ := goS_in iv (ch := ch) (cl := true) hm (w (7694 + 72 * m + 2) - w (7694 + 72 * m + 5)) (by omega)
    have bd : Bd (goS w m ch true (w (7694 + 72 * m + 2) - w (7694 + 72 * m + 5))).1 := Bd_sm (g1 1 (by omega) (by omega)) (g1 3 (by omega) (by omega)) (fun c hc => g1 _ (by omega) (by omega)) (fun m2 hm2 => g1 _ (by omega) (by omega)) bd
    refine e_aload_n dX5_cleanSome_69 rfl rfl ?_
    refine e_getR dX5_cleanSome_70 fl_X5_15 rfl (cv_l cm) ?_
    refine e_bipush (v := nI 14) dX5_cleanSome_73 rfl ?_
    refine e_iload_n dX5_cleanSome_75 rfl rfl ?_
    refine ky_V2 (M' := mX3_add) dX5_cleanSome_76 ml_X5_66 ok_X3_add (by decide) rfl im_X3_add se_X3_add (ct_X3_add cm bd hK (by omega)) (Nat.le_of_ble_eq_true rfl) (by decide) (Nat.le_of_ble_eq_true rfl) (fun fi ai hG hK => ?_)
    have hF := FR1_tr hF hG
    refine e_iload_n dX5_cleanSome_79 rfl rfl ?_
    refine e_ret (some _) rfl (r_int dX5_cleanSome_80 rfl) ?_
    refine kq rfl hF (K_eq hK ?_)
    rw [g1 (8558 + 14) (by omega) (by omega)]; rfl
  have key := ev_up (P := fun j => ∀ fi2 ai2, FR1 fi ai fi2 ai2 → K fi2 ai2 (goS w m ch true j).1 lg E → EV mX5_cleanSome 1 0 0 8 [some (.ref (rf 5 73)), some (.ref (rf 4 (34 + 2 * m))), some (.int (nI ch)), some (.int (nI (goS w m ch true j).2)), some (.int (nI (w (7694 + 72 * m + 5) + j)))] [] fi2 fr ai2 ar N (kQ (some (.int (nI (govN w m ch true)))) fi fr ai ar N (fun fi ai => K fi ai (govW w m ch true) lg E))) (w (7694 + 72 * m + 2) - w (7694 + 72 * m + 5)) (fun j hj ih fi2 ai2 hF hK => by
    obtain ⟨g1, g2, g3, g4, g5, g6⟩ := goS_in iv (ch := ch) (cl := true) hm j (by omega)
    have bd : Bd (goS w m ch true j).1 := Bd_sm (g1 1 (by omega) (by omega)) (g1 3 (by omega) (by omega)) (fun c hc => g1 _ (by omega) (by omega)) (fun m2 hm2 => g1 _ (by omega) (by omega)) bd
    have e2 := g1 (7694 + 72 * m + 2) (by omega) (by omega)
    have e3 := g1 (7694 + 72 * m + 3) (by omega) (by omega)
    have e4 := g1 (7694 + 72 * m + 4) (by omega) (by omega)
    have e33 := g1 3 (by omega) (by omega)
    have hs : goS w m ch true (j + 1) = go1 (goS w m ch true j).1 m ch true (w (7694 + 72 * m + 5) + j) (goS w m ch true j).2 := rfl
    have hst : ¬ (goS w m ch true j).2 < ch → goS w m ch true (w (7694 + 72 * m + 2) - w (7694 + 72 * m + 5)) = goS w m ch true j := fun h => by
      have := goS_st h ((w (7694 + 72 * m + 2) - w (7694 + 72 * m + 5)) - j)
      rw [show j + ((w (7694 + 72 * m + 2) - w (7694 + 72 * m + 5)) - j) = (w (7694 + 72 * m + 2) - w (7694 + 72 * m + 5)) by omega] at this
      exact this
    have hva : (goS w m ch true j).1 (1106 + 1000 * (goS w m ch true j).1 (7694 + 72 * m + 3) + (w (7694 + 72 * m + 5) + j)) ≤ 99999 := by
      have := g2 (1000 * (goS w m ch true j).1 (7694 + 72 * m + 3) + (w (7694 + 72 * m + 5) + j)) (by omega)
      rw [← Nat.add_assoc] at this
      exact this
    rw [hs] at ih
    generalize goS w m ch true j = X at *
    refine e_iload dX5_cleanSome_8 rfl ?_
    refine e_aload_n dX5_cleanSome_10 rfl rfl ?_
    refine e_getE dX5_cleanSome_11 fl_X5_124 rfl (k_m4 hK (by first | omega | (simp (disch := omega) only [upN_n, upN_s]; omega))) ?_
    first | ((with_reducible refine mk_nn ?_); refine n_icmp_ge (tgt := 69) dX5_cleanSome_14 (by decide) (by omega) (by omega) (fun h14 => ?_) (fun h14 => ?_)) | refine e_icmp_ge (tgt := 69) dX5_cleanSome_14 (by decide) (fun h14 => ?_) (fun h14 => ?_)
    · try first | contradiction | omega
      all_goals
        first | (exfalso; omega) | (rw [hst (by omega)] at ex; exact ex _ _ _ hF hK)
    · try first | contradiction | omega
      all_goals
        refine e_iload_n dX5_cleanSome_17 rfl rfl ?_
        refine e_iload_n dX5_cleanSome_18 rfl rfl ?_
        first | ((with_reducible refine mk_nn ?_); refine n_icmp_ge (tgt := 69) dX5_cleanSome_19 (by decide) (by omega) (by omega) (fun h19 => ?_) (fun h19 => ?_)) | refine e_icmp_ge (tgt := 69) dX5_cleanSome_19 (by decide) (fun h19 => ?_) (fun h19 => ?_)
        · try first | contradiction | omega
          all_goals
            first | (exfalso; omega) | (rw [hst (by omega)] at ex; exact ex _ _ _ hF hK)
        · try first | contradiction | omega
          all_goals
            refine e_aload_n dX5_cleanSome_22 rfl rfl ?_
            refine e_getR dX5_cleanSome_23 fl_X5_9 rfl (cv_w cm) ?_
            refine e_aload_n dX5_cleanSome_26 rfl rfl ?_
            refine e_getE dX5_cleanSome_27 fl_X5_133 rfl (k_m5 hK (by first | omega | (simp (disch := omega) only [upN_n, upN_s]; omega))) ?_
            refine e_iload dX5_cleanSome_30 rfl ?_
            refine x_V2 (M' := mX9_valueOf) dX5_cleanSome_32 ml_X5_136 ok_X9_valueOf (by decide) rfl im_X9_valueOf se_X9_valueOf (ct_valueOf2 cm bd hK (by omega) (by omega)) (Nat.le_of_ble_eq_true rfl) (by decide) (Nat.le_of_ble_eq_true rfl) ?_
            first | ((with_reducible refine mk_b ?_); refine b_if_eq (tgt := 63) dX5_cleanSome_35 (by decide) (fun h35 => ?_) (fun h35 => ?_)) | ((with_reducible refine mk_ll ?_); refine m_if_eq (tgt := 63) dX5_cleanSome_35 (by decide) (by omega) (by omega) (fun h35 => ?_) (fun h35 => ?_)) | ((with_reducible refine mk_lc ?_); refine l_if_eq (tgt := 63) dX5_cleanSome_35 (by decide) (fun h35 => ?_) (fun h35 => ?_)) | ((with_reducible refine mk_n ?_); refine n_if_eq (tgt := 63) dX5_cleanSome_35 (by decide) (by omega) (fun h35 => ?_) (fun h35 => ?_)) | refine e_if_eq (tgt := 63) dX5_cleanSome_35 (by decide) (fun h35 => ?_) (fun h35 => ?_)
            · try first | contradiction | omega | (simp only [decide_eq_true_eq, decide_eq_false_iff_not] at h35; omega)
              all_goals
                first | refine n_inc dX5_cleanSome_63 rfl (Nat.le_of_ble_eq_true rfl) rfl ?_ | refine e_iinc dX5_cleanSome_63 rfl rfl (Nat.le_of_ble_eq_true rfl) rfl ?_
                refine e_goto (tgt := 8) dX5_cleanSome_66 (by decide) ?_
                first | (rw [go1_f (fun z => z.2 (by omega))] at ih; exact ih _ _ hF hK) | (rw [go1_t ⟨by omega, by omega⟩] at ih; exact ih _ _ hF hK)
            · try first | contradiction | omega | (simp only [decide_eq_true_eq, decide_eq_false_iff_not] at h35; omega)
              all_goals
                refine e_aload_n dX5_cleanSome_38 rfl rfl ?_
                refine e_getR dX5_cleanSome_39 fl_X5_9 rfl (cv_w cm) ?_
                refine e_aload_n dX5_cleanSome_42 rfl rfl ?_
                refine e_getE dX5_cleanSome_43 fl_X5_133 rfl (k_m5 hK (by first | omega | (simp (disch := omega) only [upN_n, upN_s]; omega))) ?_
                refine e_iload dX5_cleanSome_46 rfl ?_
                refine e_iconst (v := nI 0) dX5_cleanSome_48 rfl ?_
                refine ky_V3 (M' := mX9_putValue) dX5_cleanSome_49 ml_X5_143 ok_X9_putValue (by decide) rfl im_X9_putValue se_X9_putValue (ct_X9_putValue cm bd hK (by omega) (by omega)) (Nat.le_of_ble_eq_true rfl) (by decide) (Nat.le_of_ble_eq_true rfl) (fun fi ai hG hK => ?_)
                have hF := FR1_tr hF hG
                have bd := Bd_K bd hK (by omega)
                refine e_aload_n dX5_cleanSome_52 rfl rfl ?_
                refine e_iload dX5_cleanSome_53 rfl ?_
                refine e_iconst (v := nI 1) dX5_cleanSome_55 rfl ?_
                first | ((with_reducible refine mk_nn ?_); refine n_iadd dX5_cleanSome_56 ?_) | refine e_iadd dX5_cleanSome_56 ?_
                refine e_pm (f := 7) (dd := 5) dX5_cleanSome_57 fl_X5_127 (by decide) rfl rfl rfl rfl rfl bd hK (by first | omega | (simp (disch := omega) only [upN_n, upN_s]; omega)) hF (fun fi hF hK => ?_)
                have bd := Bd_K bd hK (by omega)
                first | refine n_inc dX5_cleanSome_60 rfl (Nat.le_of_ble_eq_true rfl) rfl ?_ | refine e_iinc dX5_cleanSome_60 rfl rfl (Nat.le_of_ble_eq_true rfl) rfl ?_
                first | refine n_inc dX5_cleanSome_63 rfl (Nat.le_of_ble_eq_true rfl) rfl ?_ | refine e_iinc dX5_cleanSome_63 rfl rfl (Nat.le_of_ble_eq_true rfl) rfl ?_
                refine e_goto (tgt := 8) dX5_cleanSome_66 (by decide) ?_
                first | (rw [go1_f (fun z => z.2 (by omega))] at ih; exact ih _ _ hF hK) | (rw [go1_t ⟨by omega, by omega⟩] at ih; exact ih _ _ hF hK)
    ) (fun fi2 ai2 hF hK => by
    obtain ⟨g1, g2, g3, g4, g5, g6⟩ := goS_in iv (ch := ch) (cl := true) hm (w (7694 + 72 * m + 2) - w (7694 + 72 * m + 5)) (by omega)
    have e2 := g1 (7694 + 72 * m + 2) (by omega) (by omega)
    have e33 := g1 3 (by omega) (by omega)
    refine e_iload dX5_cleanSome_8 rfl ?_
    refine e_aload_n dX5_cleanSome_10 rfl rfl ?_
    refine e_getE dX5_cleanSome_11 fl_X5_124 rfl (k_m4 hK (by first | omega | (simp (disch := omega) only [upN_n, upN_s]; omega))) ?_
    first | ((with_reducible refine mk_nn ?_); refine n_icmp_ge (tgt := 69) dX5_cleanSome_14 (by decide) (by omega) (by omega) (fun h14 => ?_) (fun h14 => ?_)) | refine e_icmp_ge (tgt := 69) dX5_cleanSome_14 (by decide) (fun h14 => ?_) (fun h14 => ?_)
    · try first | contradiction | omega
      all_goals
        exact ex _ _ _ hF hK
    · try first | contradiction | omega
      all_goals
        omega
    )
  refine e_iconst (v := nI 0) dX5_cleanSome_0 rfl ?_
  refine e_istore_n dX5_cleanSome_1 rfl (Nat.le_of_ble_eq_true rfl) rfl ?_
  refine e_aload_n dX5_cleanSome_2 rfl rfl ?_
  refine e_getE dX5_cleanSome_3 fl_X5_127 rfl (k_m7 hK (by first | omega | (simp (disch := omega) only [upN_n, upN_s]; omega))) ?_
  refine e_istore dX5_cleanSome_6 (Nat.le_of_ble_eq_true rfl) rfl ?_
  exact key 0 (by omega) _ _ hF hK
