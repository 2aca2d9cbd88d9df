theorem KW_cag {fi fi' ai ai' : FI} {w w' : Nat → Nat} {b : Nat} (h1 : w 1 ≤ 32) (h3 : w 3 ≤ 12) (hc6 : ∀ c, c < 6 → w (7106 + 98 * c + 1) ≤ 32) (h60 : ∀ m, m < w 3 → w (7694 + 72 * m + 6) ≤ 60) {c0 : Nat} (hc0 : c0 < 6) (hw : ∀ q, (q < 7106 + 98 * c0 ∨ 7106 + 98 * c0 + 98 ≤ q) → w' q = w q) (g : FRg (b + 9 + 4 * c0) (b + 9 + 4 * c0 + 4) fi ai fi' ai') (hT : TBR fi' ai' (b + 9 + 4 * c0) (w' (7106 + 98 * c0 + 1)) (w' (7106 + 98 * c0 + 0)) (fun i => w' (7106 + 98 * c0 + 2 + i)) (fun i => w' (7106 + 98 * c0 + 34 + i)) (fun i => w' (7106 + 98 * c0 + 66 + i))) (h : KW b fi ai w) : KW b fi' ai' w' := by
  obtain ⟨v1, v2, v3, v4, v5, v6, v7, v8⟩ := h
  refine ⟨fun i hi => ?_, fun i hi => ?_, ?_, fun c hc => ?_, fun m hm => ?_, ?_, ?_, ?_⟩
  · rw [g.2 _ (by rw [rf_div (by decide)]; omega), hw _ (by omega)]; exact v1 i hi
  · rw [g.2 _ (by rw [rf_div (by decide)]; omega), hw _ (by omega)]; exact v2 i hi
  · exact TBR_cg (hw _ (by omega)) (hw _ (by omega)) (fun i hi => ⟨hw _ (by omega), hw _ (by omega), hw _ (by omega)⟩) (TBR_g g (by omega) v3)
  · by_cases e : c = c0
    · rw [e]; exact hT
    · exact TBR_cg (hw _ (by omega)) (hw _ (by omega)) (fun i hi => ⟨hw _ (by have := hc6 c hc; omega), hw _ (by have := hc6 c hc; omega), hw _ (by have := hc6 c hc; omega)⟩) (TBR_g g (by omega) (v4 c hc))
  · rw [hw 3 (by omega)] at hm
    exact MVR_cg (fun d hd => hw _ (by omega)) (fun i hi => hw _ (by have := h60 m hm; omega)) (MVR_g g (by omega) (v5 m hm))
  · rw [g.1 _ _ (by rw [rf_div (by decide)]; omega), hw _ (by omega)]; exact v6
  · rw [g.1 _ _ (by rw [rf_div (by decide)]; omega), ubF_fr (fun s hs => hw (4 + s) (by omega)) 6 (Nat.le_refl 6)]; exact v7
  · rw [g.1 _ _ (by rw [rf_div (by decide)]; omega), hw _ (by omega)]; exact v8
theorem fet_o {w : Nat → Nat} {c q : Nat} (h1 : w 1 ≤ 32) (h : q < 7106 + 98 * c ∨ 7106 + 98 * c + 98 ≤ q) : fetW w c q = w q := by
  unfold fetW fcF; rw [if_neg (by omega), if_neg (by omega), if_neg (by omega), if_neg (by omega), if_neg (by omega)]
theorem fet_T {w : Nat → Nat} {fi ai : FI} {t c : Nat} (h1 : w 1 ≤ 32) (h : TBR fi ai t (w 1) (w 0) (fun i => w (10 + i)) (fun i => w (42 + i)) (fun i => w (74 + i))) : TBR fi ai t (fetW w c (7106 + 98 * c + 1)) (fetW w c (7106 + 98 * c + 0)) (fun i => fetW w c (7106 + 98 * c + 2 + i)) (fun i => fetW w c (7106 + 98 * c + 34 + i)) (fun i => fetW w c (7106 + 98 * c + 66 + i)) := by
  refine TBR_cg ?_ ?_ (fun i hi => ⟨?_, ?_, ?_⟩) h
  · unfold fetW fcF; rw [if_neg (by omega), if_pos rfl]
  · unfold fetW fcF; rw [if_pos rfl]
  · show fetW w c (7106 + 98 * c + 2 + i) = w (10 + i)
    unfold fetW fcF; rw [if_neg (by omega), if_neg (by omega), if_pos (by omega)]; congr 1; omega
  · show fetW w c (7106 + 98 * c + 34 + i) = w (42 + i)
    unfold fetW fcF; rw [if_neg (by omega), if_neg (by omega), if_neg (by omega), if_pos (by omega)]; congr 1; omega
  · show fetW w c (7106 + 98 * c + 66 + i) = w (74 + i)
    unfold fetW fcF; rw [if_neg (by omega), if_neg (by omega), if_neg (by omega), if_neg (by omega), if_pos (by omega)]; congr 1; omega
theorem ff_in {p : Nat → Bool} : ∀ n, ff p n < n → p (ff p n) = true
  | 0, h => by omega
  | n + 1, h => by
    by_cases e : ff p n < n
    · have q : ff p (n + 1) = ff p n := by show (if ff p n < n then _ else _) = _; rw [if_pos e]
      rw [q]; exact ff_in n e
    · cases e2 : p n with
      | true =>
        have q : ff p (n + 1) = n := by show (if ff p n < n then ff p n else if p n then n else n + 1) = _; rw [if_neg e, e2]; rfl
        rw [q]; exact e2
      | false =>
        have q : ff p (n + 1) = n + 1 := by show (if ff p n < n then ff p n else if p n then n else n + 1) = _; rw [if_neg e, e2]; rfl
        omega
theorem fO_in {p : Nat → Bool} {n i : Nat} (h : fO p n = some i) : i < n ∧ p i = true := by
  unfold fO at h
  split at h
  · rename_i e
    obtain rfl := Option.some.inj h
    exact ⟨e, ff_in n e⟩
  · cases h
theorem mvL_in {w : Nat → Nat} {l m : Nat} (h : mvL w l = some m) : m < w 3 ∧ goB w m = true ∧ w (7694 + 72 * m + 1) = l := by
  have := fO_in h
  simp only [Bool.and_eq_true, decide_eq_true_eq] at this
  exact ⟨this.1, this.2.1, this.2.2⟩
theorem goB_e1 {w : Nat → Nat} {m : Nat} (h : goB w m = true) : 1 ≤ w (7694 + 72 * m + 0) ∧ w (7694 + 72 * m + 0) ≤ 4 := of_decide_eq_true h
theorem upN_cm {w : Nat → Nat} {a b x y : Nat} (h : a ≠ b) : upN (upN w a x) b y = upN (upN w b y) a x := by
  funext q
  unfold upN
  repeat' split
  all_goals first | rfl | omega
theorem nt_fr {w : Nat → Nat} {c a d e q : Nat} (h : q < 8558) : ntW w c a d e q = w q := by
  unfold ntW
  repeat' split
  all_goals simp (disch := omega) only [upN_n]
theorem nt_ask {w : Nat → Nat} {c k v d : Nat} (h : asA w c k v ≠ 0) : ntW w c (asA w c k v) d (w (74 + spW w k)) = askW w c k v := by
  unfold askW ntW
  rw [if_neg h, if_neg h]
  by_cases e : asA w c k v = 3
  · rw [if_pos e, if_pos e, e]
    unfold ask3 ask1
    funext q
    unfold upN
    repeat' split
    all_goals first | rfl | omega
  · rw [if_neg e, if_neg e]
    rfl
theorem nt_read {w : Nat → Nat} {c k e : Nat} (hc : c < 6) (hk : k < 1000) (h : asA w c k 0 = 0) : upN (ntW w c 0 0 e) (106 + k) (w (106 + k) + 1) = askW w c k 0 := by
  unfold askW ntW
  rw [if_pos h, if_pos rfl, if_neg (by omega)]
  unfold ask1
  rw [upN_cm (a := 8558 + 0) (b := 106 + k) (by omega)]
theorem nt_wr {w : Nat → Nat} (iv : Inv w) {c k v e : Nat} (hc : c < 6) (hk : k < 1000) : upN (upN (ntW w c 0 1 e) (106 + k) (w (106 + k) + 2)) (1106 + 1000 * w (42 + spW w k) + k) v = wr3 (upN (ask1 w c) (8573 + 4 * c + 1) (w (8573 + 4 * c + 1) + 1)) k v := by
  have ho := iv_own iv (spW_lt iv k)
  have f : ∀ q, q < 8558 → upN (ask1 w c) (8573 + 4 * c + 1) (w (8573 + 4 * c + 1) + 1) q = w q := fun q hq => by unfold ask1; rw [upN_n (by omega), upN_n (by omega)]
  have fs : spW (upN (ask1 w c) (8573 + 4 * c + 1) (w (8573 + 4 * c + 1) + 1)) k = spW w k := spW_fr (f 1 (by omega)) (fun j hj => f _ (by omega)) iv k
  unfold wr3
  rw [fs, f (42 + spW w k) (by have := spW_lt iv k; have := iv_n iv; omega), f (106 + k) (by omega)]
  have e1 : upN (ask1 w c) (8573 + 4 * c + 1) (w (8573 + 4 * c + 1) + 1) (8558 + 1) = w (8558 + 1) := by unfold ask1; rw [upN_n (by omega), upN_n (by omega)]
  rw [e1]
  unfold ntW ask1
  rw [if_pos rfl]
  rw [upN_cm (a := 8558 + 1) (b := 106 + k) (by omega), upN_cm (a := 8558 + 1) (b := 1106 + 1000 * w (42 + spW w k) + k) (by omega), upN_cm (a := 106 + k) (b := 1106 + 1000 * w (42 + spW w k) + k) (by omega)]
/-- a write: what the class does of it and what the reference does are one -/
theorem nt_wrW {w : Nat → Nat} (iv : Inv w) {c k v : Nat} (hc : c < 6) (hk : k < 1000) (hv : 0 < v) (h : asA w c k v = 0) : (mvL w (w (10 + spW w k)) = none → wr3 (upN (ask1 w c) (8573 + 4 * c + 1) (w (8573 + 4 * c + 1) + 1)) k v = askW w c k v) ∧ ∀ m, mvL w (w (10 + spW w k)) = some m → noW (wr3 (upN (ask1 w c) (8573 + 4 * c + 1) (w (8573 + 4 * c + 1) + 1)) k v) m k = askW w c k v := by
  have hsp := spW_lt iv k
  have h1 := iv_n iv
  have h3 := iv_mm iv
  have f : ∀ q, q < 8558 → upN (ask1 w c) (8573 + 4 * c + 1) (w (8573 + 4 * c + 1) + 1) q = w q := fun q hq => by unfold ask1; rw [upN_n (by omega), upN_n (by omega)]
  have iv1 := Inv_fr f iv
  have fs : spW (upN (ask1 w c) (8573 + 4 * c + 1) (w (8573 + 4 * c + 1) + 1)) k = spW w k := spW_fr (f 1 (by omega)) (fun j hj => f _ (by omega)) iv k
  have fm : ∀ l, mvL (upN (ask1 w c) (8573 + 4 * c + 1) (w (8573 + 4 * c + 1) + 1)) l = mvL w l := fun l => mvL_fr (f 3 (by omega)) (fun m hm => ⟨f _ (by omega), f _ (by omega)⟩) l
  have e : askW w c k v = wrW (upN (ask1 w c) (8573 + 4 * c + 1) (w (8573 + 4 * c + 1) + 1)) k v := by unfold askW; rw [if_pos h, if_pos hv]
  have e2 : mvL (upN (ask1 w c) (8573 + 4 * c + 1) (w (8573 + 4 * c + 1) + 1)) (upN (ask1 w c) (8573 + 4 * c + 1) (w (8573 + 4 * c + 1) + 1) (10 + spW (upN (ask1 w c) (8573 + 4 * c + 1) (w (8573 + 4 * c + 1) + 1)) k)) = mvL w (w (10 + spW w k)) := by rw [fm, fs, f _ (by omega)]
  rw [e]
  unfold wrW
  rw [e2]
  refine ⟨fun hm => by rw [hm], fun m hm => ?_⟩
  rw [hm]
  obtain ⟨hm1, hm2, -⟩ := mvL_in hm
  have hg := goB_e1 hm2
  have hq := iv_mv iv hm1
  have g : ∀ q, 7106 ≤ q → q < 8558 → wr3 (upN (ask1 w c) (8573 + 4 * c + 1) (w (8573 + 4 * c + 1) + 1)) k v q = w q := fun q a b => by rw [wr3_fr iv1 hk (by omega)]; exact f q b
  have ei := inT_fr (w := w) (m := m) g (by omega) hq.2.2.2.2.2.2.2.1 k
  have ei2 := inT_fr (w := w) (w' := upN (ask1 w c) (8573 + 4 * c + 1) (w (8573 + 4 * c + 1) + 1)) (m := m) (fun q a b => f q b) (by omega) hq.2.2.2.2.2.2.2.1 k
  unfold noW
  rw [g _ (by omega) (by omega), g (7694 + 72 * m + 6) (by omega) (by omega), ei]
  show _ = if _ then _ else _
  rw [f (7694 + 72 * m + 0) (by omega), ei2]
  by_cases hx : w (7694 + 72 * m + 0) ≤ 2 ∧ inT w m k = false
  · have hr := fz_room iv (asA_fz h hv) hm hx
    rw [if_pos hx, if_pos ⟨by omega, hr, hx.2⟩]
  · rw [if_neg hx, if_neg (fun z => hx ⟨by omega, z.2.2⟩)]
theorem Bd_nt {w : Nat → Nat} {c a d e : Nat} (bd : Bd w) : Bd (ntW w c a d e) := by
  obtain ⟨x1, x2, x3, x4⟩ := bd
  refine ⟨by rw [nt_fr (by omega)]; exact x1, by rw [nt_fr (by omega)]; exact x2, fun k hk => by rw [nt_fr (by omega)]; exact x3 k hk, fun m hm => ?_⟩
  rw [nt_fr (by omega)] at hm
  rw [nt_fr (by omega)]; exact x4 m hm
theorem ct_X1_takeMap {fi : FI} {fr : FR} {ai : FI} {ar : FR} {N : Nat} {w lg : Nat → Nat} {E : Nat} (cm : CM fr ar) (iv : Inv w) (hK : K fi ai w lg E) (x : Int32) : CP mX1_takeMap 2 0 0 [.ref (rf 1 71), .int x] fi fr ai ar N (kQ (some (.int (if inR x 6 then nI (w 0) else -1))) fi fr ai ar N (fun fi ai => K fi ai (if inR x 6 then fetW w x.toNatClampNeg else w) lg E)) := by
  have h1 := iv_n iv
  have h3 := iv_mm iv
  have bd := Bd_iv iv
  have hF : FR1 fi ai fi ai := FR1_rf
  change EV mX1_takeMap 2 0 0 0 [some (.ref (rf 1 71)), some (.int x)] [] fi fr ai ar N (kQ (some (.int (if inR x 6 then nI (w 0) else -1))) fi fr ai ar N (fun fi ai => K fi ai (if inR x 6 then fetW w x.toNatClampNeg else w) lg E))
  cases hx : inR x 6 with
  | false =>
    rw [if_neg (by decide), if_neg (by decide)]
    refine e_iload_n dX1_takeMap_0 rfl rfl ?_
    refine x_N1 (M' := mX10_isClient) dX1_takeMap_1 (List.mem_of_getElem? (i := 6) rfl) ok_X10_isClient sc_X10_isClient (ct_X10_isClient _) (Nat.le_of_ble_eq_true rfl) (by decide) (Nat.le_of_ble_eq_true rfl) ?_
    rw [hx]
    first | ((with_reducible refine mk_b ?_); refine b_if_ne (tgt := 9) dX1_takeMap_4 (by decide) (fun h4 => ?_) (fun h4 => ?_)) | ((with_reducible refine mk_ll ?_); refine m_if_ne (tgt := 9) dX1_takeMap_4 (by decide) (by omega) (by omega) (fun h4 => ?_) (fun h4 => ?_)) | ((with_reducible refine mk_lc ?_); refine l_if_ne (tgt := 9) dX1_takeMap_4 (by decide) (fun h4 => ?_) (fun h4 => ?_)) | ((with_reducible refine mk_n ?_); refine n_if_ne (tgt := 9) dX1_takeMap_4 (by decide) (by omega) (fun h4 => ?_) (fun h4 => ?_)) | refine e_if_ne (tgt := 9) dX1_takeMap_4 (by decide) (fun h4 => ?_) (fun h4 => ?_)
    · try first | contradiction | omega | (simp only [decide_eq_true_eq, decide_eq_false_iff_not] at h4; omega)
      all_goals
        contradiction
    · try first | contradiction | omega | (simp only [decide_eq_true_eq, decide_eq_false_iff_not] at h4; omega)
      all_goals
        refine e_iconst (v := -1) dX1_takeMap_7 rfl ?_
        refine e_ret (some _) rfl (r_int dX1_takeMap_8 rfl) ?_
        exact kq rfl hF hK
  | true =>
    obtain ⟨c, hc, hc2, rfl⟩ := inR_ex hx
    rw [if_pos rfl, if_pos rfl, nI_clamp hc2]
    refine e_iload_n dX1_takeMap_0 rfl rfl ?_
    refine x_N1 (M' := mX10_isClient) dX1_takeMap_1 (List.mem_of_getElem? (i := 6) rfl) ok_X10_isClient sc_X10_isClient (ct_X10_isClient _) (Nat.le_of_ble_eq_true rfl) (by decide) (Nat.le_of_ble_eq_true rfl) ?_
    rw [hx]
    first | ((with_reducible refine mk_b ?_); refine b_if_ne (tgt := 9) dX1_takeMap_4 (by decide) (fun h4 => ?_) (fun h4 => ?_)) | ((with_reducible refine mk_ll ?_); refine m_if_ne (tgt := 9) dX1_takeMap_4 (by decide) (by omega) (by omega) (fun h4 => ?_) (fun h4 => ?_)) | ((with_reducible refine mk_lc ?_); refine l_if_ne (tgt := 9) dX1_takeMap_4 (by decide) (fun h4 => ?_) (fun h4 => ?_)) | ((with_reducible refine mk_n ?_); refine n_if_ne (tgt := 9) dX1_takeMap_4 (by decide) (by omega) (fun h4 => ?_) (fun h4 => ?_)) | refine e_if_ne (tgt := 9) dX1_takeMap_4 (by decide) (fun h4 => ?_) (fun h4 => ?_)
    · try first | contradiction | omega | (simp only [decide_eq_true_eq, decide_eq_false_iff_not] at h4; omega)
      all_goals
        refine e_aload_n dX1_takeMap_9 rfl rfl ?_
        refine e_getR dX1_takeMap_10 fl_X1_9 rfl (ca_w cm) ?_
        refine e_getR dX1_takeMap_13 fl_X1_23 rfl (cm_cas cm) ?_
        refine e_iload_n dX1_takeMap_16 rfl rfl ?_
        refine e_aald _ dX1_takeMap_17 ⟨by decide, by decide⟩ rfl rfl (by simp only [lenK]; omega) (cm_ca cm (by omega)) ?_
        refine e_aload_n dX1_takeMap_18 rfl rfl ?_
        refine e_getR dX1_takeMap_19 fl_X1_9 rfl (ca_w cm) ?_
        refine e_getR dX1_takeMap_22 fl_X1_29 rfl (cm_map cm) ?_
        refine my_V1 (M' := mX8_copyFrom) dX1_takeMap_25 ml_X1_33 ok_X8_copyFrom (by decide) rfl im_X8_copyFrom se_X8_copyFrom (ct_X8_copyFrom (t := 10 + 4 * c) (s := 4) (cm.1.2.2.2.2.2.2.1 c hc).2 cm.1.2.2.2.2.2.1 hK.1.2.2.1 h1.2 (by omega)) (Nat.le_of_ble_eq_true rfl) (by decide) (Nat.le_of_ble_eq_true rfl) (fun fi3 ai3 hP => ?_)
        refine e_aload_n dX1_takeMap_28 rfl rfl ?_
        refine e_getR dX1_takeMap_29 fl_X1_9 rfl (ca_w cm) ?_
        refine e_getR dX1_takeMap_32 fl_X1_29 rfl (cm_map cm) ?_
        refine e_getE dX1_takeMap_35 fl_X1_39 rfl ((hP.2.1 _ _ (by rw [rf_div (by decide)]; omega)).trans (k_e hK)) ?_
        refine e_ret (some _) rfl (r_int dX1_takeMap_38 rfl) ?_
        refine kq rfl (FRg_1 hP.2 (by omega)) (K_kw hK (KW_cag bd.1 bd.2.1 bd.2.2.1 bd.2.2.2 hc (fun q hq => fet_o h1.2 hq) hP.2 (fet_T h1.2 hP.1) hK.1) (fun a x y => hP.2.2 a (by omega)) (fun q hq => fet_o h1.2 (by omega)))
    · try first | contradiction | omega | (simp only [decide_eq_true_eq, decide_eq_false_iff_not] at h4; omega)
      all_goals
        contradiction
theorem ct_valueOf2 {fi : FI} {fr : FR} {ai : FI} {ar : FR} {N : Nat} {w lg : Nat → Nat} {E : Nat} (cm : CM fr ar) (bd : Bd w) (hK : K fi ai w lg E) {s k : Nat} (hs : s < 6) (hk : k < 1000) : CP mX9_valueOf 0 0 0 [.ref (rf 9 1), .int (nI s), .int (nI k)] fi fr ai ar N (xQ (some (.int (nI (w (1106 + 1000 * s + k))))) fi fr ai ar N) := by
  have h1 := bd.1
  have h3 := bd.2.1
  have hF : FR1 fi ai fi ai := FR1_rf
  change EV mX9_valueOf 0 0 0 0 [some (.ref (rf 9 1)), some (.int (nI s)), some (.int (nI k))] [] fi fr ai ar N (xQ (some (.int (nI (w (1106 + 1000 * s + k))))) fi fr ai ar N)
  refine e_aload_n dX9_valueOf_0 rfl rfl ?_
  refine e_getR dX9_valueOf_1 fl_X9_9 rfl (cm_vals cm) ?_
  refine e_iload_n dX9_valueOf_4 rfl rfl ?_
  refine e_sipush (v := nI 1000) dX9_valueOf_5 rfl ?_
  first | ((with_reducible refine mk_nn ?_); refine n_imul dX9_valueOf_8 ?_) | refine e_imul dX9_valueOf_8 ?_
  refine e_iload_n dX9_valueOf_9 rfl rfl ?_
  first | ((with_reducible refine mk_nn ?_); refine n_iadd dX9_valueOf_10 ?_) | refine e_iadd dX9_valueOf_10 ?_
  refine e_iadE _ dX9_valueOf_11 ⟨by decide, by decide⟩ rfl rfl (by simp only [lenK]; omega) (k_val hK (by first | omega | (simp (disch := omega) only [upN_n, upN_s]; omega))) ?_
  refine e_ret (some _) rfl (r_int dX9_valueOf_12 rfl) ?_
  exact xq (by rw [show 1106 + (s * 1000 + k) = 1106 + 1000 * s + k by omega]) rfl rfl rfl rfl rfl
theorem ct_ans0 {fi : FI} {fr : FR} {ai : FI} {ar : FR} {N : Nat} {w lg : Nat → Nat} {E : Nat} (cm : CM fr ar) (iv : Inv w) (hK : K fi ai w lg E) {c k : Nat} (hc : c < 6) (hk : k < 1000) : CP mX1_answerTo 2 0 0 [.ref (rf 1 71), .int (nI c), .int (nI k), .int (nI 0)] fi fr ai ar N (xQ (some (.int (nI (anF w c k)))) fi fr ai ar N) := by
  have h1 := iv_n iv
  have h3 := iv_mm iv
  have bd := Bd_iv iv
  have hF : FR1 fi ai fi ai := FR1_rf
  have hcl := iv_cl iv hc
  have hsp := spW_lt iv k
  have hlo := iv_low iv hsp
  have how := iv_own iv hsp
  have hep := iv_ep iv hsp
  have he0 := iv_ep0 iv
  change EV mX1_answerTo 2 0 0 0 [some (.ref (rf 1 71)), some (.int (nI c)), some (.int (nI k)), some (.int (nI 0)), none, none, none, none] [] fi fr ai ar N (xQ (some (.int (nI (anF w c k)))) fi fr ai ar N)
  by_cases h0 : w (7106 + 98 * c + 1) = 0
  · have e : anF w c k = 1 := by unfold anF; rw [if_pos (hcl.2.1.mpr h0)]
    rw [e]
    refine e_aload_n dX1_answerTo_0 rfl rfl ?_
    refine e_getR dX1_answerTo_1 fl_X1_9 rfl (ca_w cm) ?_
    refine e_getR dX1_answerTo_4 fl_X1_23 rfl (cm_cas cm) ?_
    refine e_iload_n dX1_answerTo_7 rfl rfl ?_
    refine e_aald _ dX1_answerTo_8 ⟨by decide, by decide⟩ rfl rfl (by simp only [lenK]; omega) (cm_ca cm (by omega)) ?_
    refine e_astore dX1_answerTo_9 (Nat.le_of_ble_eq_true rfl) rfl ?_
    refine e_aload dX1_answerTo_11 rfl ?_
    refine e_getE dX1_answerTo_13 fl_X1_95 rfl (by first | exact k_n hK | exact k_cn hK (by first | omega | (simp (disch := omega) only [upN_n, upN_s]; omega)) | assumption) ?_
    first | ((with_reducible refine mk_b ?_); refine b_if_ne (tgt := 21) dX1_answerTo_16 (by decide) (fun h16 => ?_) (fun h16 => ?_)) | ((with_reducible refine mk_ll ?_); refine m_if_ne (tgt := 21) dX1_answerTo_16 (by decide) (by omega) (by omega) (fun h16 => ?_) (fun h16 => ?_)) | ((with_reducible refine mk_lc ?_); refine l_if_ne (tgt := 21) dX1_answerTo_16 (by decide) (fun h16 => ?_) (fun h16 => ?_)) | ((with_reducible refine mk_n ?_); refine n_if_ne (tgt := 21) dX1_answerTo_16 (by decide) (by omega) (fun h16 => ?_) (fun h16 => ?_)) | refine e_if_ne (tgt := 21) dX1_answerTo_16 (by decide) (fun h16 => ?_) (fun h16 => ?_)
    · try first | contradiction | omega | (simp only [decide_eq_true_eq, decide_eq_false_iff_not] at h16; omega)
      all_goals
        omega
    · try first | contradiction | omega | (simp only [decide_eq_true_eq, decide_eq_false_iff_not] at h16; omega)
      all_goals
        refine e_iconst (v := nI 1) dX1_answerTo_19 rfl ?_
        refine e_ret (some _) rfl (r_int dX1_answerTo_20 rfl) ?_
        exact xq rfl rfl rfl rfl rfl rfl
  · have hn0 : ¬ w (7106 + 98 * c + 0) = 0 := fun q => h0 (hcl.2.1.mp q)
    have hlt := cW_lt iv hc hn0 k
    have hco := hcl.2.2.2.2 _ hlt
    have hup := iv_up iv (s := w (7106 + 98 * c + 34 + cW w c k)) hco.2.1
    have e : anF w c k = if w (4 + w (7106 + 98 * c + 34 + cW w c k)) = 0 then 2 else if w (7106 + 98 * c + 34 + cW w c k) = w (42 + spW w k) ∧ w (7106 + 98 * c + 66 + cW w c k) = w (74 + spW w k) then 0 else 3 := by unfold anF; rw [if_neg hn0]
    refine e_aload_n dX1_answerTo_0 rfl rfl ?_
    refine e_getR dX1_answerTo_1 fl_X1_9 rfl (ca_w cm) ?_
    refine e_getR dX1_answerTo_4 fl_X1_23 rfl (cm_cas cm) ?_
    refine e_iload_n dX1_answerTo_7 rfl rfl ?_
    refine e_aald _ dX1_answerTo_8 ⟨by decide, by decide⟩ rfl rfl (by simp only [lenK]; omega) (cm_ca cm (by omega)) ?_
    refine e_astore dX1_answerTo_9 (Nat.le_of_ble_eq_true rfl) rfl ?_
    refine e_aload dX1_answerTo_11 rfl ?_
    refine e_getE dX1_answerTo_13 fl_X1_95 rfl (by first | exact k_n hK | exact k_cn hK (by first | omega | (simp (disch := omega) only [upN_n, upN_s]; omega)) | assumption) ?_
    first | ((with_reducible refine mk_b ?_); refine b_if_ne (tgt := 21) dX1_answerTo_16 (by decide) (fun h16 => ?_) (fun h16 => ?_)) | ((with_reducible refine mk_ll ?_); refine m_if_ne (tgt := 21) dX1_answerTo_16 (by decide) (by omega) (by omega) (fun h16 => ?_) (fun h16 => ?_)) | ((with_reducible refine mk_lc ?_); refine l_if_ne (tgt := 21) dX1_answerTo_16 (by decide) (fun h16 => ?_) (fun h16 => ?_)) | ((with_reducible refine mk_n ?_); refine n_if_ne (tgt := 21) dX1_answerTo_16 (by decide) (by omega) (fun h16 => ?_) (fun h16 => ?_)) | refine e_if_ne (tgt := 21) dX1_answerTo_16 (by decide) (fun h16 => ?_) (fun h16 => ?_)
    · try first | contradiction | omega | (simp only [decide_eq_true_eq, decide_eq_false_iff_not] at h16; omega)
      all_goals
        refine e_aload dX1_answerTo_21 rfl ?_
        refine e_iload_n dX1_answerTo_23 rfl rfl ?_
        refine x_V1 (M' := mX8_indexOf) dX1_answerTo_24 ml_X1_46 ok_X8_indexOf (by decide) rfl im_X8_indexOf se_X8_indexOf (by first | exact ct_X8_indexOf cm iv hK (by omega) | exact ct_cX8_indexOf cm iv hK (by omega) (by omega) (by omega)) (Nat.le_of_ble_eq_true rfl) (by decide) (Nat.le_of_ble_eq_true rfl) ?_
        refine e_istore dX1_answerTo_27 (Nat.le_of_ble_eq_true rfl) rfl ?_
        refine e_aload_n dX1_answerTo_29 rfl rfl ?_
        refine e_getR dX1_answerTo_30 fl_X1_9 rfl (ca_w cm) ?_
        refine e_aload dX1_answerTo_33 rfl ?_
        refine e_getR dX1_answerTo_35 fl_X1_67 rfl (by first | exact cm_tow cm | exact cm_ctow cm (by omega) | assumption) ?_
        refine e_iload dX1_answerTo_38 rfl ?_
        refine e_iadE _ dX1_answerTo_40 ⟨by decide, by decide⟩ rfl rfl (by simp only [lenK]; omega) (by first | exact k_ow hK (by first | omega | (simp (disch := omega) only [upN_n, upN_s]; omega)) | exact k_cow hK (by omega) (by first | omega | (simp (disch := omega) only [upN_n, upN_s]; omega)) | assumption) ?_
        refine x_V1 (M' := mX9_isUp) dX1_answerTo_41 ml_X1_98 ok_X9_isUp (by decide) rfl im_X9_isUp se_X9_isUp (ct_X9_isUp cm iv hK (by omega)) (Nat.le_of_ble_eq_true rfl) (by decide) (Nat.le_of_ble_eq_true rfl) ?_
        first | ((with_reducible refine mk_b ?_); refine b_if_ne (tgt := 49) dX1_answerTo_44 (by decide) (fun h44 => ?_) (fun h44 => ?_)) | ((with_reducible refine mk_ll ?_); refine m_if_ne (tgt := 49) dX1_answerTo_44 (by decide) (by omega) (by omega) (fun h44 => ?_) (fun h44 => ?_)) | ((with_reducible refine mk_lc ?_); refine l_if_ne (tgt := 49) dX1_answerTo_44 (by decide) (fun h44 => ?_) (fun h44 => ?_)) | ((with_reducible refine mk_n ?_); refine n_if_ne (tgt := 49) dX1_answerTo_44 (by decide) (by omega) (fun h44 => ?_) (fun h44 => ?_)) | refine e_if_ne (tgt := 49) dX1_answerTo_44 (by decide) (fun h44 => ?_) (fun h44 => ?_)
        · try first | contradiction | omega | (simp only [decide_eq_true_eq, decide_eq_false_iff_not] at h44; omega)
          all_goals
            refine e_aload_n dX1_answerTo_49 rfl rfl ?_
            refine e_getR dX1_answerTo_50 fl_X1_9 rfl (ca_w cm) ?_
            refine e_getR dX1_answerTo_53 fl_X1_29 rfl (cm_map cm) ?_
            refine e_iload_n dX1_answerTo_56 rfl rfl ?_
            refine x_V1 (M' := mX8_indexOf) dX1_answerTo_57 ml_X1_46 ok_X8_indexOf (by decide) rfl im_X8_indexOf se_X8_indexOf (by first | exact ct_X8_indexOf cm iv hK (by omega) | exact ct_cX8_indexOf cm iv hK (by omega) (by omega) (by omega)) (Nat.le_of_ble_eq_true rfl) (by decide) (Nat.le_of_ble_eq_true rfl) ?_
            refine e_istore dX1_answerTo_60 (Nat.le_of_ble_eq_true rfl) rfl ?_
            refine e_aload dX1_answerTo_62 rfl ?_
            refine e_getR dX1_answerTo_64 fl_X1_67 rfl (by first | exact cm_tow cm | exact cm_ctow cm (by omega) | assumption) ?_
            refine e_iload dX1_answerTo_67 rfl ?_
            refine e_iadE _ dX1_answerTo_69 ⟨by decide, by decide⟩ rfl rfl (by simp only [lenK]; omega) (by first | exact k_ow hK (by first | omega | (simp (disch := omega) only [upN_n, upN_s]; omega)) | exact k_cow hK (by omega) (by first | omega | (simp (disch := omega) only [upN_n, upN_s]; omega)) | assumption) ?_
            refine e_aload_n dX1_answerTo_70 rfl rfl ?_
            refine e_getR dX1_answerTo_71 fl_X1_9 rfl (ca_w cm) ?_
            refine e_getR dX1_answerTo_74 fl_X1_29 rfl (cm_map cm) ?_
            refine e_getR dX1_answerTo_77 fl_X1_67 rfl (by first | exact cm_tow cm | exact cm_ctow cm (by omega) | assumption) ?_
            refine e_iload dX1_answerTo_80 rfl ?_
            refine e_iadE _ dX1_answerTo_82 ⟨by decide, by decide⟩ rfl rfl (by simp only [lenK]; omega) (by first | exact k_ow hK (by first | omega | (simp (disch := omega) only [upN_n, upN_s]; omega)) | exact k_cow hK (by omega) (by first | omega | (simp (disch := omega) only [upN_n, upN_s]; omega)) | assumption) ?_
            first | ((with_reducible refine mk_mo ?_); refine p_icmp_ne (tgt := 110) dX1_answerTo_83 (by decide) (fun h83 => ?_) (fun h83 => ?_)) | ((with_reducible refine mk_ms ?_); refine s_icmp_ne (tgt := 110) dX1_answerTo_83 (by decide) (by omega) (fun h83 => ?_) (fun h83 => ?_)) | ((with_reducible refine mk_mn ?_); refine q_icmp_ne (tgt := 110) dX1_answerTo_83 (by decide) (by omega) (fun h83 => ?_) (fun h83 => ?_)) | ((with_reducible refine mk_nn ?_); refine n_icmp_ne (tgt := 110) dX1_answerTo_83 (by decide) (by omega) (by omega) (fun h83 => ?_) (fun h83 => ?_)) | refine e_icmp_ne (tgt := 110) dX1_answerTo_83 (by decide) (fun h83 => ?_) (fun h83 => ?_)
            · try first | contradiction | omega
              all_goals
                refine e_iconst (v := nI 3) dX1_answerTo_110 rfl ?_
                refine e_ret (some _) rfl (r_int dX1_answerTo_111 rfl) ?_
                refine xq ?_ rfl rfl rfl rfl rfl
                congr 3
                rw [e]
                grind
            · try first | contradiction | omega
              all_goals
                refine e_aload dX1_answerTo_86 rfl ?_
                refine e_getR dX1_answerTo_88 fl_X1_54 rfl (by first | exact cm_tep cm | exact cm_ctep cm (by omega) | assumption) ?_
                refine e_iload dX1_answerTo_91 rfl ?_
                refine e_iadE _ dX1_answerTo_93 ⟨by decide, by decide⟩ rfl rfl (by simp only [lenK]; omega) (by first | exact k_ep hK (by first | omega | (simp (disch := omega) only [upN_n, upN_s]; omega)) | exact k_cep hK (by omega) (by first | omega | (simp (disch := omega) only [upN_n, upN_s]; omega)) | assumption) ?_
                refine e_aload_n dX1_answerTo_94 rfl rfl ?_
                refine e_getR dX1_answerTo_95 fl_X1_9 rfl (ca_w cm) ?_
                refine e_getR dX1_answerTo_98 fl_X1_29 rfl (cm_map cm) ?_
                refine e_getR dX1_answerTo_101 fl_X1_54 rfl (by first | exact cm_tep cm | exact cm_ctep cm (by omega) | assumption) ?_
                refine e_iload dX1_answerTo_104 rfl ?_
                refine e_iadE _ dX1_answerTo_106 ⟨by decide, by decide⟩ rfl rfl (by simp only [lenK]; omega) (by first | exact k_ep hK (by first | omega | (simp (disch := omega) only [upN_n, upN_s]; omega)) | exact k_cep hK (by omega) (by first | omega | (simp (disch := omega) only [upN_n, upN_s]; omega)) | assumption) ?_
                first | ((with_reducible refine mk_mo ?_); refine p_icmp_eq (tgt := 112) dX1_answerTo_107 (by decide) (fun h107 => ?_) (fun h107 => ?_)) | ((with_reducible refine mk_ms ?_); refine s_icmp_eq (tgt := 112) dX1_answerTo_107 (by decide) (by omega) (fun h107 => ?_) (fun h107 => ?_)) | ((with_reducible refine mk_mn ?_); refine q_icmp_eq (tgt := 112) dX1_answerTo_107 (by decide) (by omega) (fun h107 => ?_) (fun h107 => ?_)) | ((with_reducible refine mk_nn ?_); refine n_icmp_eq (tgt := 112) dX1_answerTo_107 (by decide) (by omega) (by omega) (fun h107 => ?_) (fun h107 => ?_)) | refine e_icmp_eq (tgt := 112) dX1_answerTo_107 (by decide) (fun h107 => ?_) (fun h107 => ?_)
                · try first | contradiction | omega
                  all_goals
                    refine e_aload_n dX1_answerTo_112 rfl rfl ?_
                    refine e_getR dX1_answerTo_113 fl_X1_9 rfl (ca_w cm) ?_
                    refine e_aload_n dX1_answerTo_116 rfl rfl ?_
                    refine e_getR dX1_answerTo_117 fl_X1_9 rfl (ca_w cm) ?_
                    refine e_getR dX1_answerTo_120 fl_X1_29 rfl (cm_map cm) ?_
                    refine e_getR dX1_answerTo_123 fl_X1_79 rfl (by first | exact cm_tlo cm | exact cm_ctlo cm (by omega) | assumption) ?_
                    refine e_iload dX1_answerTo_126 rfl ?_
                    refine e_iadE _ dX1_answerTo_128 ⟨by decide, by decide⟩ rfl rfl (by simp only [lenK]; omega) (by first | exact k_lo hK (by first | omega | (simp (disch := omega) only [upN_n, upN_s]; omega)) | exact k_clo hK (by omega) (by first | omega | (simp (disch := omega) only [upN_n, upN_s]; omega)) | assumption) ?_
                    refine x_V1 (M' := mX9_moveAt) dX1_answerTo_129 ml_X1_82 ok_X9_moveAt (by decide) rfl im_X9_moveAt se_X9_moveAt (ct_X9_moveAt cm iv hK (by omega)) (Nat.le_of_ble_eq_true rfl) (by decide) (Nat.le_of_ble_eq_true rfl) ?_
                    refine e_istore dX1_answerTo_132 (Nat.le_of_ble_eq_true rfl) rfl ?_
                    refine e_iload_n dX1_answerTo_134 rfl rfl ?_
                    first | ((with_reducible refine mk_b ?_); refine b_if_eq (tgt := 163) dX1_answerTo_135 (by decide) (fun h135 => ?_) (fun h135 => ?_)) | ((with_reducible refine mk_ll ?_); refine m_if_eq (tgt := 163) dX1_answerTo_135 (by decide) (by omega) (by omega) (fun h135 => ?_) (fun h135 => ?_)) | ((with_reducible refine mk_lc ?_); refine l_if_eq (tgt := 163) dX1_answerTo_135 (by decide) (fun h135 => ?_) (fun h135 => ?_)) | ((with_reducible refine mk_n ?_); refine n_if_eq (tgt := 163) dX1_answerTo_135 (by decide) (by omega) (fun h135 => ?_) (fun h135 => ?_)) | refine e_if_eq (tgt := 163) dX1_answerTo_135 (by decide) (fun h135 => ?_) (fun h135 => ?_)
                    · try first | contradiction | omega | (simp only [decide_eq_true_eq, decide_eq_false_iff_not] at h135; omega)
                      all_goals
                        refine e_iconst (v := nI 0) dX1_answerTo_163 rfl ?_
                        refine e_ret (some _) rfl (r_int dX1_answerTo_164 rfl) ?_
                        refine xq ?_ rfl rfl rfl rfl rfl
                        congr 3
                        rw [e]
                        grind
                    · try first | contradiction | omega | (simp only [decide_eq_true_eq, decide_eq_false_iff_not] at h135; omega)
                      all_goals
                        refine e_iload dX1_answerTo_138 rfl ?_
                        refine e_iconst (v := -1) dX1_answerTo_140 rfl ?_
                        first | ((with_reducible refine mk_mo ?_); refine p_icmp_eq (tgt := 163) dX1_answerTo_141 (by decide) (fun h141 => ?_) (fun h141 => ?_)) | ((with_reducible refine mk_ms ?_); refine s_icmp_eq (tgt := 163) dX1_answerTo_141 (by decide) (by omega) (fun h141 => ?_) (fun h141 => ?_)) | ((with_reducible refine mk_mn ?_); refine q_icmp_eq (tgt := 163) dX1_answerTo_141 (by decide) (by omega) (fun h141 => ?_) (fun h141 => ?_)) | ((with_reducible refine mk_nn ?_); refine n_icmp_eq (tgt := 163) dX1_answerTo_141 (by decide) (by omega) (by omega) (fun h141 => ?_) (fun h141 => ?_)) | refine e_icmp_eq (tgt := 163) dX1_answerTo_141 (by decide) (fun h141 => ?_) (fun h141 => ?_)
                        · try first | contradiction | omega
                          all_goals
                            refine e_iconst (v := nI 0) dX1_answerTo_163 rfl ?_
                            refine e_ret (some _) rfl (r_int dX1_answerTo_164 rfl) ?_
                            refine xq ?_ rfl rfl rfl rfl rfl
                            congr 3
                            rw [e]
                            grind
                        · try first | contradiction | omega
                          all_goals
                            refine e_aload_n dX1_answerTo_144 rfl rfl ?_
                            refine e_getR dX1_answerTo_145 fl_X1_9 rfl (ca_w cm) ?_
                            refine e_getR dX1_answerTo_148 fl_X1_85 rfl (cm_mvs cm) ?_
                            refine e_iload dX1_answerTo_151 rfl ?_
                            refine e_aald _ dX1_answerTo_153 ⟨by decide, by decide⟩ rfl rfl (by simp only [lenK]; omega) (cm_mo cm (by omega)) ?_
                            refine e_iload_n dX1_answerTo_154 rfl rfl ?_
                            refine x_V1 (M' := mX4_refusesWrite) dX1_answerTo_155 ml_X1_101 ok_X4_refusesWrite (by decide) rfl im_X4_refusesWrite se_X4_refusesWrite (ct_X4_refusesWrite cm iv hK (by omega) (by omega) (by omega)) (Nat.le_of_ble_eq_true rfl) (by decide) (Nat.le_of_ble_eq_true rfl) ?_
                            first | ((with_reducible refine mk_b ?_); refine b_if_eq (tgt := 163) dX1_answerTo_158 (by decide) (fun h158 => ?_) (fun h158 => ?_)) | ((with_reducible refine mk_ll ?_); refine m_if_eq (tgt := 163) dX1_answerTo_158 (by decide) (by omega) (by omega) (fun h158 => ?_) (fun h158 => ?_)) | ((with_reducible refine mk_lc ?_); refine l_if_eq (tgt := 163) dX1_answerTo_158 (by decide) (fun h158 => ?_) (fun h158 => ?_)) | ((with_reducible refine mk_n ?_); refine n_if_eq (tgt := 163) dX1_answerTo_158 (by decide) (by omega) (fun h158 => ?_) (fun h158 => ?_)) | refine e_if_eq (tgt := 163) dX1_answerTo_158 (by decide) (fun h158 => ?_) (fun h158 => ?_)
                            · try first | contradiction | omega | (simp only [decide_eq_true_eq, decide_eq_false_iff_not] at h158; omega)
                              all_goals
                                refine e_iconst (v := nI 0) dX1_answerTo_163 rfl ?_
                                refine e_ret (some _) rfl (r_int dX1_answerTo_164 rfl) ?_
                                refine xq ?_ rfl rfl rfl rfl rfl
                                congr 3
                                rw [e]
                                grind
                            · try first | contradiction | omega | (simp only [decide_eq_true_eq, decide_eq_false_iff_not] at h158; omega)
                              all_goals
                                refine e_iconst (v := nI 4) dX1_answerTo_161 rfl ?_
                                refine e_ret (some _) rfl (r_int dX1_answerTo_162 rfl) ?_
                                refine xq ?_ rfl rfl rfl rfl rfl
                                congr 3
                                rw [e]
                                grind
                · try first | contradiction | omega
                  all_goals
                    refine e_iconst (v := nI 3) dX1_answerTo_110 rfl ?_
                    refine e_ret (some _) rfl (r_int dX1_answerTo_111 rfl) ?_
                    refine xq ?_ rfl rfl rfl rfl rfl
                    congr 3
                    rw [e]
                    grind
        · try first | contradiction | omega | (simp only [decide_eq_true_eq, decide_eq_false_iff_not] at h44; omega)
          all_goals
            refine e_iconst (v := nI 2) dX1_answerTo_47 rfl ?_
            refine e_ret (some _) rfl (r_int dX1_answerTo_48 rfl) ?_
            refine xq ?_ rfl rfl rfl rfl rfl
            congr 3
            rw [e]
            grind
    · try first | contradiction | omega | (simp only [decide_eq_true_eq, decide_eq_false_iff_not] at h16; omega)
      all_goals
        omega
theorem ct_ans1 {fi : FI} {fr : FR} {ai : FI} {ar : FR} {N : Nat} {w lg : Nat → Nat} {E : Nat} (cm : CM fr ar) (iv : Inv w) (hK : K fi ai w lg E) {c k : Nat} (hc : c < 6) (hk : k < 1000) {v : Nat} (hv : 0 < v) : CP mX1_answerTo 2 0 0 [.ref (rf 1 71), .int (nI c), .int (nI k), .int (nI 1)] fi fr ai ar N (xQ (some (.int (nI (asA w c k v)))) fi fr ai ar N) := by
  have h1 := iv_n iv
  have h3 := iv_mm iv
  have bd := Bd_iv iv
  have hF : FR1 fi ai fi ai := FR1_rf
  have hcl := iv_cl iv hc
  have hsp := spW_lt iv k
  have hlo := iv_low iv hsp
  have how := iv_own iv hsp
  have hep := iv_ep iv hsp
  have he0 := iv_ep0 iv
  change EV mX1_answerTo 2 0 0 0 [some (.ref (rf 1 71)), some (.int (nI c)), some (.int (nI k)), some (.int (nI 1)), none, none, none, none] [] fi fr ai ar N (xQ (some (.int (nI (asA w c k v)))) fi fr ai ar N)
  by_cases h0 : w (7106 + 98 * c + 1) = 0
  · have e : anF w c k = 1 := by unfold anF; rw [if_pos (hcl.2.1.mpr h0)]
    have e4 : asA w c k v = 1 := by unfold asA; rw [e, if_neg (fun q => absurd q.1 (by decide))]
    rw [e4]
    refine e_aload_n dX1_answerTo_0 rfl rfl ?_
    refine e_getR dX1_answerTo_1 fl_X1_9 rfl (ca_w cm) ?_
    refine e_getR dX1_answerTo_4 fl_X1_23 rfl (cm_cas cm) ?_
    refine e_iload_n dX1_answerTo_7 rfl rfl ?_
    refine e_aald _ dX1_answerTo_8 ⟨by decide, by decide⟩ rfl rfl (by simp only [lenK]; omega) (cm_ca cm (by omega)) ?_
    refine e_astore dX1_answerTo_9 (Nat.le_of_ble_eq_true rfl) rfl ?_
    refine e_aload dX1_answerTo_11 rfl ?_
    refine e_getE dX1_answerTo_13 fl_X1_95 rfl (by first | exact k_n hK | exact k_cn hK (by first | omega | (simp (disch := omega) only [upN_n, upN_s]; omega)) | assumption) ?_
    first | ((with_reducible refine mk_b ?_); refine b_if_ne (tgt := 21) dX1_answerTo_16 (by decide) (fun h16 => ?_) (fun h16 => ?_)) | ((with_reducible refine mk_ll ?_); refine m_if_ne (tgt := 21) dX1_answerTo_16 (by decide) (by omega) (by omega) (fun h16 => ?_) (fun h16 => ?_)) | ((with_reducible refine mk_lc ?_); refine l_if_ne (tgt := 21) dX1_answerTo_16 (by decide) (fun h16 => ?_) (fun h16 => ?_)) | ((with_reducible refine mk_n ?_); refine n_if_ne (tgt := 21) dX1_answerTo_16 (by decide) (by omega) (fun h16 => ?_) (fun h16 => ?_)) | refine e_if_ne (tgt := 21) dX1_answerTo_16 (by decide) (fun h16 => ?_) (fun h16 => ?_)
    · try first | contradiction | omega | (simp only [decide_eq_true_eq, decide_eq_false_iff_not] at h16; omega)
      all_goals
        omega
    · try first | contradiction | omega | (simp only [decide_eq_true_eq, decide_eq_false_iff_not] at h16; omega)
      all_goals
        refine e_iconst (v := nI 1) dX1_answerTo_19 rfl ?_
        refine e_ret (some _) rfl (r_int dX1_answerTo_20 rfl) ?_
        exact xq rfl rfl rfl rfl rfl rfl
  · have hn0 : ¬ w (7106 + 98 * c + 0) = 0 := fun q => h0 (hcl.2.1.mp q)
    have hlt := cW_lt iv hc hn0 k
    have hco := hcl.2.2.2.2 _ hlt
    have hup := iv_up iv (s := w (7106 + 98 * c + 34 + cW w c k)) hco.2.1
    have e : anF w c k = if w (4 + w (7106 + 98 * c + 34 + cW w c k)) = 0 then 2 else if w (7106 + 98 * c + 34 + cW w c k) = w (42 + spW w k) ∧ w (7106 + 98 * c + 66 + cW w c k) = w (74 + spW w k) then 0 else 3 := by unfold anF; rw [if_neg hn0]
    have e4 : asA w c k v = if anF w c k = 0 ∧ fzK w k = true then 4 else anF w c k := by
      unfold asA
      by_cases q : anF w c k = 0 ∧ fzK w k = true
      · rw [if_pos q, if_pos ⟨q.1, hv, q.2⟩]
      · rw [if_neg q, if_neg (fun z => q ⟨z.1, z.2.2⟩)]
    cases hmv : mvL w (w (10 + spW w k)) with
    | none =>
      have ef : fzK w k = false := by unfold fzK; rw [hmv]
      rw [ef] at e4
      refine e_aload_n dX1_answerTo_0 rfl rfl ?_
      refine e_getR dX1_answerTo_1 fl_X1_9 rfl (ca_w cm) ?_
      refine e_getR dX1_answerTo_4 fl_X1_23 rfl (cm_cas cm) ?_
      refine e_iload_n dX1_answerTo_7 rfl rfl ?_
      refine e_aald _ dX1_answerTo_8 ⟨by decide, by decide⟩ rfl rfl (by simp only [lenK]; omega) (cm_ca cm (by omega)) ?_
      refine e_astore dX1_answerTo_9 (Nat.le_of_ble_eq_true rfl) rfl ?_
      refine e_aload dX1_answerTo_11 rfl ?_
      refine e_getE dX1_answerTo_13 fl_X1_95 rfl (by first | exact k_n hK | exact k_cn hK (by first | omega | (simp (disch := omega) only [upN_n, upN_s]; omega)) | assumption) ?_
      first | ((with_reducible refine mk_b ?_); refine b_if_ne (tgt := 21) dX1_answerTo_16 (by decide) (fun h16 => ?_) (fun h16 => ?_)) | ((with_reducible refine mk_ll ?_); refine m_if_ne (tgt := 21) dX1_answerTo_16 (by decide) (by omega) (by omega) (fun h16 => ?_) (fun h16 => ?_)) | ((with_reducible refine mk_lc ?_); refine l_if_ne (tgt := 21) dX1_answerTo_16 (by decide) (fun h16 => ?_) (fun h16 => ?_)) | ((with_reducible refine mk_n ?_); refine n_if_ne (tgt := 21) dX1_answerTo_16 (by decide) (by omega) (fun h16 => ?_) (fun h16 => ?_)) | refine e_if_ne (tgt := 21) dX1_answerTo_16 (by decide) (fun h16 => ?_) (fun h16 => ?_)
      · try first | contradiction | omega | (simp only [decide_eq_true_eq, decide_eq_false_iff_not] at h16; omega)
        all_goals
          refine e_aload dX1_answerTo_21 rfl ?_
          refine e_iload_n dX1_answerTo_23 rfl rfl ?_
          refine x_V1 (M' := mX8_indexOf) dX1_answerTo_24 ml_X1_46 ok_X8_indexOf (by decide) rfl im_X8_indexOf se_X8_indexOf (by first | exact ct_X8_indexOf cm iv hK (by omega) | exact ct_cX8_indexOf cm iv hK (by omega) (by omega) (by omega)) (Nat.le_of_ble_eq_true rfl) (by decide) (Nat.le_of_ble_eq_true rfl) ?_
          refine e_istore dX1_answerTo_27 (Nat.le_of_ble_eq_true rfl) rfl ?_
          refine e_aload_n dX1_answerTo_29 rfl rfl ?_
          refine e_getR dX1_answerTo_30 fl_X1_9 rfl (ca_w cm) ?_
          refine e_aload dX1_answerTo_33 rfl ?_
          refine e_getR dX1_answerTo_35 fl_X1_67 rfl (by first | exact cm_tow cm | exact cm_ctow cm (by omega) | assumption) ?_
          refine e_iload dX1_answerTo_38 rfl ?_
          refine e_iadE _ dX1_answerTo_40 ⟨by decide, by decide⟩ rfl rfl (by simp only [lenK]; omega) (by first | exact k_ow hK (by first | omega | (simp (disch := omega) only [upN_n, upN_s]; omega)) | exact k_cow hK (by omega) (by first | omega | (simp (disch := omega) only [upN_n, upN_s]; omega)) | assumption) ?_
          refine x_V1 (M' := mX9_isUp) dX1_answerTo_41 ml_X1_98 ok_X9_isUp (by decide) rfl im_X9_isUp se_X9_isUp (ct_X9_isUp cm iv hK (by omega)) (Nat.le_of_ble_eq_true rfl) (by decide) (Nat.le_of_ble_eq_true rfl) ?_
          first | ((with_reducible refine mk_b ?_); refine b_if_ne (tgt := 49) dX1_answerTo_44 (by decide) (fun h44 => ?_) (fun h44 => ?_)) | ((with_reducible refine mk_ll ?_); refine m_if_ne (tgt := 49) dX1_answerTo_44 (by decide) (by omega) (by omega) (fun h44 => ?_) (fun h44 => ?_)) | ((with_reducible refine mk_lc ?_); refine l_if_ne (tgt := 49) dX1_answerTo_44 (by decide) (fun h44 => ?_) (fun h44 => ?_)) | ((with_reducible refine mk_n ?_); refine n_if_ne (tgt := 49) dX1_answerTo_44 (by decide) (by omega) (fun h44 => ?_) (fun h44 => ?_)) | refine e_if_ne (tgt := 49) dX1_answerTo_44 (by decide) (fun h44 => ?_) (fun h44 => ?_)
          · try first | contradiction | omega | (simp only [decide_eq_true_eq, decide_eq_false_iff_not] at h44; omega)
            all_goals
              refine e_aload_n dX1_answerTo_49 rfl rfl ?_
              refine e_getR dX1_answerTo_50 fl_X1_9 rfl (ca_w cm) ?_
              refine e_getR dX1_answerTo_53 fl_X1_29 rfl (cm_map cm) ?_
              refine e_iload_n dX1_answerTo_56 rfl rfl ?_
              refine x_V1 (M' := mX8_indexOf) dX1_answerTo_57 ml_X1_46 ok_X8_indexOf (by decide) rfl im_X8_indexOf se_X8_indexOf (by first | exact ct_X8_indexOf cm iv hK (by omega) | exact ct_cX8_indexOf cm iv hK (by omega) (by omega) (by omega)) (Nat.le_of_ble_eq_true rfl) (by decide) (Nat.le_of_ble_eq_true rfl) ?_
              refine e_istore dX1_answerTo_60 (Nat.le_of_ble_eq_true rfl) rfl ?_
              refine e_aload dX1_answerTo_62 rfl ?_
              refine e_getR dX1_answerTo_64 fl_X1_67 rfl (by first | exact cm_tow cm | exact cm_ctow cm (by omega) | assumption) ?_
              refine e_iload dX1_answerTo_67 rfl ?_
              refine e_iadE _ dX1_answerTo_69 ⟨by decide, by decide⟩ rfl rfl (by simp only [lenK]; omega) (by first | exact k_ow hK (by first | omega | (simp (disch := omega) only [upN_n, upN_s]; omega)) | exact k_cow hK (by omega) (by first | omega | (simp (disch := omega) only [upN_n, upN_s]; omega)) | assumption) ?_
              refine e_aload_n dX1_answerTo_70 rfl rfl ?_
              refine e_getR dX1_answerTo_71 fl_X1_9 rfl (ca_w cm) ?_
              refine e_getR dX1_answerTo_74 fl_X1_29 rfl (cm_map cm) ?_
              refine e_getR dX1_answerTo_77 fl_X1_67 rfl (by first | exact cm_tow cm | exact cm_ctow cm (by omega) | assumption) ?_
              refine e_iload dX1_answerTo_80 rfl ?_
              refine e_iadE _ dX1_answerTo_82 ⟨by decide, by decide⟩ rfl rfl (by simp only [lenK]; omega) (by first | exact k_ow hK (by first | omega | (simp (disch := omega) only [upN_n, upN_s]; omega)) | exact k_cow hK (by omega) (by first | omega | (simp (disch := omega) only [upN_n, upN_s]; omega)) | assumption) ?_
              first | ((with_reducible refine mk_mo ?_); refine p_icmp_ne (tgt := 110) dX1_answerTo_83 (by decide) (fun h83 => ?_) (fun h83 => ?_)) | ((with_reducible refine mk_ms ?_); refine s_icmp_ne (tgt := 110) dX1_answerTo_83 (by decide) (by omega) (fun h83 => ?_) (fun h83 => ?_)) | ((with_reducible refine mk_mn ?_); refine q_icmp_ne (tgt := 110) dX1_answerTo_83 (by decide) (by omega) (fun h83 => ?_) (fun h83 => ?_)) | ((with_reducible refine mk_nn ?_); refine n_icmp_ne (tgt := 110) dX1_answerTo_83 (by decide) (by omega) (by omega) (fun h83 => ?_) (fun h83 => ?_)) | refine e_icmp_ne (tgt := 110) dX1_answerTo_83 (by decide) (fun h83 => ?_) (fun h83 => ?_)
              · try first | contradiction | omega
                all_goals
                  refine e_iconst (v := nI 3) dX1_answerTo_110 rfl ?_
                  refine e_ret (some _) rfl (r_int dX1_answerTo_111 rfl) ?_
                  refine xq ?_ rfl rfl rfl rfl rfl
                  congr 3
                  rw [e4, e]
                  grind
              · try first | contradiction | omega
                all_goals
                  refine e_aload dX1_answerTo_86 rfl ?_
                  refine e_getR dX1_answerTo_88 fl_X1_54 rfl (by first | exact cm_tep cm | exact cm_ctep cm (by omega) | assumption) ?_
                  refine e_iload dX1_answerTo_91 rfl ?_
                  refine e_iadE _ dX1_answerTo_93 ⟨by decide, by decide⟩ rfl rfl (by simp only [lenK]; omega) (by first | exact k_ep hK (by first | omega | (simp (disch := omega) only [upN_n, upN_s]; omega)) | exact k_cep hK (by omega) (by first | omega | (simp (disch := omega) only [upN_n, upN_s]; omega)) | assumption) ?_
                  refine e_aload_n dX1_answerTo_94 rfl rfl ?_
                  refine e_getR dX1_answerTo_95 fl_X1_9 rfl (ca_w cm) ?_
                  refine e_getR dX1_answerTo_98 fl_X1_29 rfl (cm_map cm) ?_
                  refine e_getR dX1_answerTo_101 fl_X1_54 rfl (by first | exact cm_tep cm | exact cm_ctep cm (by omega) | assumption) ?_
                  refine e_iload dX1_answerTo_104 rfl ?_
                  refine e_iadE _ dX1_answerTo_106 ⟨by decide, by decide⟩ rfl rfl (by simp only [lenK]; omega) (by first | exact k_ep hK (by first | omega | (simp (disch := omega) only [upN_n, upN_s]; omega)) | exact k_cep hK (by omega) (by first | omega | (simp (disch := omega) only [upN_n, upN_s]; omega)) | assumption) ?_
                  first | ((with_reducible refine mk_mo ?_); refine p_icmp_eq (tgt := 112) dX1_answerTo_107 (by decide) (fun h107 => ?_) (fun h107 => ?_)) | ((with_reducible refine mk_ms ?_); refine s_icmp_eq (tgt := 112) dX1_answerTo_107 (by decide) (by omega) (fun h107 => ?_) (fun h107 => ?_)) | ((with_reducible refine mk_mn ?_); refine q_icmp_eq (tgt := 112) dX1_answerTo_107 (by decide) (by omega) (fun h107 => ?_) (fun h107 => ?_)) | ((with_reducible refine mk_nn ?_); refine n_icmp_eq (tgt := 112) dX1_answerTo_107 (by decide) (by omega) (by omega) (fun h107 => ?_) (fun h107 => ?_)) | refine e_icmp_eq (tgt := 112) dX1_answerTo_107 (by decide) (fun h107 => ?_) (fun h107 => ?_)
                  · try first | contradiction | omega
                    all_goals
                      refine e_aload_n dX1_answerTo_112 rfl rfl ?_
                      refine e_getR dX1_answerTo_113 fl_X1_9 rfl (ca_w cm) ?_
                      refine e_aload_n dX1_answerTo_116 rfl rfl ?_
                      refine e_getR dX1_answerTo_117 fl_X1_9 rfl (ca_w cm) ?_
                      refine e_getR dX1_answerTo_120 fl_X1_29 rfl (cm_map cm) ?_
                      refine e_getR dX1_answerTo_123 fl_X1_79 rfl (by first | exact cm_tlo cm | exact cm_ctlo cm (by omega) | assumption) ?_
                      refine e_iload dX1_answerTo_126 rfl ?_
                      refine e_iadE _ dX1_answerTo_128 ⟨by decide, by decide⟩ rfl rfl (by simp only [lenK]; omega) (by first | exact k_lo hK (by first | omega | (simp (disch := omega) only [upN_n, upN_s]; omega)) | exact k_clo hK (by omega) (by first | omega | (simp (disch := omega) only [upN_n, upN_s]; omega)) | assumption) ?_
                      refine x_V1 (M' := mX9_moveAt) dX1_answerTo_129 ml_X1_82 ok_X9_moveAt (by decide) rfl im_X9_moveAt se_X9_moveAt (ct_X9_moveAt cm iv hK (by omega)) (Nat.le_of_ble_eq_true rfl) (by decide) (Nat.le_of_ble_eq_true rfl) ?_
                      rw [hmv]
                      refine e_istore dX1_answerTo_132 (Nat.le_of_ble_eq_true rfl) rfl ?_
                      refine e_iload_n dX1_answerTo_134 rfl rfl ?_
                      first | ((with_reducible refine mk_b ?_); refine b_if_eq (tgt := 163) dX1_answerTo_135 (by decide) (fun h135 => ?_) (fun h135 => ?_)) | ((with_reducible refine mk_ll ?_); refine m_if_eq (tgt := 163) dX1_answerTo_135 (by decide) (by omega) (by omega) (fun h135 => ?_) (fun h135 => ?_)) | ((with_reducible refine mk_lc ?_); refine l_if_eq (tgt := 163) dX1_answerTo_135 (by decide) (fun h135 => ?_) (fun h135 => ?_)) | ((with_reducible refine mk_n ?_); refine n_if_eq (tgt := 163) dX1_answerTo_135 (by decide) (by omega) (fun h135 => ?_) (fun h135 => ?_)) | refine e_if_eq (tgt := 163) dX1_answerTo_135 (by decide) (fun h135 => ?_) (fun h135 => ?_)
                      · try first | contradiction | omega | (simp only [decide_eq_true_eq, decide_eq_false_iff_not] at h135; omega)
                        all_goals
                          refine e_iconst (v := nI 0) dX1_answerTo_163 rfl ?_
                          refine e_ret (some _) rfl (r_int dX1_answerTo_164 rfl) ?_
                          refine xq ?_ rfl rfl rfl rfl rfl
                          congr 3
                          rw [e4, e]
                          grind
                      · try first | contradiction | omega | (simp only [decide_eq_true_eq, decide_eq_false_iff_not] at h135; omega)
                        all_goals
                          refine e_iload dX1_answerTo_138 rfl ?_
                          refine e_iconst (v := -1) dX1_answerTo_140 rfl ?_
                          first | ((with_reducible refine mk_mo ?_); refine p_icmp_eq (tgt := 163) dX1_answerTo_141 (by decide) (fun h141 => ?_) (fun h141 => ?_)) | ((with_reducible refine mk_ms ?_); refine s_icmp_eq (tgt := 163) dX1_answerTo_141 (by decide) (by omega) (fun h141 => ?_) (fun h141 => ?_)) | ((with_reducible refine mk_mn ?_); refine q_icmp_eq (tgt := 163) dX1_answerTo_141 (by decide) (by omega) (fun h141 => ?_) (fun h141 => ?_)) | ((with_reducible refine mk_nn ?_); refine n_icmp_eq (tgt := 163) dX1_answerTo_141 (by decide) (by omega) (by omega) (fun h141 => ?_) (fun h141 => ?_)) | refine e_icmp_eq (tgt := 163) dX1_answerTo_141 (by decide) (fun h141 => ?_) (fun h141 => ?_)
                          · try first | contradiction | omega
                            all_goals
                              refine e_iconst (v := nI 0) dX1_answerTo_163 rfl ?_
                              refine e_ret (some _) rfl (r_int dX1_answerTo_164 rfl) ?_
                              refine xq ?_ rfl rfl rfl rfl rfl
                              congr 3
                              rw [e4, e]
                              grind
                          · try first | contradiction | omega
                            all_goals
                              refine e_aload_n dX1_answerTo_144 rfl rfl ?_
                              refine e_getR dX1_answerTo_145 fl_X1_9 rfl (ca_w cm) ?_
                              refine e_getR dX1_answerTo_148 fl_X1_85 rfl (cm_mvs cm) ?_
                              refine e_iload dX1_answerTo_151 rfl ?_
                              refine e_aald _ dX1_answerTo_153 ⟨by decide, by decide⟩ rfl rfl (by simp only [lenK]; omega) (cm_mo cm (by omega)) ?_
                              refine e_iload_n dX1_answerTo_154 rfl rfl ?_
                              refine x_V1 (M' := mX4_refusesWrite) dX1_answerTo_155 ml_X1_101 ok_X4_refusesWrite (by decide) rfl im_X4_refusesWrite se_X4_refusesWrite (ct_X4_refusesWrite cm iv hK (by omega) (by omega) (by omega)) (Nat.le_of_ble_eq_true rfl) (by decide) (Nat.le_of_ble_eq_true rfl) ?_
                              first | ((with_reducible refine mk_b ?_); refine b_if_eq (tgt := 163) dX1_answerTo_158 (by decide) (fun h158 => ?_) (fun h158 => ?_)) | ((with_reducible refine mk_ll ?_); refine m_if_eq (tgt := 163) dX1_answerTo_158 (by decide) (by omega) (by omega) (fun h158 => ?_) (fun h158 => ?_)) | ((with_reducible refine mk_lc ?_); refine l_if_eq (tgt := 163) dX1_answerTo_158 (by decide) (fun h158 => ?_) (fun h158 => ?_)) | ((with_reducible refine mk_n ?_); refine n_if_eq (tgt := 163) dX1_answerTo_158 (by decide) (by omega) (fun h158 => ?_) (fun h158 => ?_)) | refine e_if_eq (tgt := 163) dX1_answerTo_158 (by decide) (fun h158 => ?_) (fun h158 => ?_)
                              · try first | contradiction | omega | (simp only [decide_eq_true_eq, decide_eq_false_iff_not] at h158; omega)
                                all_goals
                                  refine e_iconst (v := nI 0) dX1_answerTo_163 rfl ?_
                                  refine e_ret (some _) rfl (r_int dX1_answerTo_164 rfl) ?_
                                  refine xq ?_ rfl rfl rfl rfl rfl
                                  congr 3
                                  rw [e4, e]
                                  grind
                              · try first | contradiction | omega | (simp only [decide_eq_true_eq, decide_eq_false_iff_not] at h158; omega)
                                all_goals
                                  refine e_iconst (v := nI 4) dX1_answerTo_161 rfl ?_
                                  refine e_ret (some _) rfl (r_int dX1_answerTo_162 rfl) ?_
                                  refine xq ?_ rfl rfl rfl rfl rfl
                                  congr 3
                                  rw [e4, e]
                                  grind
                  · try first | contradiction | omega
                    all_goals
                      refine e_iconst (v := nI 3) dX1_answerTo_110 rfl ?_
                      refine e_ret (some _) rfl (r_int dX1_answerTo_111 rfl) ?_
                      refine xq ?_ rfl rfl rfl rfl rfl
                      congr 3
                      rw [e4, e]
                      grind
          · try first | contradiction | omega | (simp only [decide_eq_true_eq, decide_eq_false_iff_not] at h44; omega)
            all_goals
              refine e_iconst (v := nI 2) dX1_answerTo_47 rfl ?_
              refine e_ret (some _) rfl (r_int dX1_answerTo_48 rfl) ?_
              refine xq ?_ rfl rfl rfl rfl rfl
              congr 3
              rw [e4, e]
              grind
      · try first | contradiction | omega | (simp only [decide_eq_true_eq, decide_eq_false_iff_not] at h16; omega)
        all_goals
          omega
    | some m =>
      have ef : fzK w k = fzM w m k := by unfold fzK; rw [hmv]
      obtain ⟨hm, hg, -⟩ := mvL_in hmv
      have hg := goB_e1 hg
      rw [ef] at e4
      refine e_aload_n dX1_answerTo_0 rfl rfl ?_
      refine e_getR dX1_answerTo_1 fl_X1_9 rfl (ca_w cm) ?_
      refine e_getR dX1_answerTo_4 fl_X1_23 rfl (cm_cas cm) ?_
      refine e_iload_n dX1_answerTo_7 rfl rfl ?_
      refine e_aald _ dX1_answerTo_8 ⟨by decide, by decide⟩ rfl rfl (by simp only [lenK]; omega) (cm_ca cm (by omega)) ?_
      refine e_astore dX1_answerTo_9 (Nat.le_of_ble_eq_true rfl) rfl ?_
      refine e_aload dX1_answerTo_11 rfl ?_
      refine e_getE dX1_answerTo_13 fl_X1_95 rfl (by first | exact k_n hK | exact k_cn hK (by first | omega | (simp (disch := omega) only [upN_n, upN_s]; omega)) | assumption) ?_
      first | ((with_reducible refine mk_b ?_); refine b_if_ne (tgt := 21) dX1_answerTo_16 (by decide) (fun h16 => ?_) (fun h16 => ?_)) | ((with_reducible refine mk_ll ?_); refine m_if_ne (tgt := 21) dX1_answerTo_16 (by decide) (by omega) (by omega) (fun h16 => ?_) (fun h16 => ?_)) | ((with_reducible refine mk_lc ?_); refine l_if_ne (tgt := 21) dX1_answerTo_16 (by decide) (fun h16 => ?_) (fun h16 => ?_)) | ((with_reducible refine mk_n ?_); refine n_if_ne (tgt := 21) dX1_answerTo_16 (by decide) (by omega) (fun h16 => ?_) (fun h16 => ?_)) | refine e_if_ne (tgt := 21) dX1_answerTo_16 (by decide) (fun h16 => ?_) (fun h16 => ?_)
      · try first | contradiction | omega | (simp only [decide_eq_true_eq, decide_eq_false_iff_not] at h16; omega)
        all_goals
          refine e_aload dX1_answerTo_21 rfl ?_
          refine e_iload_n dX1_answerTo_23 rfl rfl ?_
          refine x_V1 (M' := mX8_indexOf) dX1_answerTo_24 ml_X1_46 ok_X8_indexOf (by decide) rfl im_X8_indexOf se_X8_indexOf (by first | exact ct_X8_indexOf cm iv hK (by omega) | exact ct_cX8_indexOf cm iv hK (by omega) (by omega) (by omega)) (Nat.le_of_ble_eq_true rfl) (by decide) (Nat.le_of_ble_eq_true rfl) ?_
          refine e_istore dX1_answerTo_27 (Nat.le_of_ble_eq_true rfl) rfl ?_
          refine e_aload_n dX1_answerTo_29 rfl rfl ?_
          refine e_getR dX1_answerTo_30 fl_X1_9 rfl (ca_w cm) ?_
          refine e_aload dX1_answerTo_33 rfl ?_
          refine e_getR dX1_answerTo_35 fl_X1_67 rfl (by first | exact cm_tow cm | exact cm_ctow cm (by omega) | assumption) ?_
          refine e_iload dX1_answerTo_38 rfl ?_
          refine e_iadE _ dX1_answerTo_40 ⟨by decide, by decide⟩ rfl rfl (by simp only [lenK]; omega) (by first | exact k_ow hK (by first | omega | (simp (disch := omega) only [upN_n, upN_s]; omega)) | exact k_cow hK (by omega) (by first | omega | (simp (disch := omega) only [upN_n, upN_s]; omega)) | assumption) ?_
          refine x_V1 (M' := mX9_isUp) dX1_answerTo_41 ml_X1_98 ok_X9_isUp (by decide) rfl im_X9_isUp se_X9_isUp (ct_X9_isUp cm iv hK (by omega)) (Nat.le_of_ble_eq_true rfl) (by decide) (Nat.le_of_ble_eq_true rfl) ?_
          first | ((with_reducible refine mk_b ?_); refine b_if_ne (tgt := 49) dX1_answerTo_44 (by decide) (fun h44 => ?_) (fun h44 => ?_)) | ((with_reducible refine mk_ll ?_); refine m_if_ne (tgt := 49) dX1_answerTo_44 (by decide) (by omega) (by omega) (fun h44 => ?_) (fun h44 => ?_)) | ((with_reducible refine mk_lc ?_); refine l_if_ne (tgt := 49) dX1_answerTo_44 (by decide) (fun h44 => ?_) (fun h44 => ?_)) | ((with_reducible refine mk_n ?_); refine n_if_ne (tgt := 49) dX1_answerTo_44 (by decide) (by omega) (fun h44 => ?_) (fun h44 => ?_)) | refine e_if_ne (tgt := 49) dX1_answerTo_44 (by decide) (fun h44 => ?_) (fun h44 => ?_)
          · try first | contradiction | omega | (simp only [decide_eq_true_eq, decide_eq_false_iff_not] at h44; omega)
            all_goals
              refine e_aload_n dX1_answerTo_49 rfl rfl ?_
              refine e_getR dX1_answerTo_50 fl_X1_9 rfl (ca_w cm) ?_
              refine e_getR dX1_answerTo_53 fl_X1_29 rfl (cm_map cm) ?_
              refine e_iload_n dX1_answerTo_56 rfl rfl ?_
              refine x_V1 (M' := mX8_indexOf) dX1_answerTo_57 ml_X1_46 ok_X8_indexOf (by decide) rfl im_X8_indexOf se_X8_indexOf (by first | exact ct_X8_indexOf cm iv hK (by omega) | exact ct_cX8_indexOf cm iv hK (by omega) (by omega) (by omega)) (Nat.le_of_ble_eq_true rfl) (by decide) (Nat.le_of_ble_eq_true rfl) ?_
              refine e_istore dX1_answerTo_60 (Nat.le_of_ble_eq_true rfl) rfl ?_
              refine e_aload dX1_answerTo_62 rfl ?_
              refine e_getR dX1_answerTo_64 fl_X1_67 rfl (by first | exact cm_tow cm | exact cm_ctow cm (by omega) | assumption) ?_
              refine e_iload dX1_answerTo_67 rfl ?_
              refine e_iadE _ dX1_answerTo_69 ⟨by decide, by decide⟩ rfl rfl (by simp only [lenK]; omega) (by first | exact k_ow hK (by first | omega | (simp (disch := omega) only [upN_n, upN_s]; omega)) | exact k_cow hK (by omega) (by first | omega | (simp (disch := omega) only [upN_n, upN_s]; omega)) | assumption) ?_
              refine e_aload_n dX1_answerTo_70 rfl rfl ?_
              refine e_getR dX1_answerTo_71 fl_X1_9 rfl (ca_w cm) ?_
              refine e_getR dX1_answerTo_74 fl_X1_29 rfl (cm_map cm) ?_
              refine e_getR dX1_answerTo_77 fl_X1_67 rfl (by first | exact cm_tow cm | exact cm_ctow cm (by omega) | assumption) ?_
              refine e_iload dX1_answerTo_80 rfl ?_
              refine e_iadE _ dX1_answerTo_82 ⟨by decide, by decide⟩ rfl rfl (by simp only [lenK]; omega) (by first | exact k_ow hK (by first | omega | (simp (disch := omega) only [upN_n, upN_s]; omega)) | exact k_cow hK (by omega) (by first | omega | (simp (disch := omega) only [upN_n, upN_s]; omega)) | assumption) ?_
              first | ((with_reducible refine mk_mo ?_); refine p_icmp_ne (tgt := 110) dX1_answerTo_83 (by decide) (fun h83 => ?_) (fun h83 => ?_)) | ((with_reducible refine mk_ms ?_); refine s_icmp_ne (tgt := 110) dX1_answerTo_83 (by decide) (by omega) (fun h83 => ?_) (fun h83 => ?_)) | ((with_reducible refine mk_mn ?_); refine q_icmp_ne (tgt := 110) dX1_answerTo_83 (by decide) (by omega) (fun h83 => ?_) (fun h83 => ?_)) | ((with_reducible refine mk_nn ?_); refine n_icmp_ne (tgt := 110) dX1_answerTo_83 (by decide) (by omega) (by omega) (fun h83 => ?_) (fun h83 => ?_)) | refine e_icmp_ne (tgt := 110) dX1_answerTo_83 (by decide) (fun h83 => ?_) (fun h83 => ?_)
              · try first | contradiction | omega
                all_goals
                  refine e_iconst (v := nI 3) dX1_answerTo_110 rfl ?_
                  refine e_ret (some _) rfl (r_int dX1_answerTo_111 rfl) ?_
                  refine xq ?_ rfl rfl rfl rfl rfl
                  congr 3
                  rw [e4, e]
                  grind
              · try first | contradiction | omega
                all_goals
                  refine e_aload dX1_answerTo_86 rfl ?_
                  refine e_getR dX1_answerTo_88 fl_X1_54 rfl (by first | exact cm_tep cm | exact cm_ctep cm (by omega) | assumption) ?_
                  refine e_iload dX1_answerTo_91 rfl ?_
                  refine e_iadE _ dX1_answerTo_93 ⟨by decide, by decide⟩ rfl rfl (by simp only [lenK]; omega) (by first | exact k_ep hK (by first | omega | (simp (disch := omega) only [upN_n, upN_s]; omega)) | exact k_cep hK (by omega) (by first | omega | (simp (disch := omega) only [upN_n, upN_s]; omega)) | assumption) ?_
                  refine e_aload_n dX1_answerTo_94 rfl rfl ?_
                  refine e_getR dX1_answerTo_95 fl_X1_9 rfl (ca_w cm) ?_
                  refine e_getR dX1_answerTo_98 fl_X1_29 rfl (cm_map cm) ?_
                  refine e_getR dX1_answerTo_101 fl_X1_54 rfl (by first | exact cm_tep cm | exact cm_ctep cm (by omega) | assumption) ?_
                  refine e_iload dX1_answerTo_104 rfl ?_
                  refine e_iadE _ dX1_answerTo_106 ⟨by decide, by decide⟩ rfl rfl (by simp only [lenK]; omega) (by first | exact k_ep hK (by first | omega | (simp (disch := omega) only [upN_n, upN_s]; omega)) | exact k_cep hK (by omega) (by first | omega | (simp (disch := omega) only [upN_n, upN_s]; omega)) | assumption) ?_
                  first | ((with_reducible refine mk_mo ?_); refine p_icmp_eq (tgt := 112) dX1_answerTo_107 (by decide) (fun h107 => ?_) (fun h107 => ?_)) | ((with_reducible refine mk_ms ?_); refine s_icmp_eq (tgt := 112) dX1_answerTo_107 (by decide) (by omega) (fun h107 => ?_) (fun h107 => ?_)) | ((with_reducible refine mk_mn ?_); refine q_icmp_eq (tgt := 112) dX1_answerTo_107 (by decide) (by omega) (fun h107 => ?_) (fun h107 => ?_)) | ((with_reducible refine mk_nn ?_); refine n_icmp_eq (tgt := 112) dX1_answerTo_107 (by decide) (by omega) (by omega) (fun h107 => ?_) (fun h107 => ?_)) | refine e_icmp_eq (tgt := 112) dX1_answerTo_107 (by decide) (fun h107 => ?_) (fun h107 => ?_)
                  · try first | contradiction | omega
                    all_goals
                      refine e_aload_n dX1_answerTo_112 rfl rfl ?_
                      refine e_getR dX1_answerTo_113 fl_X1_9 rfl (ca_w cm) ?_
                      refine e_aload_n dX1_answerTo_116 rfl rfl ?_
                      refine e_getR dX1_answerTo_117 fl_X1_9 rfl (ca_w cm) ?_
                      refine e_getR dX1_answerTo_120 fl_X1_29 rfl (cm_map cm) ?_
                      refine e_getR dX1_answerTo_123 fl_X1_79 rfl (by first | exact cm_tlo cm | exact cm_ctlo cm (by omega) | assumption) ?_
                      refine e_iload dX1_answerTo_126 rfl ?_
                      refine e_iadE _ dX1_answerTo_128 ⟨by decide, by decide⟩ rfl rfl (by simp only [lenK]; omega) (by first | exact k_lo hK (by first | omega | (simp (disch := omega) only [upN_n, upN_s]; omega)) | exact k_clo hK (by omega) (by first | omega | (simp (disch := omega) only [upN_n, upN_s]; omega)) | assumption) ?_
                      refine x_V1 (M' := mX9_moveAt) dX1_answerTo_129 ml_X1_82 ok_X9_moveAt (by decide) rfl im_X9_moveAt se_X9_moveAt (ct_X9_moveAt cm iv hK (by omega)) (Nat.le_of_ble_eq_true rfl) (by decide) (Nat.le_of_ble_eq_true rfl) ?_
                      rw [hmv, oI_s]
                      refine e_istore dX1_answerTo_132 (Nat.le_of_ble_eq_true rfl) rfl ?_
                      refine e_iload_n dX1_answerTo_134 rfl rfl ?_
                      first | ((with_reducible refine mk_b ?_); refine b_if_eq (tgt := 163) dX1_answerTo_135 (by decide) (fun h135 => ?_) (fun h135 => ?_)) | ((with_reducible refine mk_ll ?_); refine m_if_eq (tgt := 163) dX1_answerTo_135 (by decide) (by omega) (by omega) (fun h135 => ?_) (fun h135 => ?_)) | ((with_reducible refine mk_lc ?_); refine l_if_eq (tgt := 163) dX1_answerTo_135 (by decide) (fun h135 => ?_) (fun h135 => ?_)) | ((with_reducible refine mk_n ?_); refine n_if_eq (tgt := 163) dX1_answerTo_135 (by decide) (by omega) (fun h135 => ?_) (fun h135 => ?_)) | refine e_if_eq (tgt := 163) dX1_answerTo_135 (by decide) (fun h135 => ?_) (fun h135 => ?_)
                      · try first | contradiction | omega | (simp only [decide_eq_true_eq, decide_eq_false_iff_not] at h135; omega)
                        all_goals
                          refine e_iconst (v := nI 0) dX1_answerTo_163 rfl ?_
                          refine e_ret (some _) rfl (r_int dX1_answerTo_164 rfl) ?_
                          refine xq ?_ rfl rfl rfl rfl rfl
                          congr 3
                          rw [e4, e]
                          grind
                      · try first | contradiction | omega | (simp only [decide_eq_true_eq, decide_eq_false_iff_not] at h135; omega)
                        all_goals
                          refine e_iload dX1_answerTo_138 rfl ?_
                          refine e_iconst (v := -1) dX1_answerTo_140 rfl ?_
                          first | ((with_reducible refine mk_mo ?_); refine p_icmp_eq (tgt := 163) dX1_answerTo_141 (by decide) (fun h141 => ?_) (fun h141 => ?_)) | ((with_reducible refine mk_ms ?_); refine s_icmp_eq (tgt := 163) dX1_answerTo_141 (by decide) (by omega) (fun h141 => ?_) (fun h141 => ?_)) | ((with_reducible refine mk_mn ?_); refine q_icmp_eq (tgt := 163) dX1_answerTo_141 (by decide) (by omega) (fun h141 => ?_) (fun h141 => ?_)) | ((with_reducible refine mk_nn ?_); refine n_icmp_eq (tgt := 163) dX1_answerTo_141 (by decide) (by omega) (by omega) (fun h141 => ?_) (fun h141 => ?_)) | refine e_icmp_eq (tgt := 163) dX1_answerTo_141 (by decide) (fun h141 => ?_) (fun h141 => ?_)
                          · try first | contradiction | omega
                            all_goals
                              refine e_iconst (v := nI 0) dX1_answerTo_163 rfl ?_
                              refine e_ret (some _) rfl (r_int dX1_answerTo_164 rfl) ?_
                              refine xq ?_ rfl rfl rfl rfl rfl
                              congr 3
                              rw [e4, e]
                              grind
                          · try first | contradiction | omega
                            all_goals
                              refine e_aload_n dX1_answerTo_144 rfl rfl ?_
                              refine e_getR dX1_answerTo_145 fl_X1_9 rfl (ca_w cm) ?_
                              refine e_getR dX1_answerTo_148 fl_X1_85 rfl (cm_mvs cm) ?_
                              refine e_iload dX1_answerTo_151 rfl ?_
                              refine e_aald _ dX1_answerTo_153 ⟨by decide, by decide⟩ rfl rfl (by simp only [lenK]; omega) (cm_mo cm (by omega)) ?_
                              refine e_iload_n dX1_answerTo_154 rfl rfl ?_
                              refine x_V1 (M' := mX4_refusesWrite) dX1_answerTo_155 ml_X1_101 ok_X4_refusesWrite (by decide) rfl im_X4_refusesWrite se_X4_refusesWrite (ct_X4_refusesWrite cm iv hK (by omega) (by omega) (by omega)) (Nat.le_of_ble_eq_true rfl) (by decide) (Nat.le_of_ble_eq_true rfl) ?_
                              first | ((with_reducible refine mk_b ?_); refine b_if_eq (tgt := 163) dX1_answerTo_158 (by decide) (fun h158 => ?_) (fun h158 => ?_)) | ((with_reducible refine mk_ll ?_); refine m_if_eq (tgt := 163) dX1_answerTo_158 (by decide) (by omega) (by omega) (fun h158 => ?_) (fun h158 => ?_)) | ((with_reducible refine mk_lc ?_); refine l_if_eq (tgt := 163) dX1_answerTo_158 (by decide) (fun h158 => ?_) (fun h158 => ?_)) | ((with_reducible refine mk_n ?_); refine n_if_eq (tgt := 163) dX1_answerTo_158 (by decide) (by omega) (fun h158 => ?_) (fun h158 => ?_)) | refine e_if_eq (tgt := 163) dX1_answerTo_158 (by decide) (fun h158 => ?_) (fun h158 => ?_)
                              · try first | contradiction | omega | (simp only [decide_eq_true_eq, decide_eq_false_iff_not] at h158; omega)
                                all_goals
                                  refine e_iconst (v := nI 0) dX1_answerTo_163 rfl ?_
                                  refine e_ret (some _) rfl (r_int dX1_answerTo_164 rfl) ?_
                                  refine xq ?_ rfl rfl rfl rfl rfl
                                  congr 3
                                  rw [e4, e]
                                  grind
                              · try first | contradiction | omega | (simp only [decide_eq_true_eq, decide_eq_false_iff_not] at h158; omega)
                                all_goals
                                  refine e_iconst (v := nI 4) dX1_answerTo_161 rfl ?_
                                  refine e_ret (some _) rfl (r_int dX1_answerTo_162 rfl) ?_
                                  refine xq ?_ rfl rfl rfl rfl rfl
                                  congr 3
                                  rw [e4, e]
                                  grind
                  · try first | contradiction | omega
                    all_goals
                      refine e_iconst (v := nI 3) dX1_answerTo_110 rfl ?_
                      refine e_ret (some _) rfl (r_int dX1_answerTo_111 rfl) ?_
                      refine xq ?_ rfl rfl rfl rfl rfl
                      congr 3
                      rw [e4, e]
                      grind
          · try first | contradiction | omega | (simp only [decide_eq_true_eq, decide_eq_false_iff_not] at h44; omega)
            all_goals
              refine e_iconst (v := nI 2) dX1_answerTo_47 rfl ?_
              refine e_ret (some _) rfl (r_int dX1_answerTo_48 rfl) ?_
              refine xq ?_ rfl rfl rfl rfl rfl
              congr 3
              rw [e4, e]
              grind
      · try first | contradiction | omega | (simp only [decide_eq_true_eq, decide_eq_false_iff_not] at h16; omega)
        all_goals
          omega
theorem ct_X1_staleSpans {fi : FI} {fr : FR} {ai : FI} {ar : FR} {N : Nat} {w lg : Nat → Nat} {E : Nat} (cm : CM fr ar) (iv : Inv w) (hK : K fi ai w lg E) {c : Nat} (hc : c < 6) : CP mX1_staleSpans 3 0 0 [.ref (rf 1 71), .int (nI c)] fi fr ai ar N (xQ (some (.int (nI (cnt (fun j => decide (anF w c (w (7106 + 98 * c + 2 + j)) = 3)) (w (7106 + 98 * c + 1)))))) fi fr ai ar N) := by
  have h1 := iv_n iv
  have h3 := iv_mm iv
  have bd := Bd_iv iv
  have hF : FR1 fi ai fi ai := FR1_rf
  have hcl := iv_cl iv hc
  change EV mX1_staleSpans 3 0 0 0 [some (.ref (rf 1 71)), some (.int (nI c)), none, none, none] [] fi fr ai ar N (xQ (some (.int (nI (cnt (fun j => decide (anF w c (w (7106 + 98 * c + 2 + j)) = 3)) (w (7106 + 98 * c + 1)))))) fi fr ai ar N)
  have key := ev_up (P := (fun j => EV mX1_staleSpans 3 0 0 15 [some (.ref (rf 1 71)), some (.int (nI c)), some (.ref (rf 8 (10 + 4 * c))), some (.int (nI (cnt (fun j => decide (anF w c (w (7106 + 98 * c + 2 + j)) = 3)) j))), some (.int (nI j))] [] fi fr ai ar N (xQ (some (.int (nI (cnt (fun j => decide (anF w c (w (7106 + 98 * c + 2 + j)) = 3)) (w (7106 + 98 * c + 1)))))) fi fr ai ar N))) (w (7106 + 98 * c + 1)) (fun j hj ih => by
    have hco := hcl.2.2.2.2 j hj
    have hal := anF_le w c (w (7106 + 98 * c + 2 + j))
    refine e_iload dX1_staleSpans_15 rfl ?_
    refine e_aload_n dX1_staleSpans_17 rfl rfl ?_
    refine e_getE dX1_staleSpans_18 fl_X1_95 rfl (by first | exact k_n hK | exact k_cn hK (by first | omega | (simp (disch := omega) only [upN_n, upN_s]; omega)) | assumption) ?_
    first | ((with_reducible refine mk_nn ?_); refine n_icmp_ge (tgt := 50) dX1_staleSpans_21 (by decide) (by omega) (by omega) (fun h21 => ?_) (fun h21 => ?_)) | refine e_icmp_ge (tgt := 50) dX1_staleSpans_21 (by decide) (fun h21 => ?_) (fun h21 => ?_)
    · try first | contradiction | omega
      all_goals
        refine e_iload_n dX1_staleSpans_50 rfl rfl ?_
        refine e_ret (some _) rfl (r_int dX1_staleSpans_51 rfl) ?_
        exact xq (by first | rfl | simp_all [bI_t, bI_f]) rfl rfl rfl rfl rfl
    · try first | contradiction | omega
      all_goals
        refine e_aload_n dX1_staleSpans_24 rfl rfl ?_
        refine e_iload_n dX1_staleSpans_25 rfl rfl ?_
        refine e_aload_n dX1_staleSpans_26 rfl rfl ?_
        refine e_getR dX1_staleSpans_27 fl_X1_79 rfl (by first | exact cm_tlo cm | exact cm_ctlo cm (by omega) | assumption) ?_
        refine e_iload dX1_staleSpans_30 rfl ?_
        refine e_iadE _ dX1_staleSpans_32 ⟨by decide, by decide⟩ rfl rfl (by simp only [lenK]; omega) (by first | exact k_lo hK (by first | omega | (simp (disch := omega) only [upN_n, upN_s]; omega)) | exact k_clo hK (by omega) (by first | omega | (simp (disch := omega) only [upN_n, upN_s]; omega)) | assumption) ?_
        refine e_iconst (v := nI 0) dX1_staleSpans_33 rfl ?_
        refine x_V3 (M' := mX1_answerTo) dX1_staleSpans_34 ml_X1_50 ok_X1_answerTo (by decide) rfl im_X1_answerTo se_X1_answerTo (ct_ans0 cm iv hK (by omega) (by omega)) (Nat.le_of_ble_eq_true rfl) (by decide) (Nat.le_of_ble_eq_true rfl) ?_
        refine e_iconst (v := nI 3) dX1_staleSpans_37 rfl ?_
        first | ((with_reducible refine mk_mo ?_); refine p_icmp_ne (tgt := 44) dX1_staleSpans_38 (by decide) (fun h38 => ?_) (fun h38 => ?_)) | ((with_reducible refine mk_ms ?_); refine s_icmp_ne (tgt := 44) dX1_staleSpans_38 (by decide) (by omega) (fun h38 => ?_) (fun h38 => ?_)) | ((with_reducible refine mk_mn ?_); refine q_icmp_ne (tgt := 44) dX1_staleSpans_38 (by decide) (by omega) (fun h38 => ?_) (fun h38 => ?_)) | ((with_reducible refine mk_nn ?_); refine n_icmp_ne (tgt := 44) dX1_staleSpans_38 (by decide) (by omega) (by omega) (fun h38 => ?_) (fun h38 => ?_)) | refine e_icmp_ne (tgt := 44) dX1_staleSpans_38 (by decide) (fun h38 => ?_) (fun h38 => ?_)
        · try first | contradiction | omega
          all_goals
            first | refine n_inc dX1_staleSpans_44 rfl (Nat.le_of_ble_eq_true rfl) rfl ?_ | refine e_iinc dX1_staleSpans_44 rfl rfl (Nat.le_of_ble_eq_true rfl) rfl ?_
            refine e_goto (tgt := 15) dX1_staleSpans_47 (by decide) ?_
            first | (rw [cnt_t (n := j) (p := fun j => decide (anF w c (w (7106 + 98 * c + 2 + j)) = 3)) (decide_eq_true (by omega))] at ih; exact ih) | (rw [cnt_f (n := j) (p := fun j => decide (anF w c (w (7106 + 98 * c + 2 + j)) = 3)) (decide_eq_false (by omega))] at ih; exact ih)
        · try first | contradiction | omega
          all_goals
            first | refine n_inc dX1_staleSpans_41 rfl (Nat.le_of_ble_eq_true rfl) rfl ?_ | refine e_iinc dX1_staleSpans_41 rfl rfl (Nat.le_of_ble_eq_true rfl) rfl ?_
            first | refine n_inc dX1_staleSpans_44 rfl (Nat.le_of_ble_eq_true rfl) rfl ?_ | refine e_iinc dX1_staleSpans_44 rfl rfl (Nat.le_of_ble_eq_true rfl) rfl ?_
            refine e_goto (tgt := 15) dX1_staleSpans_47 (by decide) ?_
            first | (rw [cnt_t (n := j) (p := fun j => decide (anF w c (w (7106 + 98 * c + 2 + j)) = 3)) (decide_eq_true (by omega))] at ih; exact ih) | (rw [cnt_f (n := j) (p := fun j => decide (anF w c (w (7106 + 98 * c + 2 + j)) = 3)) (decide_eq_false (by omega))] at ih; exact ih)
    ) (by
    refine e_iload dX1_staleSpans_15 rfl ?_
    refine e_aload_n dX1_staleSpans_17 rfl rfl ?_
    refine e_getE dX1_staleSpans_18 fl_X1_95 rfl (by first | exact k_n hK | exact k_cn hK (by first | omega | (simp (disch := omega) only [upN_n, upN_s]; omega)) | assumption) ?_
    first | ((with_reducible refine mk_nn ?_); refine n_icmp_ge (tgt := 50) dX1_staleSpans_21 (by decide) (by omega) (by omega) (fun h21 => ?_) (fun h21 => ?_)) | refine e_icmp_ge (tgt := 50) dX1_staleSpans_21 (by decide) (fun h21 => ?_) (fun h21 => ?_)
    · try first | contradiction | omega
      all_goals
        refine e_iload_n dX1_staleSpans_50 rfl rfl ?_
        refine e_ret (some _) rfl (r_int dX1_staleSpans_51 rfl) ?_
        exact xq rfl rfl rfl rfl rfl rfl
    · try first | contradiction | omega
      all_goals
        refine e_aload_n dX1_staleSpans_24 rfl rfl ?_
        refine e_iload_n dX1_staleSpans_25 rfl rfl ?_
        refine e_aload_n dX1_staleSpans_26 rfl rfl ?_
        refine e_getR dX1_staleSpans_27 fl_X1_79 rfl (by first | exact cm_tlo cm | exact cm_ctlo cm (by omega) | assumption) ?_
        refine e_iload dX1_staleSpans_30 rfl ?_
        refine e_iadE _ dX1_staleSpans_32 ⟨by decide, by decide⟩ rfl rfl (by simp only [lenK]; omega) (by first | exact k_lo hK (by first | omega | (simp (disch := omega) only [upN_n, upN_s]; omega)) | exact k_clo hK (by omega) (by first | omega | (simp (disch := omega) only [upN_n, upN_s]; omega)) | assumption) ?_
        refine e_iconst (v := nI 0) dX1_staleSpans_33 rfl ?_
        refine x_V3 (M' := mX1_answerTo) dX1_staleSpans_34 ml_X1_50 ok_X1_answerTo (by decide) rfl im_X1_answerTo se_X1_answerTo (ct_ans0 cm iv hK (by omega) (by omega)) (Nat.le_of_ble_eq_true rfl) (by decide) (Nat.le_of_ble_eq_true rfl) ?_
        refine e_iconst (v := nI 3) dX1_staleSpans_37 rfl ?_
        first | ((with_reducible refine mk_mo ?_); refine p_icmp_ne (tgt := 44) dX1_staleSpans_38 (by decide) (fun h38 => ?_) (fun h38 => ?_)) | ((with_reducible refine mk_ms ?_); refine s_icmp_ne (tgt := 44) dX1_staleSpans_38 (by decide) (by omega) (fun h38 => ?_) (fun h38 => ?_)) | ((with_reducible refine mk_mn ?_); refine q_icmp_ne (tgt := 44) dX1_staleSpans_38 (by decide) (by omega) (fun h38 => ?_) (fun h38 => ?_)) | ((with_reducible refine mk_nn ?_); refine n_icmp_ne (tgt := 44) dX1_staleSpans_38 (by decide) (by omega) (by omega) (fun h38 => ?_) (fun h38 => ?_)) | refine e_icmp_ne (tgt := 44) dX1_staleSpans_38 (by decide) (fun h38 => ?_) (fun h38 => ?_)
        · try first | contradiction | omega
          all_goals
            first | refine n_inc dX1_staleSpans_44 rfl (Nat.le_of_ble_eq_true rfl) rfl ?_ | refine e_iinc dX1_staleSpans_44 rfl rfl (Nat.le_of_ble_eq_true rfl) rfl ?_
            refine e_goto (tgt := 15) dX1_staleSpans_47 (by decide) ?_
            first | (rw [cnt_t (n := j) (p := fun j => decide (anF w c (w (7106 + 98 * c + 2 + j)) = 3)) (decide_eq_true (by omega))] at ih; exact ih) | (rw [cnt_f (n := j) (p := fun j => decide (anF w c (w (7106 + 98 * c + 2 + j)) = 3)) (decide_eq_false (by omega))] at ih; exact ih)
        · try first | contradiction | omega
          all_goals
            first | refine n_inc dX1_staleSpans_41 rfl (Nat.le_of_ble_eq_true rfl) rfl ?_ | refine e_iinc dX1_staleSpans_41 rfl rfl (Nat.le_of_ble_eq_true rfl) rfl ?_
            first | refine n_inc dX1_staleSpans_44 rfl (Nat.le_of_ble_eq_true rfl) rfl ?_ | refine e_iinc dX1_staleSpans_44 rfl rfl (Nat.le_of_ble_eq_true rfl) rfl ?_
            refine e_goto (tgt := 15) dX1_staleSpans_47 (by decide) ?_
            first | (rw [cnt_t (n := j) (p := fun j => decide (anF w c (w (7106 + 98 * c + 2 + j)) = 3)) (decide_eq_true (by omega))] at ih; exact ih) | (rw [cnt_f (n := j) (p := fun j => decide (anF w c (w (7106 + 98 * c + 2 + j)) = 3)) (decide_eq_false (by omega))] at ih; exact ih)
    )
  refine e_aload_n dX1_staleSpans_0 rfl rfl ?_
  refine e_getR dX1_staleSpans_1 fl_X1_9 rfl (ca_w cm) ?_
  refine e_getR dX1_staleSpans_4 fl_X1_23 rfl (cm_cas cm) ?_
  refine e_iload_n dX1_staleSpans_7 rfl rfl ?_
  refine e_aald _ dX1_staleSpans_8 ⟨by decide, by decide⟩ rfl rfl (by simp only [lenK]; omega) (cm_ca cm (by omega)) ?_
  refine e_astore_n dX1_staleSpans_9 rfl (Nat.le_of_ble_eq_true rfl) rfl ?_
  refine e_iconst (v := nI 0) dX1_staleSpans_10 rfl ?_
  refine e_istore_n dX1_staleSpans_11 rfl (Nat.le_of_ble_eq_true rfl) rfl ?_
  refine e_iconst (v := nI 0) dX1_staleSpans_12 rfl ?_
  refine e_istore dX1_staleSpans_13 (Nat.le_of_ble_eq_true rfl) rfl ?_
  exact key 0 (by omega)
theorem ct_X1_readKey {fi : FI} {fr : FR} {ai : FI} {ar : FR} {N : Nat} {w lg : Nat → Nat} {E : Nat} (cm : CM fr ar) (iv : Inv w) (hK : K fi ai w lg E) (x y : Int32) : CP mX1_readKey 3 0 0 [.ref (rf 1 71), .int x, .int y] fi fr ai ar N (kQ (some (.int (redR w x y))) fi fr ai ar N (fun fi ai => K fi ai (redW w x y) lg E)) := by
  have h1 := iv_n iv
  have h3 := iv_mm iv
  have bd := Bd_iv iv
  have hF : FR1 fi ai fi ai := FR1_rf
  change EV mX1_readKey 3 0 0 0 [some (.ref (rf 1 71)), some (.int x), some (.int y), none, none] [] fi fr ai ar N (kQ (some (.int (redR w x y))) fi fr ai ar N (fun fi ai => K fi ai (redW w x y) lg E))
  cases hx : inR x 6 with
  | false =>
    have e1 : redR w x y = -10 := by unfold redR; rw [if_neg (fun q => by rw [hx] at q; exact absurd q.1 (by decide))]
    have e2 : redW w x y = w := by unfold redW; rw [if_neg (fun q => by rw [hx] at q; exact absurd q.1 (by decide))]
    rw [e1, e2]
    refine e_iload_n dX1_readKey_0 rfl rfl ?_
    refine x_N1 (M' := mX10_isClient) dX1_readKey_1 (List.mem_of_getElem? (i := 6) rfl) ok_X10_isClient sc_X10_isClient (ct_X10_isClient _) (Nat.le_of_ble_eq_true rfl) (by decide) (Nat.le_of_ble_eq_true rfl) ?_
    rw [hx]
    first | ((with_reducible refine mk_b ?_); refine b_if_eq (tgt := 14) dX1_readKey_4 (by decide) (fun h4 => ?_) (fun h4 => ?_)) | ((with_reducible refine mk_ll ?_); refine m_if_eq (tgt := 14) dX1_readKey_4 (by decide) (by omega) (by omega) (fun h4 => ?_) (fun h4 => ?_)) | ((with_reducible refine mk_lc ?_); refine l_if_eq (tgt := 14) dX1_readKey_4 (by decide) (fun h4 => ?_) (fun h4 => ?_)) | ((with_reducible refine mk_n ?_); refine n_if_eq (tgt := 14) dX1_readKey_4 (by decide) (by omega) (fun h4 => ?_) (fun h4 => ?_)) | refine e_if_eq (tgt := 14) dX1_readKey_4 (by decide) (fun h4 => ?_) (fun h4 => ?_)
    · try first | contradiction | omega | (simp only [decide_eq_true_eq, decide_eq_false_iff_not] at h4; omega)
      all_goals
        refine e_bipush (v := -10) dX1_readKey_14 rfl ?_
        refine e_ret (some _) rfl (r_int dX1_readKey_16 rfl) ?_
        exact kq rfl hF hK
    · try first | contradiction | omega | (simp only [decide_eq_true_eq, decide_eq_false_iff_not] at h4; omega)
      all_goals
        contradiction
  | true =>
    cases hy : inR y 1000 with
    | false =>
      have e1 : redR w x y = -10 := by unfold redR; rw [if_neg (fun q => by rw [hy] at q; exact absurd q.2 (by decide))]
      have e2 : redW w x y = w := by unfold redW; rw [if_neg (fun q => by rw [hy] at q; exact absurd q.2 (by decide))]
      rw [e1, e2]
      refine e_iload_n dX1_readKey_0 rfl rfl ?_
      refine x_N1 (M' := mX10_isClient) dX1_readKey_1 (List.mem_of_getElem? (i := 6) rfl) ok_X10_isClient sc_X10_isClient (ct_X10_isClient _) (Nat.le_of_ble_eq_true rfl) (by decide) (Nat.le_of_ble_eq_true rfl) ?_
      rw [hx]
      first | ((with_reducible refine mk_b ?_); refine b_if_eq (tgt := 14) dX1_readKey_4 (by decide) (fun h4 => ?_) (fun h4 => ?_)) | ((with_reducible refine mk_ll ?_); refine m_if_eq (tgt := 14) dX1_readKey_4 (by decide) (by omega) (by omega) (fun h4 => ?_) (fun h4 => ?_)) | ((with_reducible refine mk_lc ?_); refine l_if_eq (tgt := 14) dX1_readKey_4 (by decide) (fun h4 => ?_) (fun h4 => ?_)) | ((with_reducible refine mk_n ?_); refine n_if_eq (tgt := 14) dX1_readKey_4 (by decide) (by omega) (fun h4 => ?_) (fun h4 => ?_)) | refine e_if_eq (tgt := 14) dX1_readKey_4 (by decide) (fun h4 => ?_) (fun h4 => ?_)
      · try first | contradiction | omega | (simp only [decide_eq_true_eq, decide_eq_false_iff_not] at h4; omega)
        all_goals
          refine e_bipush (v := -10) dX1_readKey_14 rfl ?_
          refine e_ret (some _) rfl (r_int dX1_readKey_16 rfl) ?_
          exact kq rfl hF hK
      · try first | contradiction | omega | (simp only [decide_eq_true_eq, decide_eq_false_iff_not] at h4; omega)
        all_goals
          refine e_iload_n dX1_readKey_7 rfl rfl ?_
          refine x_N1 (M' := mX10_isKey) dX1_readKey_8 (List.mem_of_getElem? (i := 7) rfl) ok_X10_isKey sc_X10_isKey (ct_X10_isKey _) (Nat.le_of_ble_eq_true rfl) (by decide) (Nat.le_of_ble_eq_true rfl) ?_
          rw [hy]
          first | ((with_reducible refine mk_b ?_); refine b_if_ne (tgt := 17) dX1_readKey_11 (by decide) (fun h11 => ?_) (fun h11 => ?_)) | ((with_reducible refine mk_ll ?_); refine m_if_ne (tgt := 17) dX1_readKey_11 (by decide) (by omega) (by omega) (fun h11 => ?_) (fun h11 => ?_)) | ((with_reducible refine mk_lc ?_); refine l_if_ne (tgt := 17) dX1_readKey_11 (by decide) (fun h11 => ?_) (fun h11 => ?_)) | ((with_reducible refine mk_n ?_); refine n_if_ne (tgt := 17) dX1_readKey_11 (by decide) (by omega) (fun h11 => ?_) (fun h11 => ?_)) | refine e_if_ne (tgt := 17) dX1_readKey_11 (by decide) (fun h11 => ?_) (fun h11 => ?_)
          · try first | contradiction | omega | (simp only [decide_eq_true_eq, decide_eq_false_iff_not] at h11; omega)
            all_goals
              contradiction
          · try first | contradiction | omega | (simp only [decide_eq_true_eq, decide_eq_false_iff_not] at h11; omega)
            all_goals
              refine e_bipush (v := -10) dX1_readKey_14 rfl ?_
              refine e_ret (some _) rfl (r_int dX1_readKey_16 rfl) ?_
              exact kq rfl hF hK
    | true =>
      have hxy : inR x 6 = true ∧ inR y 1000 = true := ⟨hx, hy⟩
      obtain ⟨c, hc, hc2, rfl⟩ := inR_ex hx
      obtain ⟨k, hk, hk2, rfl⟩ := inR_ex hy
      have e2 : redW w (nI c) (nI k) = askW w c k 0 := by unfold redW; rw [if_pos hxy, nI_clamp hc2, nI_clamp hk2]
      have e1 : redR w (nI c) (nI k) = if anF w c k = 0 then nI (w (1106 + 1000 * w (42 + spW w k) + k)) else -1 - nI (anF w c k) := by unfold redR; rw [if_pos hxy, nI_clamp hc2, nI_clamp hk2]
      rw [e1, e2]
      have hsp := spW_lt iv k
      have how := iv_own iv hsp
      have hal := anF_le w c k
      have e3 : asA w c k 0 = anF w c k := by unfold asA; rw [if_neg (fun q => absurd q.2.1 (by omega))]
      by_cases ha : anF w c k = 0
      · rw [if_pos ha]
        refine e_iload_n dX1_readKey_0 rfl rfl ?_
        refine x_N1 (M' := mX10_isClient) dX1_readKey_1 (List.mem_of_getElem? (i := 6) rfl) ok_X10_isClient sc_X10_isClient (ct_X10_isClient _) (Nat.le_of_ble_eq_true rfl) (by decide) (Nat.le_of_ble_eq_true rfl) ?_
        rw [hx]
        first | ((with_reducible refine mk_b ?_); refine b_if_eq (tgt := 14) dX1_readKey_4 (by decide) (fun h4 => ?_) (fun h4 => ?_)) | ((with_reducible refine mk_ll ?_); refine m_if_eq (tgt := 14) dX1_readKey_4 (by decide) (by omega) (by omega) (fun h4 => ?_) (fun h4 => ?_)) | ((with_reducible refine mk_lc ?_); refine l_if_eq (tgt := 14) dX1_readKey_4 (by decide) (fun h4 => ?_) (fun h4 => ?_)) | ((with_reducible refine mk_n ?_); refine n_if_eq (tgt := 14) dX1_readKey_4 (by decide) (by omega) (fun h4 => ?_) (fun h4 => ?_)) | refine e_if_eq (tgt := 14) dX1_readKey_4 (by decide) (fun h4 => ?_) (fun h4 => ?_)
        · try first | contradiction | omega | (simp only [decide_eq_true_eq, decide_eq_false_iff_not] at h4; omega)
          all_goals
            contradiction
        · try first | contradiction | omega | (simp only [decide_eq_true_eq, decide_eq_false_iff_not] at h4; omega)
          all_goals
            refine e_iload_n dX1_readKey_7 rfl rfl ?_
            refine x_N1 (M' := mX10_isKey) dX1_readKey_8 (List.mem_of_getElem? (i := 7) rfl) ok_X10_isKey sc_X10_isKey (ct_X10_isKey _) (Nat.le_of_ble_eq_true rfl) (by decide) (Nat.le_of_ble_eq_true rfl) ?_
            rw [hy]
            first | ((with_reducible refine mk_b ?_); refine b_if_ne (tgt := 17) dX1_readKey_11 (by decide) (fun h11 => ?_) (fun h11 => ?_)) | ((with_reducible refine mk_ll ?_); refine m_if_ne (tgt := 17) dX1_readKey_11 (by decide) (by omega) (by omega) (fun h11 => ?_) (fun h11 => ?_)) | ((with_reducible refine mk_lc ?_); refine l_if_ne (tgt := 17) dX1_readKey_11 (by decide) (fun h11 => ?_) (fun h11 => ?_)) | ((with_reducible refine mk_n ?_); refine n_if_ne (tgt := 17) dX1_readKey_11 (by decide) (by omega) (fun h11 => ?_) (fun h11 => ?_)) | refine e_if_ne (tgt := 17) dX1_readKey_11 (by decide) (fun h11 => ?_) (fun h11 => ?_)
            · try first | contradiction | omega | (simp only [decide_eq_true_eq, decide_eq_false_iff_not] at h11; omega)
              all_goals
                refine e_aload_n dX1_readKey_17 rfl rfl ?_
                refine e_getR dX1_readKey_18 fl_X1_9 rfl (ca_w cm) ?_
                refine e_getR dX1_readKey_21 fl_X1_29 rfl (cm_map cm) ?_
                refine e_iload_n dX1_readKey_24 rfl rfl ?_
                refine x_V1 (M' := mX8_indexOf) dX1_readKey_25 ml_X1_46 ok_X8_indexOf (by decide) rfl im_X8_indexOf se_X8_indexOf (by first | exact ct_X8_indexOf cm iv hK (by omega) | exact ct_cX8_indexOf cm iv hK (by omega) (by omega) (by omega)) (Nat.le_of_ble_eq_true rfl) (by decide) (Nat.le_of_ble_eq_true rfl) ?_
                refine e_istore_n dX1_readKey_28 rfl (Nat.le_of_ble_eq_true rfl) rfl ?_
                refine e_aload_n dX1_readKey_29 rfl rfl ?_
                refine e_iload_n dX1_readKey_30 rfl rfl ?_
                refine e_iload_n dX1_readKey_31 rfl rfl ?_
                refine e_iconst (v := nI 0) dX1_readKey_32 rfl ?_
                refine x_V3 (M' := mX1_answerTo) dX1_readKey_33 ml_X1_50 ok_X1_answerTo (by decide) rfl im_X1_answerTo se_X1_answerTo (ct_ans0 cm iv hK (by omega) (by omega)) (Nat.le_of_ble_eq_true rfl) (by decide) (Nat.le_of_ble_eq_true rfl) ?_
                refine e_istore dX1_readKey_36 (Nat.le_of_ble_eq_true rfl) rfl ?_
                refine e_aload_n dX1_readKey_38 rfl rfl ?_
                refine e_getR dX1_readKey_39 fl_X1_15 rfl (ca_l cm) ?_
                refine e_iload_n dX1_readKey_42 rfl rfl ?_
                refine e_iload dX1_readKey_43 rfl ?_
                refine e_iconst (v := nI 0) dX1_readKey_45 rfl ?_
                refine e_aload_n dX1_readKey_46 rfl rfl ?_
                refine e_getR dX1_readKey_47 fl_X1_9 rfl (ca_w cm) ?_
                refine e_getR dX1_readKey_50 fl_X1_29 rfl (cm_map cm) ?_
                refine e_getR dX1_readKey_53 fl_X1_54 rfl (by first | exact cm_tep cm | exact cm_ctep cm (by omega) | assumption) ?_
                refine e_iload_n dX1_readKey_56 rfl rfl ?_
                refine e_iadE _ dX1_readKey_57 ⟨by decide, by decide⟩ rfl rfl (by simp only [lenK]; omega) (by first | exact k_ep hK (by first | omega | (simp (disch := omega) only [upN_n, upN_s]; omega)) | exact k_cep hK (by omega) (by first | omega | (simp (disch := omega) only [upN_n, upN_s]; omega)) | assumption) ?_
                refine ky_V4 (M' := mX3_noteAnswer) dX1_readKey_58 ml_X1_58 ok_X3_noteAnswer (by decide) rfl im_X3_noteAnswer se_X3_noteAnswer (ct_X3_noteAnswer cm bd hK (by omega) (by omega) (by omega)) (Nat.le_of_ble_eq_true rfl) (by decide) (Nat.le_of_ble_eq_true rfl) (fun fi ai hG hK => ?_)
                have hF := FR1_tr hF hG
                have bd := Bd_nt (c := c) (a := anF w c k) (d := 0) (e := w (74 + spW w k)) bd
                refine e_iload dX1_readKey_61 rfl ?_
                first | ((with_reducible refine mk_b ?_); refine b_if_eq (tgt := 71) dX1_readKey_63 (by decide) (fun h63 => ?_) (fun h63 => ?_)) | ((with_reducible refine mk_ll ?_); refine m_if_eq (tgt := 71) dX1_readKey_63 (by decide) (by omega) (by omega) (fun h63 => ?_) (fun h63 => ?_)) | ((with_reducible refine mk_lc ?_); refine l_if_eq (tgt := 71) dX1_readKey_63 (by decide) (fun h63 => ?_) (fun h63 => ?_)) | ((with_reducible refine mk_n ?_); refine n_if_eq (tgt := 71) dX1_readKey_63 (by decide) (by omega) (fun h63 => ?_) (fun h63 => ?_)) | refine e_if_eq (tgt := 71) dX1_readKey_63 (by decide) (fun h63 => ?_) (fun h63 => ?_)
                · try first | contradiction | omega | (simp only [decide_eq_true_eq, decide_eq_false_iff_not] at h63; omega)
                  all_goals
                    refine e_aload_n dX1_readKey_71 rfl rfl ?_
                    refine e_getR dX1_readKey_72 fl_X1_9 rfl (ca_w cm) ?_
                    refine e_getR dX1_readKey_75 fl_X1_64 rfl (cm_wts cm) ?_
                    refine e_iload_n dX1_readKey_78 rfl rfl ?_
                    refine e_dup2 dX1_readKey_79 rfl rfl ?_
                    refine e_iadE _ dX1_readKey_80 ⟨by decide, by decide⟩ rfl rfl (by simp only [lenK]; omega) (k_wt hK (by first | omega | (simp (disch := omega) only [upN_n, upN_s]; omega))) ?_
                    rw [nt_fr (by omega)]
                    refine e_iconst (v := nI 1) dX1_readKey_81 rfl ?_
                    first | ((with_reducible refine mk_nn ?_); refine n_iadd dX1_readKey_82 ?_) | refine e_iadd dX1_readKey_82 ?_
                    refine e_sw dX1_readKey_83 bd hK (by first | omega | (simp (disch := omega) only [upN_n, upN_s]; omega)) hF (fun ai hF hK => ?_)
                    have bd := Bd_K bd hK (by omega)
                    refine e_aload_n dX1_readKey_84 rfl rfl ?_
                    refine e_getR dX1_readKey_85 fl_X1_9 rfl (ca_w cm) ?_
                    refine e_aload_n dX1_readKey_88 rfl rfl ?_
                    refine e_getR dX1_readKey_89 fl_X1_9 rfl (ca_w cm) ?_
                    refine e_getR dX1_readKey_92 fl_X1_29 rfl (cm_map cm) ?_
                    refine e_getR dX1_readKey_95 fl_X1_67 rfl (by first | exact cm_tow cm | exact cm_ctow cm (by omega) | assumption) ?_
                    refine e_iload_n dX1_readKey_98 rfl rfl ?_
                    refine e_iadE _ dX1_readKey_99 ⟨by decide, by decide⟩ rfl rfl (by simp only [lenK]; omega) (k_ow hK (by rw [upN_n (by omega), nt_fr (by omega)]; omega)) ?_
                    rw [upN_n (by omega), nt_fr (by omega)]
                    refine e_iload_n dX1_readKey_100 rfl rfl ?_
                    refine x_V2 (M' := mX9_valueOf) dX1_readKey_101 ml_X1_70 ok_X9_valueOf (by decide) rfl im_X9_valueOf se_X9_valueOf (ct_valueOf2 cm bd hK (by omega) (by omega)) (Nat.le_of_ble_eq_true rfl) (by decide) (Nat.le_of_ble_eq_true rfl) ?_
                    refine e_ret (some _) rfl (r_int dX1_readKey_104 rfl) ?_
                    refine kq ?_ hF (K_eq hK ?_)
                    · rw [upN_n (by omega), nt_fr (by omega)]
                    · rw [ha]; exact nt_read hc hk (by rw [e3]; exact ha)
                · try first | contradiction | omega | (simp only [decide_eq_true_eq, decide_eq_false_iff_not] at h63; omega)
                  all_goals
                    contradiction
            · try first | contradiction | omega | (simp only [decide_eq_true_eq, decide_eq_false_iff_not] at h11; omega)
              all_goals
                contradiction
      · rw [if_neg ha]
        refine e_iload_n dX1_readKey_0 rfl rfl ?_
        refine x_N1 (M' := mX10_isClient) dX1_readKey_1 (List.mem_of_getElem? (i := 6) rfl) ok_X10_isClient sc_X10_isClient (ct_X10_isClient _) (Nat.le_of_ble_eq_true rfl) (by decide) (Nat.le_of_ble_eq_true rfl) ?_
        rw [hx]
        first | ((with_reducible refine mk_b ?_); refine b_if_eq (tgt := 14) dX1_readKey_4 (by decide) (fun h4 => ?_) (fun h4 => ?_)) | ((with_reducible refine mk_ll ?_); refine m_if_eq (tgt := 14) dX1_readKey_4 (by decide) (by omega) (by omega) (fun h4 => ?_) (fun h4 => ?_)) | ((with_reducible refine mk_lc ?_); refine l_if_eq (tgt := 14) dX1_readKey_4 (by decide) (fun h4 => ?_) (fun h4 => ?_)) | ((with_reducible refine mk_n ?_); refine n_if_eq (tgt := 14) dX1_readKey_4 (by decide) (by omega) (fun h4 => ?_) (fun h4 => ?_)) | refine e_if_eq (tgt := 14) dX1_readKey_4 (by decide) (fun h4 => ?_) (fun h4 => ?_)
        · try first | contradiction | omega | (simp only [decide_eq_true_eq, decide_eq_false_iff_not] at h4; omega)
          all_goals
            contradiction
        · try first | contradiction | omega | (simp only [decide_eq_true_eq, decide_eq_false_iff_not] at h4; omega)
          all_goals
            refine e_iload_n dX1_readKey_7 rfl rfl ?_
            refine x_N1 (M' := mX10_isKey) dX1_readKey_8 (List.mem_of_getElem? (i := 7) rfl) ok_X10_isKey sc_X10_isKey (ct_X10_isKey _) (Nat.le_of_ble_eq_true rfl) (by decide) (Nat.le_of_ble_eq_true rfl) ?_
            rw [hy]
            first | ((with_reducible refine mk_b ?_); refine b_if_ne (tgt := 17) dX1_readKey_11 (by decide) (fun h11 => ?_) (fun h11 => ?_)) | ((with_reducible refine mk_ll ?_); refine m_if_ne (tgt := 17) dX1_readKey_11 (by decide) (by omega) (by omega) (fun h11 => ?_) (fun h11 => ?_)) | ((with_reducible refine mk_lc ?_); refine l_if_ne (tgt := 17) dX1_readKey_11 (by decide) (fun h11 => ?_) (fun h11 => ?_)) | ((with_reducible refine mk_n ?_); refine n_if_ne (tgt := 17) dX1_readKey_11 (by decide) (by omega) (fun h11 => ?_) (fun h11 => ?_)) | refine e_if_ne (tgt := 17) dX1_readKey_11 (by decide) (fun h11 => ?_) (fun h11 => ?_)
            · try first | contradiction | omega | (simp only [decide_eq_true_eq, decide_eq_false_iff_not] at h11; omega)
              all_goals
                refine e_aload_n dX1_readKey_17 rfl rfl ?_
                refine e_getR dX1_readKey_18 fl_X1_9 rfl (ca_w cm) ?_
                refine e_getR dX1_readKey_21 fl_X1_29 rfl (cm_map cm) ?_
                refine e_iload_n dX1_readKey_24 rfl rfl ?_
                refine x_V1 (M' := mX8_indexOf) dX1_readKey_25 ml_X1_46 ok_X8_indexOf (by decide) rfl im_X8_indexOf se_X8_indexOf (by first | exact ct_X8_indexOf cm iv hK (by omega) | exact ct_cX8_indexOf cm iv hK (by omega) (by omega) (by omega)) (Nat.le_of_ble_eq_true rfl) (by decide) (Nat.le_of_ble_eq_true rfl) ?_
                refine e_istore_n dX1_readKey_28 rfl (Nat.le_of_ble_eq_true rfl) rfl ?_
                refine e_aload_n dX1_readKey_29 rfl rfl ?_
                refine e_iload_n dX1_readKey_30 rfl rfl ?_
                refine e_iload_n dX1_readKey_31 rfl rfl ?_
                refine e_iconst (v := nI 0) dX1_readKey_32 rfl ?_
                refine x_V3 (M' := mX1_answerTo) dX1_readKey_33 ml_X1_50 ok_X1_answerTo (by decide) rfl im_X1_answerTo se_X1_answerTo (ct_ans0 cm iv hK (by omega) (by omega)) (Nat.le_of_ble_eq_true rfl) (by decide) (Nat.le_of_ble_eq_true rfl) ?_
                refine e_istore dX1_readKey_36 (Nat.le_of_ble_eq_true rfl) rfl ?_
                refine e_aload_n dX1_readKey_38 rfl rfl ?_
                refine e_getR dX1_readKey_39 fl_X1_15 rfl (ca_l cm) ?_
                refine e_iload_n dX1_readKey_42 rfl rfl ?_
                refine e_iload dX1_readKey_43 rfl ?_
                refine e_iconst (v := nI 0) dX1_readKey_45 rfl ?_
                refine e_aload_n dX1_readKey_46 rfl rfl ?_
                refine e_getR dX1_readKey_47 fl_X1_9 rfl (ca_w cm) ?_
                refine e_getR dX1_readKey_50 fl_X1_29 rfl (cm_map cm) ?_
                refine e_getR dX1_readKey_53 fl_X1_54 rfl (by first | exact cm_tep cm | exact cm_ctep cm (by omega) | assumption) ?_
                refine e_iload_n dX1_readKey_56 rfl rfl ?_
                refine e_iadE _ dX1_readKey_57 ⟨by decide, by decide⟩ rfl rfl (by simp only [lenK]; omega) (by first | exact k_ep hK (by first | omega | (simp (disch := omega) only [upN_n, upN_s]; omega)) | exact k_cep hK (by omega) (by first | omega | (simp (disch := omega) only [upN_n, upN_s]; omega)) | assumption) ?_
                refine ky_V4 (M' := mX3_noteAnswer) dX1_readKey_58 ml_X1_58 ok_X3_noteAnswer (by decide) rfl im_X3_noteAnswer se_X3_noteAnswer (ct_X3_noteAnswer cm bd hK (by omega) (by omega) (by omega)) (Nat.le_of_ble_eq_true rfl) (by decide) (Nat.le_of_ble_eq_true rfl) (fun fi ai hG hK => ?_)
                have hF := FR1_tr hF hG
                refine e_iload dX1_readKey_61 rfl ?_
                first | ((with_reducible refine mk_b ?_); refine b_if_eq (tgt := 71) dX1_readKey_63 (by decide) (fun h63 => ?_) (fun h63 => ?_)) | ((with_reducible refine mk_ll ?_); refine m_if_eq (tgt := 71) dX1_readKey_63 (by decide) (by omega) (by omega) (fun h63 => ?_) (fun h63 => ?_)) | ((with_reducible refine mk_lc ?_); refine l_if_eq (tgt := 71) dX1_readKey_63 (by decide) (fun h63 => ?_) (fun h63 => ?_)) | ((with_reducible refine mk_n ?_); refine n_if_eq (tgt := 71) dX1_readKey_63 (by decide) (by omega) (fun h63 => ?_) (fun h63 => ?_)) | refine e_if_eq (tgt := 71) dX1_readKey_63 (by decide) (fun h63 => ?_) (fun h63 => ?_)
                · try first | contradiction | omega | (simp only [decide_eq_true_eq, decide_eq_false_iff_not] at h63; omega)
                  all_goals
                    contradiction
                · try first | contradiction | omega | (simp only [decide_eq_true_eq, decide_eq_false_iff_not] at h63; omega)
                  all_goals
                    refine e_iconst (v := -1) dX1_readKey_66 rfl ?_
                    refine e_iload dX1_readKey_67 rfl ?_
                    first | ((with_reducible refine mk_nn ?_); refine n_isub dX1_readKey_69 (by omega) ?_) | refine e_isub dX1_readKey_69 ?_
                    refine e_ret (some _) rfl (r_int dX1_readKey_70 rfl) ?_
                    refine kq rfl hF (K_eq hK ?_)
                    have := nt_ask (w := w) (c := c) (k := k) (v := 0) (d := 0) (by rw [e3]; exact ha)
                    rw [e3] at this
                    exact this
            · try first | contradiction | omega | (simp only [decide_eq_true_eq, decide_eq_false_iff_not] at h11; omega)
              all_goals
                contradiction
theorem ct_X1_writeKey {fi : FI} {fr : FR} {ai : FI} {ar : FR} {N : Nat} {w lg : Nat → Nat} {E : Nat} (cm : CM fr ar) (iv : Inv w) (hK : K fi ai w lg E) (x y v0 : Int32) (hwt : ∀ k, k < 1000 → w (106 + k) + 2 ≤ 100000) : CP mX1_writeKey 3 0 0 [.ref (rf 1 71), .int x, .int y, .int v0] fi fr ai ar N (kQ (some (.int (wriR w x y v0))) fi fr ai ar N (fun fi ai => K fi ai (wriW w x y v0) lg E)) := by
  have h1 := iv_n iv
  have h3 := iv_mm iv
  have bd := Bd_iv iv
  have hF : FR1 fi ai fi ai := FR1_rf
  change EV mX1_writeKey 3 0 0 0 [some (.ref (rf 1 71)), some (.int x), some (.int y), some (.int v0), none, none, none] [] fi fr ai ar N (kQ (some (.int (wriR w x y v0))) fi fr ai ar N (fun fi ai => K fi ai (wriW w x y v0) lg E))
  have t1 : (nI 1).toInt = 1 := by decide
  have t2 : (nI 99999).toInt = 99999 := by decide
  cases hcw : cwB x y v0 with
  | false =>
    have e1 : wriR w x y v0 = -1 := by unfold wriR; rw [hcw]; rfl
    have e2 : wriW w x y v0 = w := by unfold wriW; rw [hcw]; rfl
    rw [e1, e2]
    refine e_iload_n dX1_writeKey_0 rfl rfl ?_
    refine x_N1 (M' := mX10_isClient) dX1_writeKey_1 (List.mem_of_getElem? (i := 6) rfl) ok_X10_isClient sc_X10_isClient (ct_X10_isClient _) (Nat.le_of_ble_eq_true rfl) (by decide) (Nat.le_of_ble_eq_true rfl) ?_
    first | ((with_reducible refine mk_b ?_); refine b_if_eq (tgt := 25) dX1_writeKey_4 (by decide) (fun h4 => ?_) (fun h4 => ?_)) | ((with_reducible refine mk_ll ?_); refine m_if_eq (tgt := 25) dX1_writeKey_4 (by decide) (by omega) (by omega) (fun h4 => ?_) (fun h4 => ?_)) | ((with_reducible refine mk_lc ?_); refine l_if_eq (tgt := 25) dX1_writeKey_4 (by decide) (fun h4 => ?_) (fun h4 => ?_)) | ((with_reducible refine mk_n ?_); refine n_if_eq (tgt := 25) dX1_writeKey_4 (by decide) (by omega) (fun h4 => ?_) (fun h4 => ?_)) | refine e_if_eq (tgt := 25) dX1_writeKey_4 (by decide) (fun h4 => ?_) (fun h4 => ?_)
    · try first | contradiction | omega | (simp only [decide_eq_true_eq, decide_eq_false_iff_not] at h4; omega)
      all_goals
        refine e_iconst (v := -1) dX1_writeKey_25 rfl ?_
        refine e_ret (some _) rfl (r_int dX1_writeKey_26 rfl) ?_
        exact kq rfl hF hK
    · try first | contradiction | omega | (simp only [decide_eq_true_eq, decide_eq_false_iff_not] at h4; omega)
      all_goals
        refine e_iload_n dX1_writeKey_7 rfl rfl ?_
        refine x_N1 (M' := mX10_isKey) dX1_writeKey_8 (List.mem_of_getElem? (i := 7) rfl) ok_X10_isKey sc_X10_isKey (ct_X10_isKey _) (Nat.le_of_ble_eq_true rfl) (by decide) (Nat.le_of_ble_eq_true rfl) ?_
        first | ((with_reducible refine mk_b ?_); refine b_if_eq (tgt := 25) dX1_writeKey_11 (by decide) (fun h11 => ?_) (fun h11 => ?_)) | ((with_reducible refine mk_ll ?_); refine m_if_eq (tgt := 25) dX1_writeKey_11 (by decide) (by omega) (by omega) (fun h11 => ?_) (fun h11 => ?_)) | ((with_reducible refine mk_lc ?_); refine l_if_eq (tgt := 25) dX1_writeKey_11 (by decide) (fun h11 => ?_) (fun h11 => ?_)) | ((with_reducible refine mk_n ?_); refine n_if_eq (tgt := 25) dX1_writeKey_11 (by decide) (by omega) (fun h11 => ?_) (fun h11 => ?_)) | refine e_if_eq (tgt := 25) dX1_writeKey_11 (by decide) (fun h11 => ?_) (fun h11 => ?_)
        · try first | contradiction | omega | (simp only [decide_eq_true_eq, decide_eq_false_iff_not] at h11; omega)
          all_goals
            refine e_iconst (v := -1) dX1_writeKey_25 rfl ?_
            refine e_ret (some _) rfl (r_int dX1_writeKey_26 rfl) ?_
            exact kq rfl hF hK
        · try first | contradiction | omega | (simp only [decide_eq_true_eq, decide_eq_false_iff_not] at h11; omega)
          all_goals
            refine e_iload_n dX1_writeKey_14 rfl rfl ?_
            refine e_iconst (v := nI 1) dX1_writeKey_15 rfl ?_
            first | ((with_reducible refine mk_nn ?_); refine n_icmp_lt (tgt := 25) dX1_writeKey_16 (by decide) (by omega) (by omega) (fun h16 => ?_) (fun h16 => ?_)) | refine e_icmp_lt (tgt := 25) dX1_writeKey_16 (by decide) (fun h16 => ?_) (fun h16 => ?_)
            · try first | contradiction | omega
              all_goals
                refine e_iconst (v := -1) dX1_writeKey_25 rfl ?_
                refine e_ret (some _) rfl (r_int dX1_writeKey_26 rfl) ?_
                exact kq rfl hF hK
            · try first | contradiction | omega
              all_goals
                refine e_iload_n dX1_writeKey_19 rfl rfl ?_
                refine e_ldc dX1_writeKey_20 co_X1_74 ?_
                first | ((with_reducible refine mk_nn ?_); refine n_icmp_le (tgt := 27) dX1_writeKey_22 (by decide) (by omega) (by omega) (fun h22 => ?_) (fun h22 => ?_)) | refine e_icmp_le (tgt := 27) dX1_writeKey_22 (by decide) (fun h22 => ?_) (fun h22 => ?_)
                · try first | contradiction | omega
                  all_goals
                    exfalso; simp only [Int32.lt_iff_toInt_lt, Int32.le_iff_toInt_le, t1, t2] at *; have : cwB x y v0 = true := (by unfold cwB; rw [h4, h11, decide_eq_true (by omega)]; rfl); rw [this] at hcw; exact absurd hcw (by decide)
                · try first | contradiction | omega
                  all_goals
                    refine e_iconst (v := -1) dX1_writeKey_25 rfl ?_
                    refine e_ret (some _) rfl (r_int dX1_writeKey_26 rfl) ?_
                    exact kq rfl hF hK
  | true =>
    have hcw2 := hcw
    unfold cwB at hcw2
    simp only [Bool.and_eq_true, decide_eq_true_eq] at hcw2
    obtain ⟨⟨hx, hy⟩, hv⟩ := hcw2
    obtain ⟨c, hc, hc2, rfl⟩ := inR_ex hx
    obtain ⟨k, hk, hk2, rfl⟩ := inR_ex hy
    obtain ⟨v, hv1, hv2, rfl⟩ := inR_ex (x := v0) (n := 100000) (by unfold inR; exact decide_eq_true (by omega))
    rw [nI_toInt (b31 hv2)] at hv
    have e2 : wriW w (nI c) (nI k) (nI v) = askW w c k v := by unfold wriW; rw [hcw, if_pos rfl, nI_clamp hc2, nI_clamp hk2, nI_clamp hv2]
    have e1 : wriR w (nI c) (nI k) (nI v) = nI (asA w c k v) := by unfold wriR; rw [hcw, if_pos rfl, nI_clamp hc2, nI_clamp hk2, nI_clamp hv2]
    rw [e1, e2]
    have hsp := spW_lt iv k
    have how := iv_own iv hsp
    have hlo := iv_low iv hsp
    have hep := iv_ep iv hsp
    have he0 := iv_ep0 iv
    have hal : asA w c k v ≤ 4 := by unfold asA; have := anF_le w c k; split <;> omega
    have f : ∀ q, q < 8558 → upN (ask1 w c) (8573 + 4 * c + 1) (w (8573 + 4 * c + 1) + 1) q = w q := fun q hq => by unfold ask1; rw [upN_n (by omega), upN_n (by omega)]
    have iv1 := Inv_fr f iv
    by_cases ha : asA w c k v = 0
    · have e3 := nt_wr iv (c := c) (k := k) (v := v) (e := w (74 + spW w k)) hc hk
      have ivW := wr3_Inv iv1 hk (v := v) (by omega) (by rw [f _ (by omega)]; exact hwt k hk)
      have g : ∀ q, q < 106 ∨ (7106 ≤ q ∧ q < 8558) → wr3 (upN (ask1 w c) (8573 + 4 * c + 1) (w (8573 + 4 * c + 1) + 1)) k v q = w q := fun q hq => by rw [wr3_fr iv1 hk hq]; exact f q (by omega)
      have gm : ∀ l, mvL (wr3 (upN (ask1 w c) (8573 + 4 * c + 1) (w (8573 + 4 * c + 1) + 1)) k v) l = mvL w l := fun l => mvL_fr (g 3 (by omega)) (fun m hm => ⟨g _ (by omega), g _ (by omega)⟩) l
      obtain ⟨x1, x2⟩ := nt_wrW iv (c := c) (k := k) (v := v) hc hk (by omega) ha
      cases hmv : mvL w (w (10 + spW w k)) with
      | none =>
        refine e_iload_n dX1_writeKey_0 rfl rfl ?_
        refine x_N1 (M' := mX10_isClient) dX1_writeKey_1 (List.mem_of_getElem? (i := 6) rfl) ok_X10_isClient sc_X10_isClient (ct_X10_isClient _) (Nat.le_of_ble_eq_true rfl) (by decide) (Nat.le_of_ble_eq_true rfl) ?_
        rw [hx]
        first | ((with_reducible refine mk_b ?_); refine b_if_eq (tgt := 25) dX1_writeKey_4 (by decide) (fun h4 => ?_) (fun h4 => ?_)) | ((with_reducible refine mk_ll ?_); refine m_if_eq (tgt := 25) dX1_writeKey_4 (by decide) (by omega) (by omega) (fun h4 => ?_) (fun h4 => ?_)) | ((with_reducible refine mk_lc ?_); refine l_if_eq (tgt := 25) dX1_writeKey_4 (by decide) (fun h4 => ?_) (fun h4 => ?_)) | ((with_reducible refine mk_n ?_); refine n_if_eq (tgt := 25) dX1_writeKey_4 (by decide) (by omega) (fun h4 => ?_) (fun h4 => ?_)) | refine e_if_eq (tgt := 25) dX1_writeKey_4 (by decide) (fun h4 => ?_) (fun h4 => ?_)
        · try first | contradiction | omega | (simp only [decide_eq_true_eq, decide_eq_false_iff_not] at h4; omega)
          all_goals
            refine e_iconst (v := -1) dX1_writeKey_25 rfl ?_
            refine e_ret (some _) rfl (r_int dX1_writeKey_26 rfl) ?_
            first | (exact kq (by rw [ha]) hF (K_eq hK (x1 hmv))) | (exfalso; omega)
        · try first | contradiction | omega | (simp only [decide_eq_true_eq, decide_eq_false_iff_not] at h4; omega)
          all_goals
            refine e_iload_n dX1_writeKey_7 rfl rfl ?_
            refine x_N1 (M' := mX10_isKey) dX1_writeKey_8 (List.mem_of_getElem? (i := 7) rfl) ok_X10_isKey sc_X10_isKey (ct_X10_isKey _) (Nat.le_of_ble_eq_true rfl) (by decide) (Nat.le_of_ble_eq_true rfl) ?_
            rw [hy]
            first | ((with_reducible refine mk_b ?_); refine b_if_eq (tgt := 25) dX1_writeKey_11 (by decide) (fun h11 => ?_) (fun h11 => ?_)) | ((with_reducible refine mk_ll ?_); refine m_if_eq (tgt := 25) dX1_writeKey_11 (by decide) (by omega) (by omega) (fun h11 => ?_) (fun h11 => ?_)) | ((with_reducible refine mk_lc ?_); refine l_if_eq (tgt := 25) dX1_writeKey_11 (by decide) (fun h11 => ?_) (fun h11 => ?_)) | ((with_reducible refine mk_n ?_); refine n_if_eq (tgt := 25) dX1_writeKey_11 (by decide) (by omega) (fun h11 => ?_) (fun h11 => ?_)) | refine e_if_eq (tgt := 25) dX1_writeKey_11 (by decide) (fun h11 => ?_) (fun h11 => ?_)
            · try first | contradiction | omega | (simp only [decide_eq_true_eq, decide_eq_false_iff_not] at h11; omega)
              all_goals
                refine e_iconst (v := -1) dX1_writeKey_25 rfl ?_
                refine e_ret (some _) rfl (r_int dX1_writeKey_26 rfl) ?_
                first | (exact kq (by rw [ha]) hF (K_eq hK (x1 hmv))) | (exfalso; omega)
            · try first | contradiction | omega | (simp only [decide_eq_true_eq, decide_eq_false_iff_not] at h11; omega)
              all_goals
                refine e_iload_n dX1_writeKey_14 rfl rfl ?_
                refine e_iconst (v := nI 1) dX1_writeKey_15 rfl ?_
                first | ((with_reducible refine mk_nn ?_); refine n_icmp_lt (tgt := 25) dX1_writeKey_16 (by decide) (by omega) (by omega) (fun h16 => ?_) (fun h16 => ?_)) | refine e_icmp_lt (tgt := 25) dX1_writeKey_16 (by decide) (fun h16 => ?_) (fun h16 => ?_)
                · try first | contradiction | omega
                  all_goals
                    refine e_iconst (v := -1) dX1_writeKey_25 rfl ?_
                    refine e_ret (some _) rfl (r_int dX1_writeKey_26 rfl) ?_
                    first | (exact kq (by rw [ha]) hF (K_eq hK (x1 hmv))) | (exfalso; omega)
                · try first | contradiction | omega
                  all_goals
                    refine e_iload_n dX1_writeKey_19 rfl rfl ?_
                    refine e_ldc dX1_writeKey_20 co_X1_74 ?_
                    first | ((with_reducible refine mk_nn ?_); refine n_icmp_le (tgt := 27) dX1_writeKey_22 (by decide) (by omega) (by omega) (fun h22 => ?_) (fun h22 => ?_)) | refine e_icmp_le (tgt := 27) dX1_writeKey_22 (by decide) (fun h22 => ?_) (fun h22 => ?_)
                    · try first | contradiction | omega
                      all_goals
                        refine e_aload_n dX1_writeKey_27 rfl rfl ?_
                        refine e_getR dX1_writeKey_28 fl_X1_9 rfl (ca_w cm) ?_
                        refine e_getR dX1_writeKey_31 fl_X1_29 rfl (cm_map cm) ?_
                        refine e_iload_n dX1_writeKey_34 rfl rfl ?_
                        refine x_V1 (M' := mX8_indexOf) dX1_writeKey_35 ml_X1_46 ok_X8_indexOf (by decide) rfl im_X8_indexOf se_X8_indexOf (by first | exact ct_X8_indexOf cm iv hK (by omega) | exact ct_cX8_indexOf cm iv hK (by omega) (by omega) (by omega)) (Nat.le_of_ble_eq_true rfl) (by decide) (Nat.le_of_ble_eq_true rfl) ?_
                        refine e_istore dX1_writeKey_38 (Nat.le_of_ble_eq_true rfl) rfl ?_
                        refine e_aload_n dX1_writeKey_40 rfl rfl ?_
                        refine e_iload_n dX1_writeKey_41 rfl rfl ?_
                        refine e_iload_n dX1_writeKey_42 rfl rfl ?_
                        refine e_iconst (v := nI 1) dX1_writeKey_43 rfl ?_
                        refine x_V3 (M' := mX1_answerTo) dX1_writeKey_44 ml_X1_50 ok_X1_answerTo (by decide) rfl im_X1_answerTo se_X1_answerTo (ct_ans1 cm iv hK (by omega) (by omega) (v := v) (by omega)) (Nat.le_of_ble_eq_true rfl) (by decide) (Nat.le_of_ble_eq_true rfl) ?_
                        refine e_istore dX1_writeKey_47 (Nat.le_of_ble_eq_true rfl) rfl ?_
                        refine e_aload_n dX1_writeKey_49 rfl rfl ?_
                        refine e_getR dX1_writeKey_50 fl_X1_15 rfl (ca_l cm) ?_
                        refine e_iload_n dX1_writeKey_53 rfl rfl ?_
                        refine e_iload dX1_writeKey_54 rfl ?_
                        refine e_iconst (v := nI 1) dX1_writeKey_56 rfl ?_
                        refine e_aload_n dX1_writeKey_57 rfl rfl ?_
                        refine e_getR dX1_writeKey_58 fl_X1_9 rfl (ca_w cm) ?_
                        refine e_getR dX1_writeKey_61 fl_X1_29 rfl (cm_map cm) ?_
                        refine e_getR dX1_writeKey_64 fl_X1_54 rfl (by first | exact cm_tep cm | exact cm_ctep cm (by omega) | assumption) ?_
                        refine e_iload dX1_writeKey_67 rfl ?_
                        refine e_iadE _ dX1_writeKey_69 ⟨by decide, by decide⟩ rfl rfl (by simp only [lenK]; omega) (by first | exact k_ep hK (by first | omega | (simp (disch := omega) only [upN_n, upN_s]; omega)) | exact k_cep hK (by omega) (by first | omega | (simp (disch := omega) only [upN_n, upN_s]; omega)) | assumption) ?_
                        refine ky_V4 (M' := mX3_noteAnswer) dX1_writeKey_70 ml_X1_58 ok_X3_noteAnswer (by decide) rfl im_X3_noteAnswer se_X3_noteAnswer (ct_X3_noteAnswer cm bd hK (by omega) (by omega) (by omega)) (Nat.le_of_ble_eq_true rfl) (by decide) (Nat.le_of_ble_eq_true rfl) (fun fi ai hG hK => ?_)
                        have hF := FR1_tr hF hG
                        have bd := Bd_nt (c := c) (a := asA w c k v) (d := 1) (e := w (74 + spW w k)) bd
                        refine e_iload dX1_writeKey_73 rfl ?_
                        first | ((with_reducible refine mk_b ?_); refine b_if_ne (tgt := 155) dX1_writeKey_75 (by decide) (fun h75 => ?_) (fun h75 => ?_)) | ((with_reducible refine mk_ll ?_); refine m_if_ne (tgt := 155) dX1_writeKey_75 (by decide) (by omega) (by omega) (fun h75 => ?_) (fun h75 => ?_)) | ((with_reducible refine mk_lc ?_); refine l_if_ne (tgt := 155) dX1_writeKey_75 (by decide) (fun h75 => ?_) (fun h75 => ?_)) | ((with_reducible refine mk_n ?_); refine n_if_ne (tgt := 155) dX1_writeKey_75 (by decide) (by omega) (fun h75 => ?_) (fun h75 => ?_)) | refine e_if_ne (tgt := 155) dX1_writeKey_75 (by decide) (fun h75 => ?_) (fun h75 => ?_)
                        · try first | contradiction | omega | (simp only [decide_eq_true_eq, decide_eq_false_iff_not] at h75; omega)
                          all_goals
                            refine e_iload dX1_writeKey_155 rfl ?_
                            refine e_ret (some _) rfl (r_int dX1_writeKey_157 rfl) ?_
                            first | (exact kq (by rw [ha]) hF (K_eq hK (x1 hmv))) | (exfalso; omega)
                        · try first | contradiction | omega | (simp only [decide_eq_true_eq, decide_eq_false_iff_not] at h75; omega)
                          all_goals
                            refine e_aload_n dX1_writeKey_78 rfl rfl ?_
                            refine e_getR dX1_writeKey_79 fl_X1_9 rfl (ca_w cm) ?_
                            refine e_getR dX1_writeKey_82 fl_X1_64 rfl (cm_wts cm) ?_
                            refine e_iload_n dX1_writeKey_85 rfl rfl ?_
                            refine e_dup2 dX1_writeKey_86 rfl rfl ?_
                            refine e_iadE _ dX1_writeKey_87 ⟨by decide, by decide⟩ rfl rfl (by simp only [lenK]; omega) (k_wt hK (by first | omega | (simp (disch := omega) only [upN_n, upN_s]; omega))) ?_
                            rw [nt_fr (by omega)]
                            refine e_iconst (v := nI 2) dX1_writeKey_88 rfl ?_
                            first | ((with_reducible refine mk_nn ?_); refine n_iadd dX1_writeKey_89 ?_) | refine e_iadd dX1_writeKey_89 ?_
                            refine e_sw dX1_writeKey_90 bd hK (by first | omega | (simp (disch := omega) only [upN_n, upN_s]; omega)) hF (fun ai hF hK => ?_)
                            have bd := Bd_K bd hK (by omega)
                            refine e_aload_n dX1_writeKey_91 rfl rfl ?_
                            refine e_getR dX1_writeKey_92 fl_X1_9 rfl (ca_w cm) ?_
                            refine e_aload_n dX1_writeKey_95 rfl rfl ?_
                            refine e_getR dX1_writeKey_96 fl_X1_9 rfl (ca_w cm) ?_
                            refine e_getR dX1_writeKey_99 fl_X1_29 rfl (cm_map cm) ?_
                            refine e_getR dX1_writeKey_102 fl_X1_67 rfl (by first | exact cm_tow cm | exact cm_ctow cm (by omega) | assumption) ?_
                            refine e_iload dX1_writeKey_105 rfl ?_
                            refine e_iadE _ dX1_writeKey_107 ⟨by decide, by decide⟩ rfl rfl (by simp only [lenK]; omega) (k_ow hK (by rw [upN_n (by omega), nt_fr (by omega)]; omega)) ?_
                            rw [upN_n (by omega), nt_fr (by omega)]
                            refine e_iload_n dX1_writeKey_108 rfl rfl ?_
                            refine e_iload_n dX1_writeKey_109 rfl rfl ?_
                            refine ky_V3 (M' := mX9_putValue) dX1_writeKey_110 ml_X1_75 ok_X9_putValue (by decide) rfl im_X9_putValue se_X9_putValue (ct_X9_putValue cm bd hK (by omega) (by omega)) (Nat.le_of_ble_eq_true rfl) (by decide) (Nat.le_of_ble_eq_true rfl) (fun fi ai hG hK => ?_)
                            have hF := FR1_tr hF hG
                            rw [ha] at hK
                            have hK := K_eq hK e3
                            have iv := ivW
                            have bd := Bd_iv ivW
                            refine e_aload_n dX1_writeKey_113 rfl rfl ?_
                            refine e_getR dX1_writeKey_114 fl_X1_9 rfl (ca_w cm) ?_
                            refine e_aload_n dX1_writeKey_117 rfl rfl ?_
                            refine e_getR dX1_writeKey_118 fl_X1_9 rfl (ca_w cm) ?_
                            refine e_getR dX1_writeKey_121 fl_X1_29 rfl (cm_map cm) ?_
                            refine e_getR dX1_writeKey_124 fl_X1_79 rfl (by first | exact cm_tlo cm | exact cm_ctlo cm (by omega) | assumption) ?_
                            refine e_iload dX1_writeKey_127 rfl ?_
                            refine e_iadE _ dX1_writeKey_129 ⟨by decide, by decide⟩ rfl rfl (by simp only [lenK]; omega) (k_lo hK (by rw [g _ (by omega)]; omega)) ?_
                            rw [g _ (by omega)]
                            refine x_V1 (M' := mX9_moveAt) dX1_writeKey_130 ml_X1_82 ok_X9_moveAt (by decide) rfl im_X9_moveAt se_X9_moveAt (ct_X9_moveAt cm iv hK (by omega)) (Nat.le_of_ble_eq_true rfl) (by decide) (Nat.le_of_ble_eq_true rfl) ?_
                            rw [gm, hmv]
                            refine e_istore dX1_writeKey_133 (Nat.le_of_ble_eq_true rfl) rfl ?_
                            refine e_iload dX1_writeKey_135 rfl ?_
                            refine e_iconst (v := -1) dX1_writeKey_137 rfl ?_
                            first | ((with_reducible refine mk_mo ?_); refine p_icmp_eq (tgt := 155) dX1_writeKey_138 (by decide) (fun h138 => ?_) (fun h138 => ?_)) | ((with_reducible refine mk_ms ?_); refine s_icmp_eq (tgt := 155) dX1_writeKey_138 (by decide) (by omega) (fun h138 => ?_) (fun h138 => ?_)) | ((with_reducible refine mk_mn ?_); refine q_icmp_eq (tgt := 155) dX1_writeKey_138 (by decide) (by omega) (fun h138 => ?_) (fun h138 => ?_)) | ((with_reducible refine mk_nn ?_); refine n_icmp_eq (tgt := 155) dX1_writeKey_138 (by decide) (by omega) (by omega) (fun h138 => ?_) (fun h138 => ?_)) | refine e_icmp_eq (tgt := 155) dX1_writeKey_138 (by decide) (fun h138 => ?_) (fun h138 => ?_)
                            · try first | contradiction | omega
                              all_goals
                                refine e_iload dX1_writeKey_155 rfl ?_
                                refine e_ret (some _) rfl (r_int dX1_writeKey_157 rfl) ?_
                                first | (exact kq (by rw [ha]) hF (K_eq hK (x1 hmv))) | (exfalso; omega)
                            · try first | contradiction | omega
                              all_goals
                                refine e_aload_n dX1_writeKey_141 rfl rfl ?_
                                refine e_getR dX1_writeKey_142 fl_X1_9 rfl (ca_w cm) ?_
                                refine e_getR dX1_writeKey_145 fl_X1_85 rfl (cm_mvs cm) ?_
                                refine e_iload dX1_writeKey_148 rfl ?_
                                refine e_aald _ dX1_writeKey_150 ⟨by decide, by decide⟩ rfl rfl (by simp only [lenK]; omega) (cm_mo cm (by omega)) ?_
                                refine e_iload_n dX1_writeKey_151 rfl rfl ?_
                                refine ky_V1 (M' := mX4_noteWrite) dX1_writeKey_152 ml_X1_89 ok_X4_noteWrite (by decide) rfl im_X4_noteWrite se_X4_noteWrite (ct_X4_noteWrite cm iv hK (by omega) (by omega)) (Nat.le_of_ble_eq_true rfl) (by decide) (Nat.le_of_ble_eq_true rfl) (fun fi ai hG hK => ?_)
                                have hF := FR1_tr hF hG
                                refine e_iload dX1_writeKey_155 rfl ?_
                                refine e_ret (some _) rfl (r_int dX1_writeKey_157 rfl) ?_
                                first | (exact kq (by rw [ha]) hF (K_eq hK (x1 hmv))) | (exfalso; omega)
                    · try first | contradiction | omega
                      all_goals
                        refine e_iconst (v := -1) dX1_writeKey_25 rfl ?_
                        refine e_ret (some _) rfl (r_int dX1_writeKey_26 rfl) ?_
                        first | (exact kq (by rw [ha]) hF (K_eq hK (x1 hmv))) | (exfalso; omega)
      | some m =>
        obtain ⟨hm, hg, -⟩ := mvL_in hmv
        have g3 := g 3 (by omega)
        refine e_iload_n dX1_writeKey_0 rfl rfl ?_
        refine x_N1 (M' := mX10_isClient) dX1_writeKey_1 (List.mem_of_getElem? (i := 6) rfl) ok_X10_isClient sc_X10_isClient (ct_X10_isClient _) (Nat.le_of_ble_eq_true rfl) (by decide) (Nat.le_of_ble_eq_true rfl) ?_
        rw [hx]
        first | ((with_reducible refine mk_b ?_); refine b_if_eq (tgt := 25) dX1_writeKey_4 (by decide) (fun h4 => ?_) (fun h4 => ?_)) | ((with_reducible refine mk_ll ?_); refine m_if_eq (tgt := 25) dX1_writeKey_4 (by decide) (by omega) (by omega) (fun h4 => ?_) (fun h4 => ?_)) | ((with_reducible refine mk_lc ?_); refine l_if_eq (tgt := 25) dX1_writeKey_4 (by decide) (fun h4 => ?_) (fun h4 => ?_)) | ((with_reducible refine mk_n ?_); refine n_if_eq (tgt := 25) dX1_writeKey_4 (by decide) (by omega) (fun h4 => ?_) (fun h4 => ?_)) | refine e_if_eq (tgt := 25) dX1_writeKey_4 (by decide) (fun h4 => ?_) (fun h4 => ?_)
        · try first | contradiction | omega | (simp only [decide_eq_true_eq, decide_eq_false_iff_not] at h4; omega)
          all_goals
            refine e_iconst (v := -1) dX1_writeKey_25 rfl ?_
            refine e_ret (some _) rfl (r_int dX1_writeKey_26 rfl) ?_
            first | (exact kq (by rw [ha]) hF (K_eq hK (x2 m hmv))) | (exfalso; omega)
        · try first | contradiction | omega | (simp only [decide_eq_true_eq, decide_eq_false_iff_not] at h4; omega)
          all_goals
            refine e_iload_n dX1_writeKey_7 rfl rfl ?_
            refine x_N1 (M' := mX10_isKey) dX1_writeKey_8 (List.mem_of_getElem? (i := 7) rfl) ok_X10_isKey sc_X10_isKey (ct_X10_isKey _) (Nat.le_of_ble_eq_true rfl) (by decide) (Nat.le_of_ble_eq_true rfl) ?_
            rw [hy]
            first | ((with_reducible refine mk_b ?_); refine b_if_eq (tgt := 25) dX1_writeKey_11 (by decide) (fun h11 => ?_) (fun h11 => ?_)) | ((with_reducible refine mk_ll ?_); refine m_if_eq (tgt := 25) dX1_writeKey_11 (by decide) (by omega) (by omega) (fun h11 => ?_) (fun h11 => ?_)) | ((with_reducible refine mk_lc ?_); refine l_if_eq (tgt := 25) dX1_writeKey_11 (by decide) (fun h11 => ?_) (fun h11 => ?_)) | ((with_reducible refine mk_n ?_); refine n_if_eq (tgt := 25) dX1_writeKey_11 (by decide) (by omega) (fun h11 => ?_) (fun h11 => ?_)) | refine e_if_eq (tgt := 25) dX1_writeKey_11 (by decide) (fun h11 => ?_) (fun h11 => ?_)
            · try first | contradiction | omega | (simp only [decide_eq_true_eq, decide_eq_false_iff_not] at h11; omega)
              all_goals
                refine e_iconst (v := -1) dX1_writeKey_25 rfl ?_
                refine e_ret (some _) rfl (r_int dX1_writeKey_26 rfl) ?_
                first | (exact kq (by rw [ha]) hF (K_eq hK (x2 m hmv))) | (exfalso; omega)
            · try first | contradiction | omega | (simp only [decide_eq_true_eq, decide_eq_false_iff_not] at h11; omega)
              all_goals
                refine e_iload_n dX1_writeKey_14 rfl rfl ?_
                refine e_iconst (v := nI 1) dX1_writeKey_15 rfl ?_
                first | ((with_reducible refine mk_nn ?_); refine n_icmp_lt (tgt := 25) dX1_writeKey_16 (by decide) (by omega) (by omega) (fun h16 => ?_) (fun h16 => ?_)) | refine e_icmp_lt (tgt := 25) dX1_writeKey_16 (by decide) (fun h16 => ?_) (fun h16 => ?_)
                · try first | contradiction | omega
                  all_goals
                    refine e_iconst (v := -1) dX1_writeKey_25 rfl ?_
                    refine e_ret (some _) rfl (r_int dX1_writeKey_26 rfl) ?_
                    first | (exact kq (by rw [ha]) hF (K_eq hK (x2 m hmv))) | (exfalso; omega)
                · try first | contradiction | omega
                  all_goals
                    refine e_iload_n dX1_writeKey_19 rfl rfl ?_
                    refine e_ldc dX1_writeKey_20 co_X1_74 ?_
                    first | ((with_reducible refine mk_nn ?_); refine n_icmp_le (tgt := 27) dX1_writeKey_22 (by decide) (by omega) (by omega) (fun h22 => ?_) (fun h22 => ?_)) | refine e_icmp_le (tgt := 27) dX1_writeKey_22 (by decide) (fun h22 => ?_) (fun h22 => ?_)
                    · try first | contradiction | omega
                      all_goals
                        refine e_aload_n dX1_writeKey_27 rfl rfl ?_
                        refine e_getR dX1_writeKey_28 fl_X1_9 rfl (ca_w cm) ?_
                        refine e_getR dX1_writeKey_31 fl_X1_29 rfl (cm_map cm) ?_
                        refine e_iload_n dX1_writeKey_34 rfl rfl ?_
                        refine x_V1 (M' := mX8_indexOf) dX1_writeKey_35 ml_X1_46 ok_X8_indexOf (by decide) rfl im_X8_indexOf se_X8_indexOf (by first | exact ct_X8_indexOf cm iv hK (by omega) | exact ct_cX8_indexOf cm iv hK (by omega) (by omega) (by omega)) (Nat.le_of_ble_eq_true rfl) (by decide) (Nat.le_of_ble_eq_true rfl) ?_
                        refine e_istore dX1_writeKey_38 (Nat.le_of_ble_eq_true rfl) rfl ?_
                        refine e_aload_n dX1_writeKey_40 rfl rfl ?_
                        refine e_iload_n dX1_writeKey_41 rfl rfl ?_
                        refine e_iload_n dX1_writeKey_42 rfl rfl ?_
                        refine e_iconst (v := nI 1) dX1_writeKey_43 rfl ?_
                        refine x_V3 (M' := mX1_answerTo) dX1_writeKey_44 ml_X1_50 ok_X1_answerTo (by decide) rfl im_X1_answerTo se_X1_answerTo (ct_ans1 cm iv hK (by omega) (by omega) (v := v) (by omega)) (Nat.le_of_ble_eq_true rfl) (by decide) (Nat.le_of_ble_eq_true rfl) ?_
                        refine e_istore dX1_writeKey_47 (Nat.le_of_ble_eq_true rfl) rfl ?_
                        refine e_aload_n dX1_writeKey_49 rfl rfl ?_
                        refine e_getR dX1_writeKey_50 fl_X1_15 rfl (ca_l cm) ?_
                        refine e_iload_n dX1_writeKey_53 rfl rfl ?_
                        refine e_iload dX1_writeKey_54 rfl ?_
                        refine e_iconst (v := nI 1) dX1_writeKey_56 rfl ?_
                        refine e_aload_n dX1_writeKey_57 rfl rfl ?_
                        refine e_getR dX1_writeKey_58 fl_X1_9 rfl (ca_w cm) ?_
                        refine e_getR dX1_writeKey_61 fl_X1_29 rfl (cm_map cm) ?_
                        refine e_getR dX1_writeKey_64 fl_X1_54 rfl (by first | exact cm_tep cm | exact cm_ctep cm (by omega) | assumption) ?_
                        refine e_iload dX1_writeKey_67 rfl ?_
                        refine e_iadE _ dX1_writeKey_69 ⟨by decide, by decide⟩ rfl rfl (by simp only [lenK]; omega) (by first | exact k_ep hK (by first | omega | (simp (disch := omega) only [upN_n, upN_s]; omega)) | exact k_cep hK (by omega) (by first | omega | (simp (disch := omega) only [upN_n, upN_s]; omega)) | assumption) ?_
                        refine ky_V4 (M' := mX3_noteAnswer) dX1_writeKey_70 ml_X1_58 ok_X3_noteAnswer (by decide) rfl im_X3_noteAnswer se_X3_noteAnswer (ct_X3_noteAnswer cm bd hK (by omega) (by omega) (by omega)) (Nat.le_of_ble_eq_true rfl) (by decide) (Nat.le_of_ble_eq_true rfl) (fun fi ai hG hK => ?_)
                        have hF := FR1_tr hF hG
                        have bd := Bd_nt (c := c) (a := asA w c k v) (d := 1) (e := w (74 + spW w k)) bd
                        refine e_iload dX1_writeKey_73 rfl ?_
                        first | ((with_reducible refine mk_b ?_); refine b_if_ne (tgt := 155) dX1_writeKey_75 (by decide) (fun h75 => ?_) (fun h75 => ?_)) | ((with_reducible refine mk_ll ?_); refine m_if_ne (tgt := 155) dX1_writeKey_75 (by decide) (by omega) (by omega) (fun h75 => ?_) (fun h75 => ?_)) | ((with_reducible refine mk_lc ?_); refine l_if_ne (tgt := 155) dX1_writeKey_75 (by decide) (fun h75 => ?_) (fun h75 => ?_)) | ((with_reducible refine mk_n ?_); refine n_if_ne (tgt := 155) dX1_writeKey_75 (by decide) (by omega) (fun h75 => ?_) (fun h75 => ?_)) | refine e_if_ne (tgt := 155) dX1_writeKey_75 (by decide) (fun h75 => ?_) (fun h75 => ?_)
                        · try first | contradiction | omega | (simp only [decide_eq_true_eq, decide_eq_false_iff_not] at h75; omega)
                          all_goals
                            refine e_iload dX1_writeKey_155 rfl ?_
                            refine e_ret (some _) rfl (r_int dX1_writeKey_157 rfl) ?_
                            first | (exact kq (by rw [ha]) hF (K_eq hK (x2 m hmv))) | (exfalso; omega)
                        · try first | contradiction | omega | (simp only [decide_eq_true_eq, decide_eq_false_iff_not] at h75; omega)
                          all_goals
                            refine e_aload_n dX1_writeKey_78 rfl rfl ?_
                            refine e_getR dX1_writeKey_79 fl_X1_9 rfl (ca_w cm) ?_
                            refine e_getR dX1_writeKey_82 fl_X1_64 rfl (cm_wts cm) ?_
                            refine e_iload_n dX1_writeKey_85 rfl rfl ?_
                            refine e_dup2 dX1_writeKey_86 rfl rfl ?_
                            refine e_iadE _ dX1_writeKey_87 ⟨by decide, by decide⟩ rfl rfl (by simp only [lenK]; omega) (k_wt hK (by first | omega | (simp (disch := omega) only [upN_n, upN_s]; omega))) ?_
                            rw [nt_fr (by omega)]
                            refine e_iconst (v := nI 2) dX1_writeKey_88 rfl ?_
                            first | ((with_reducible refine mk_nn ?_); refine n_iadd dX1_writeKey_89 ?_) | refine e_iadd dX1_writeKey_89 ?_
                            refine e_sw dX1_writeKey_90 bd hK (by first | omega | (simp (disch := omega) only [upN_n, upN_s]; omega)) hF (fun ai hF hK => ?_)
                            have bd := Bd_K bd hK (by omega)
                            refine e_aload_n dX1_writeKey_91 rfl rfl ?_
                            refine e_getR dX1_writeKey_92 fl_X1_9 rfl (ca_w cm) ?_
                            refine e_aload_n dX1_writeKey_95 rfl rfl ?_
                            refine e_getR dX1_writeKey_96 fl_X1_9 rfl (ca_w cm) ?_
                            refine e_getR dX1_writeKey_99 fl_X1_29 rfl (cm_map cm) ?_
                            refine e_getR dX1_writeKey_102 fl_X1_67 rfl (by first | exact cm_tow cm | exact cm_ctow cm (by omega) | assumption) ?_
                            refine e_iload dX1_writeKey_105 rfl ?_
                            refine e_iadE _ dX1_writeKey_107 ⟨by decide, by decide⟩ rfl rfl (by simp only [lenK]; omega) (k_ow hK (by rw [upN_n (by omega), nt_fr (by omega)]; omega)) ?_
                            rw [upN_n (by omega), nt_fr (by omega)]
                            refine e_iload_n dX1_writeKey_108 rfl rfl ?_
                            refine e_iload_n dX1_writeKey_109 rfl rfl ?_
                            refine ky_V3 (M' := mX9_putValue) dX1_writeKey_110 ml_X1_75 ok_X9_putValue (by decide) rfl im_X9_putValue se_X9_putValue (ct_X9_putValue cm bd hK (by omega) (by omega)) (Nat.le_of_ble_eq_true rfl) (by decide) (Nat.le_of_ble_eq_true rfl) (fun fi ai hG hK => ?_)
                            have hF := FR1_tr hF hG
                            rw [ha] at hK
                            have hK := K_eq hK e3
                            have iv := ivW
                            have bd := Bd_iv ivW
                            refine e_aload_n dX1_writeKey_113 rfl rfl ?_
                            refine e_getR dX1_writeKey_114 fl_X1_9 rfl (ca_w cm) ?_
                            refine e_aload_n dX1_writeKey_117 rfl rfl ?_
                            refine e_getR dX1_writeKey_118 fl_X1_9 rfl (ca_w cm) ?_
                            refine e_getR dX1_writeKey_121 fl_X1_29 rfl (cm_map cm) ?_
                            refine e_getR dX1_writeKey_124 fl_X1_79 rfl (by first | exact cm_tlo cm | exact cm_ctlo cm (by omega) | assumption) ?_
                            refine e_iload dX1_writeKey_127 rfl ?_
                            refine e_iadE _ dX1_writeKey_129 ⟨by decide, by decide⟩ rfl rfl (by simp only [lenK]; omega) (k_lo hK (by rw [g _ (by omega)]; omega)) ?_
                            rw [g _ (by omega)]
                            refine x_V1 (M' := mX9_moveAt) dX1_writeKey_130 ml_X1_82 ok_X9_moveAt (by decide) rfl im_X9_moveAt se_X9_moveAt (ct_X9_moveAt cm iv hK (by omega)) (Nat.le_of_ble_eq_true rfl) (by decide) (Nat.le_of_ble_eq_true rfl) ?_
                            rw [gm, hmv, oI_s]
                            refine e_istore dX1_writeKey_133 (Nat.le_of_ble_eq_true rfl) rfl ?_
                            refine e_iload dX1_writeKey_135 rfl ?_
                            refine e_iconst (v := -1) dX1_writeKey_137 rfl ?_
                            first | ((with_reducible refine mk_mo ?_); refine p_icmp_eq (tgt := 155) dX1_writeKey_138 (by decide) (fun h138 => ?_) (fun h138 => ?_)) | ((with_reducible refine mk_ms ?_); refine s_icmp_eq (tgt := 155) dX1_writeKey_138 (by decide) (by omega) (fun h138 => ?_) (fun h138 => ?_)) | ((with_reducible refine mk_mn ?_); refine q_icmp_eq (tgt := 155) dX1_writeKey_138 (by decide) (by omega) (fun h138 => ?_) (fun h138 => ?_)) | ((with_reducible refine mk_nn ?_); refine n_icmp_eq (tgt := 155) dX1_writeKey_138 (by decide) (by omega) (by omega) (fun h138 => ?_) (fun h138 => ?_)) | refine e_icmp_eq (tgt := 155) dX1_writeKey_138 (by decide) (fun h138 => ?_) (fun h138 => ?_)
                            · try first | contradiction | omega
                              all_goals
                                refine e_iload dX1_writeKey_155 rfl ?_
                                refine e_ret (some _) rfl (r_int dX1_writeKey_157 rfl) ?_
                                first | (exact kq (by rw [ha]) hF (K_eq hK (x2 m hmv))) | (exfalso; omega)
                            · try first | contradiction | omega
                              all_goals
                                refine e_aload_n dX1_writeKey_141 rfl rfl ?_
                                refine e_getR dX1_writeKey_142 fl_X1_9 rfl (ca_w cm) ?_
                                refine e_getR dX1_writeKey_145 fl_X1_85 rfl (cm_mvs cm) ?_
                                refine e_iload dX1_writeKey_148 rfl ?_
                                refine e_aald _ dX1_writeKey_150 ⟨by decide, by decide⟩ rfl rfl (by simp only [lenK]; omega) (cm_mo cm (by omega)) ?_
                                refine e_iload_n dX1_writeKey_151 rfl rfl ?_
                                refine ky_V1 (M' := mX4_noteWrite) dX1_writeKey_152 ml_X1_89 ok_X4_noteWrite (by decide) rfl im_X4_noteWrite se_X4_noteWrite (ct_X4_noteWrite cm iv hK (by omega) (by omega)) (Nat.le_of_ble_eq_true rfl) (by decide) (Nat.le_of_ble_eq_true rfl) (fun fi ai hG hK => ?_)
                                have hF := FR1_tr hF hG
                                refine e_iload dX1_writeKey_155 rfl ?_
                                refine e_ret (some _) rfl (r_int dX1_writeKey_157 rfl) ?_
                                first | (exact kq (by rw [ha]) hF (K_eq hK (x2 m hmv))) | (exfalso; omega)
                    · try first | contradiction | omega
                      all_goals
                        refine e_iconst (v := -1) dX1_writeKey_25 rfl ?_
                        refine e_ret (some _) rfl (r_int dX1_writeKey_26 rfl) ?_
                        first | (exact kq (by rw [ha]) hF (K_eq hK (x2 m hmv))) | (exfalso; omega)
    ·
      refine e_iload_n dX1_writeKey_0 rfl rfl ?_
      refine x_N1 (M' := mX10_isClient) dX1_writeKey_1 (List.mem_of_getElem? (i := 6) rfl) ok_X10_isClient sc_X10_isClient (ct_X10_isClient _) (Nat.le_of_ble_eq_true rfl) (by decide) (Nat.le_of_ble_eq_true rfl) ?_
      rw [hx]
      first | ((with_reducible refine mk_b ?_); refine b_if_eq (tgt := 25) dX1_writeKey_4 (by decide) (fun h4 => ?_) (fun h4 => ?_)) | ((with_reducible refine mk_ll ?_); refine m_if_eq (tgt := 25) dX1_writeKey_4 (by decide) (by omega) (by omega) (fun h4 => ?_) (fun h4 => ?_)) | ((with_reducible refine mk_lc ?_); refine l_if_eq (tgt := 25) dX1_writeKey_4 (by decide) (fun h4 => ?_) (fun h4 => ?_)) | ((with_reducible refine mk_n ?_); refine n_if_eq (tgt := 25) dX1_writeKey_4 (by decide) (by omega) (fun h4 => ?_) (fun h4 => ?_)) | refine e_if_eq (tgt := 25) dX1_writeKey_4 (by decide) (fun h4 => ?_) (fun h4 => ?_)
      · try first | contradiction | omega | (simp only [decide_eq_true_eq, decide_eq_false_iff_not] at h4; omega)
        all_goals
          refine e_iconst (v := -1) dX1_writeKey_25 rfl ?_
          refine e_ret (some _) rfl (r_int dX1_writeKey_26 rfl) ?_
          refine kq rfl hF (K_eq hK ?_)
          exact nt_ask ha
      · try first | contradiction | omega | (simp only [decide_eq_true_eq, decide_eq_false_iff_not] at h4; omega)
        all_goals
          refine e_iload_n dX1_writeKey_7 rfl rfl ?_
          refine x_N1 (M' := mX10_isKey) dX1_writeKey_8 (List.mem_of_getElem? (i := 7) rfl) ok_X10_isKey sc_X10_isKey (ct_X10_isKey _) (Nat.le_of_ble_eq_true rfl) (by decide) (Nat.le_of_ble_eq_true rfl) ?_
          rw [hy]
          first | ((with_reducible refine mk_b ?_); refine b_if_eq (tgt := 25) dX1_writeKey_11 (by decide) (fun h11 => ?_) (fun h11 => ?_)) | ((with_reducible refine mk_ll ?_); refine m_if_eq (tgt := 25) dX1_writeKey_11 (by decide) (by omega) (by omega) (fun h11 => ?_) (fun h11 => ?_)) | ((with_reducible refine mk_lc ?_); refine l_if_eq (tgt := 25) dX1_writeKey_11 (by decide) (fun h11 => ?_) (fun h11 => ?_)) | ((with_reducible refine mk_n ?_); refine n_if_eq (tgt := 25) dX1_writeKey_11 (by decide) (by omega) (fun h11 => ?_) (fun h11 => ?_)) | refine e_if_eq (tgt := 25) dX1_writeKey_11 (by decide) (fun h11 => ?_) (fun h11 => ?_)
          · try first | contradiction | omega | (simp only [decide_eq_true_eq, decide_eq_false_iff_not] at h11; omega)
            all_goals
              refine e_iconst (v := -1) dX1_writeKey_25 rfl ?_
              refine e_ret (some _) rfl (r_int dX1_writeKey_26 rfl) ?_
              refine kq rfl hF (K_eq hK ?_)
              exact nt_ask ha
          · try first | contradiction | omega | (simp only [decide_eq_true_eq, decide_eq_false_iff_not] at h11; omega)
            all_goals
              refine e_iload_n dX1_writeKey_14 rfl rfl ?_
              refine e_iconst (v := nI 1) dX1_writeKey_15 rfl ?_
              first | ((with_reducible refine mk_nn ?_); refine n_icmp_lt (tgt := 25) dX1_writeKey_16 (by decide) (by omega) (by omega) (fun h16 => ?_) (fun h16 => ?_)) | refine e_icmp_lt (tgt := 25) dX1_writeKey_16 (by decide) (fun h16 => ?_) (fun h16 => ?_)
              · try first | contradiction | omega
                all_goals
                  refine e_iconst (v := -1) dX1_writeKey_25 rfl ?_
                  refine e_ret (some _) rfl (r_int dX1_writeKey_26 rfl) ?_
                  refine kq rfl hF (K_eq hK ?_)
                  exact nt_ask ha
              · try first | contradiction | omega
                all_goals
                  refine e_iload_n dX1_writeKey_19 rfl rfl ?_
                  refine e_ldc dX1_writeKey_20 co_X1_74 ?_
                  first | ((with_reducible refine mk_nn ?_); refine n_icmp_le (tgt := 27) dX1_writeKey_22 (by decide) (by omega) (by omega) (fun h22 => ?_) (fun h22 => ?_)) | refine e_icmp_le (tgt := 27) dX1_writeKey_22 (by decide) (fun h22 => ?_) (fun h22 => ?_)
                  · try first | contradiction | omega
                    all_goals
                      refine e_aload_n dX1_writeKey_27 rfl rfl ?_
                      refine e_getR dX1_writeKey_28 fl_X1_9 rfl (ca_w cm) ?_
                      refine e_getR dX1_writeKey_31 fl_X1_29 rfl (cm_map cm) ?_
                      refine e_iload_n dX1_writeKey_34 rfl rfl ?_
                      refine x_V1 (M' := mX8_indexOf) dX1_writeKey_35 ml_X1_46 ok_X8_indexOf (by decide) rfl im_X8_indexOf se_X8_indexOf (by first | exact ct_X8_indexOf cm iv hK (by omega) | exact ct_cX8_indexOf cm iv hK (by omega) (by omega) (by omega)) (Nat.le_of_ble_eq_true rfl) (by decide) (Nat.le_of_ble_eq_true rfl) ?_
                      refine e_istore dX1_writeKey_38 (Nat.le_of_ble_eq_true rfl) rfl ?_
                      refine e_aload_n dX1_writeKey_40 rfl rfl ?_
                      refine e_iload_n dX1_writeKey_41 rfl rfl ?_
                      refine e_iload_n dX1_writeKey_42 rfl rfl ?_
                      refine e_iconst (v := nI 1) dX1_writeKey_43 rfl ?_
                      refine x_V3 (M' := mX1_answerTo) dX1_writeKey_44 ml_X1_50 ok_X1_answerTo (by decide) rfl im_X1_answerTo se_X1_answerTo (ct_ans1 cm iv hK (by omega) (by omega) (v := v) (by omega)) (Nat.le_of_ble_eq_true rfl) (by decide) (Nat.le_of_ble_eq_true rfl) ?_
                      refine e_istore dX1_writeKey_47 (Nat.le_of_ble_eq_true rfl) rfl ?_
                      refine e_aload_n dX1_writeKey_49 rfl rfl ?_
                      refine e_getR dX1_writeKey_50 fl_X1_15 rfl (ca_l cm) ?_
                      refine e_iload_n dX1_writeKey_53 rfl rfl ?_
                      refine e_iload dX1_writeKey_54 rfl ?_
                      refine e_iconst (v := nI 1) dX1_writeKey_56 rfl ?_
                      refine e_aload_n dX1_writeKey_57 rfl rfl ?_
                      refine e_getR dX1_writeKey_58 fl_X1_9 rfl (ca_w cm) ?_
                      refine e_getR dX1_writeKey_61 fl_X1_29 rfl (cm_map cm) ?_
                      refine e_getR dX1_writeKey_64 fl_X1_54 rfl (by first | exact cm_tep cm | exact cm_ctep cm (by omega) | assumption) ?_
                      refine e_iload dX1_writeKey_67 rfl ?_
                      refine e_iadE _ dX1_writeKey_69 ⟨by decide, by decide⟩ rfl rfl (by simp only [lenK]; omega) (by first | exact k_ep hK (by first | omega | (simp (disch := omega) only [upN_n, upN_s]; omega)) | exact k_cep hK (by omega) (by first | omega | (simp (disch := omega) only [upN_n, upN_s]; omega)) | assumption) ?_
                      refine ky_V4 (M' := mX3_noteAnswer) dX1_writeKey_70 ml_X1_58 ok_X3_noteAnswer (by decide) rfl im_X3_noteAnswer se_X3_noteAnswer (ct_X3_noteAnswer cm bd hK (by omega) (by omega) (by omega)) (Nat.le_of_ble_eq_true rfl) (by decide) (Nat.le_of_ble_eq_true rfl) (fun fi ai hG hK => ?_)
                      have hF := FR1_tr hF hG
                      skip
                      refine e_iload dX1_writeKey_73 rfl ?_
                      first | ((with_reducible refine mk_b ?_); refine b_if_ne (tgt := 155) dX1_writeKey_75 (by decide) (fun h75 => ?_) (fun h75 => ?_)) | ((with_reducible refine mk_ll ?_); refine m_if_ne (tgt := 155) dX1_writeKey_75 (by decide) (by omega) (by omega) (fun h75 => ?_) (fun h75 => ?_)) | ((with_reducible refine mk_lc ?_); refine l_if_ne (tgt := 155) dX1_writeKey_75 (by decide) (fun h75 => ?_) (fun h75 => ?_)) | ((with_reducible refine mk_n ?_); refine n_if_ne (tgt := 155) dX1_writeKey_75 (by decide) (by omega) (fun h75 => ?_) (fun h75 => ?_)) | refine e_if_ne (tgt := 155) dX1_writeKey_75 (by decide) (fun h75 => ?_) (fun h75 => ?_)
                      · try first | contradiction | omega | (simp only [decide_eq_true_eq, decide_eq_false_iff_not] at h75; omega)
                        all_goals
                          refine e_iload dX1_writeKey_155 rfl ?_
                          refine e_ret (some _) rfl (r_int dX1_writeKey_157 rfl) ?_
                          refine kq rfl hF (K_eq hK ?_)
                          exact nt_ask ha
                      · try first | contradiction | omega | (simp only [decide_eq_true_eq, decide_eq_false_iff_not] at h75; omega)
                        all_goals
                          omega
                  · try first | contradiction | omega
                    all_goals
                      refine e_iconst (v := -1) dX1_writeKey_25 rfl ?_
                      refine e_ret (some _) rfl (r_int dX1_writeKey_26 rfl) ?_
                      refine kq rfl hF (K_eq hK ?_)
                      exact nt_ask ha
