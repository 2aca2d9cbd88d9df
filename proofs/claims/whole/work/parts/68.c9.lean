theorem rs_ext {f g : Nat → Nat} {a : Nat} : ∀ n, (∀ j, j < n → f (a + j) = g (a + j)) → rs f a n = rs g a n
  | 0, _ => rfl
  | n + 1, h => by rw [rs_s, rs_s, rs_ext n (fun j hj => h j (by omega)), h n (by omega)]
theorem rs_one {f g : Nat → Nat} {i : Nat} : ∀ n, i < n → (∀ j, j < n → j ≠ i → g j = f j) → rs g 0 n + f i = rs f 0 n + g i
  | 0, h, _ => by omega
  | n + 1, h, hj => by
    rw [rs_s, rs_s, Nat.zero_add]
    by_cases e : i = n
    · subst e
      rw [rs_ext (f := g) (g := f) i (fun j h2 => by rw [Nat.zero_add]; exact hj j (by omega) (by omega))]
      omega
    · have := rs_one n (by omega) (fun j h2 h3 => hj j (by omega) h3)
      rw [hj n (by omega) (fun q => e q.symm)]
      omega
theorem rs_ins {f g : Nat → Nat} {i : Nat} : ∀ n, i < n → (∀ j, j < i → g j = f j) → g i + g (i + 1) = f i → (∀ j, i < j → j < n → g (j + 1) = f j) → rs g 0 (n + 1) = rs f 0 n
  | 0, h, _, _, _ => by omega
  | n + 1, h, h1, h2, h3 => by
    by_cases e : i = n
    · subst e
      rw [rs_s, rs_s, rs_s, Nat.zero_add, Nat.zero_add, rs_ext (f := g) (g := f) i (fun j hj => by rw [Nat.zero_add]; exact h1 j hj)]
      omega
    · rw [rs_s, rs_ins n (by omega) h1 h2 (fun j a b => h3 j a (by omega)), rs_s, Nat.zero_add, Nat.zero_add, h3 n (by omega) (by omega)]
theorem wt_own {w : Nat → Nat} (iv : Inv w) {i s j : Nat} (hi : i < w 1) (hj : j < w 1) : wtF (upN w (42 + i) s) j = wtF w j := by
  have h1 := iv_n iv
  have f : ∀ q, q ≠ 42 + i → upN w (42 + i) s q = w q := fun q h => upN_n h
  have en : enF (upN w (42 + i) s) j = enF w j := by
    unfold enF
    rw [f 1 (by omega)]
    split
    · exact f _ (by omega)
    · rfl
  unfold wtF
  rw [en, f (10 + j) (by omega)]
  exact rs_ext _ (fun k hk => f _ (by omega))
theorem ld_own {w : Nat → Nat} (iv : Inv w) {i s t : Nat} (hi : i < w 1) : ldF (upN w (42 + i) s) t + (if w (42 + i) = t then wtF w i else 0) = ldF w t + (if s = t then wtF w i else 0) := by
  have h1 := iv_n iv
  have f : ∀ q, q ≠ 42 + i → upN w (42 + i) s q = w q := fun q h => upN_n h
  unfold ldF
  rw [f 1 (by omega)]
  have := rs_one (f := fun i => if w (42 + i) = t then wtF w i else 0) (g := fun j => if upN w (42 + i) s (42 + j) = t then wtF (upN w (42 + i) s) j else 0) (i := i) (w 1) hi (fun j hj hne => by
    show (if upN w (42 + i) s (42 + j) = t then wtF (upN w (42 + i) s) j else 0) = if w (42 + j) = t then wtF w j else 0
    rw [f _ (by omega), wt_own iv hi hj])
  rw [this]
  show _ + (if upN w (42 + i) s (42 + i) = t then wtF (upN w (42 + i) s) i else 0) = _
  rw [upN_s, wt_own iv hi hi]
theorem wt_ld {w : Nat → Nat} {i : Nat} (hi : i < w 1) : wtF w i ≤ ldF w (w (42 + i)) := by
  unfold ldF
  have : ∀ n, i < n → wtF w i ≤ rs (fun j => if w (42 + j) = w (42 + i) then wtF w j else 0) 0 n := by
    intro n
    induction n with
    | zero => intro h; omega
    | succ n ih =>
      intro h
      rw [rs_s, Nat.zero_add]
      by_cases e : i = n
      · subst e; rw [if_pos rfl]; omega
      · have := ih (by omega); omega
  exact this _ hi
theorem mv_own {w : Nat → Nat} (iv : Inv w) {i s l : Nat} (hi : i < w 1) : mvL (upN w (42 + i) s) l = mvL w l := by
  have h1 := iv_n iv
  exact mvL_fr (upN_n (by omega)) (fun m hm => ⟨upN_n (by omega), upN_n (by omega)⟩) l
theorem ct_X6_handTo {fi : FI} {fr : FR} {ai : FI} {ar : FR} {N : Nat} {u lg w : Nat → Nat} {E : Nat} (cm : CM fr ar) (iu : Inv u) (iv : Inv w) (hK : K fi ai u lg E) (hP : PL fi ai w) {i s : Nat} (hi : i < w 1) (hs : s < 6) : CP mX6_handTo 1 0 0 [.ref (rf 6 65), .int (nI i), .int (nI s)] fi fr ai ar N (kQ (none) fi fr ai ar N (fun fi ai => K fi ai u lg E ∧ PL fi ai (upN w (42 + i) s))) := by
  have h1 := iv_n iv
  have h3 := iv_mm iu
  have bd := Bd_iv iu
  have hF : FR1 fi ai fi ai := FR1_rf
  have hle := wt_ld hi
  have ho := iv_own iv hi
  have hlm := ldF_le2 iv (w (42 + i))
  have hls := ldF_le2 iv s
  change EV mX6_handTo 1 0 0 0 [some (.ref (rf 6 65)), some (.int (nI i)), some (.int (nI s)), none] [] fi fr ai ar N (kQ (none) fi fr ai ar N (fun fi ai => K fi ai u lg E ∧ PL fi ai (upN w (42 + i) s)))
  refine e_aload_n dX6_handTo_0 rfl rfl ?_
  refine e_iload_n dX6_handTo_1 rfl rfl ?_
  refine x_V1 (M' := mX6_weightOf) dX6_handTo_2 ml_X6_60 ok_X6_weightOf (by decide) rfl im_X6_weightOf se_X6_weightOf (ct_X6_weightOf cm iv hP (by omega)) (Nat.le_of_ble_eq_true rfl) (by decide) (Nat.le_of_ble_eq_true rfl) ?_
  refine e_istore_n dX6_handTo_5 rfl (Nat.le_of_ble_eq_true rfl) rfl ?_
  refine e_aload_n dX6_handTo_6 rfl rfl ?_
  refine e_getR dX6_handTo_7 fl_X6_25 rfl (cp_load cm) ?_
  refine e_aload_n dX6_handTo_10 rfl rfl ?_
  refine e_getR dX6_handTo_11 fl_X6_18 rfl (cp_own cm) ?_
  refine e_iload_n dX6_handTo_14 rfl rfl ?_
  refine e_iadE _ dX6_handTo_15 ⟨by decide, by decide⟩ rfl rfl (by simp only [lenK]; omega) (pl_ow hP (by omega)) ?_
  refine e_dup2 dX6_handTo_16 rfl rfl ?_
  refine e_iadE _ dX6_handTo_17 ⟨by decide, by decide⟩ rfl rfl (by simp only [lenK]; omega) (pl_ld hP (by omega)) ?_
  refine e_iload_n dX6_handTo_18 rfl rfl ?_
  first | ((with_reducible refine mk_nn ?_); refine n_isub dX6_handTo_19 (by omega) ?_) | refine e_isub dX6_handTo_19 ?_
  refine e_sg _ dX6_handTo_20 ⟨by decide, by decide⟩ rfl rfl (by simp only [lenK]; omega)  (fun ai20 g20 o20 => ?_)
  have hK := kp_s bd hK o20 (by decide) (by omega) (fun hq => by omega)
  have hF := fr_s hF o20 (by decide) (by omega)
  have hr : ai20 (rf 23 70) s = nI (if s = w (42 + i) then ldF w s - wtF w i else ldF w s) := by
    by_cases e : s = w (42 + i)
    · rw [if_pos e, e]; exact g20
    · rw [if_neg e, o20 _ _ (fun q => e q.2)]; exact pl_ld hP hs
  refine e_aload_n dX6_handTo_21 rfl rfl ?_
  refine e_getR dX6_handTo_22 fl_X6_25 rfl (cp_load cm) ?_
  refine e_iload_n dX6_handTo_25 rfl rfl ?_
  refine e_dup2 dX6_handTo_26 rfl rfl ?_
  refine e_iadE _ dX6_handTo_27 ⟨by decide, by decide⟩ rfl rfl (by simp only [lenK]; omega) hr ?_
  refine e_iload_n dX6_handTo_28 rfl rfl ?_
  first | ((with_reducible refine mk_nn ?_); refine n_iadd dX6_handTo_29 ?_) | refine e_iadd dX6_handTo_29 ?_
  refine e_sg _ dX6_handTo_30 ⟨by decide, by decide⟩ rfl rfl (by simp only [lenK]; omega)  (fun ai30 g30 o30 => ?_)
  have hK := kp_s bd hK o30 (by decide) (by omega) (fun hq => by omega)
  have hF := fr_s hF o30 (by decide) (by omega)
  refine e_aload_n dX6_handTo_31 rfl rfl ?_
  refine e_getR dX6_handTo_32 fl_X6_18 rfl (cp_own cm) ?_
  refine e_iload_n dX6_handTo_35 rfl rfl ?_
  refine e_iload_n dX6_handTo_36 rfl rfl ?_
  refine e_sg _ dX6_handTo_37 ⟨by decide, by decide⟩ rfl rfl (by simp only [lenK]; omega)  (fun ai37 g37 o37 => ?_)
  have hK := kp_s bd hK o37 (by decide) (by omega) (fun hq => by omega)
  have hF := fr_s hF o37 (by decide) (by omega)
  refine e_ret none rfl (r_void dX6_handTo_38 rfl) ?_
  refine kq rfl hF ⟨hK, ?_⟩
  have f : ∀ q, q ≠ 42 + i → upN w (42 + i) s q = w q := fun q h => upN_n h
  have e1 := f 1 (by omega)
  refine ⟨fun k hk => ?_, fun j hj => ?_, ?_, fun t ht => ?_, ?_, ?_⟩
  · rw [o37 _ _ (fun e => absurd e.1 (rf_ne (by decide) (by decide) (by decide))), o30 _ _ (fun e => absurd e.1 (rf_ne (by decide) (by decide) (by decide))), o20 _ _ (fun e => absurd e.1 (rf_ne (by decide) (by decide) (by decide))), show (fun k => upN w (42 + i) s (106 + k)) = fun k => w (106 + k) from funext fun k => f _ (by omega)]; exact pl_sum hP hk
  · rw [e1] at hj
    rw [f (10 + j) (by omega), mv_own iv hi]
    refine ⟨?_, ?_, ?_⟩
    · rw [o37 _ _ (fun e => absurd e.1 (rf_ne (by decide) (by decide) (by decide))), o30 _ _ (fun e => absurd e.1 (rf_ne (by decide) (by decide) (by decide))), o20 _ _ (fun e => absurd e.1 (rf_ne (by decide) (by decide) (by decide)))]; exact pl_lo hP hj
    · by_cases e : j = i
      · rw [e, upN_s]; exact g37
      · rw [f _ (by omega), o37 _ _ (fun q => e q.2), o30 _ _ (fun e => absurd e.1 (rf_ne (by decide) (by decide) (by decide))), o20 _ _ (fun e => absurd e.1 (rf_ne (by decide) (by decide) (by decide)))]; exact pl_ow hP hj
    · rw [o37 _ _ (fun e => absurd e.1 (rf_ne (by decide) (by decide) (by decide))), o30 _ _ (fun e => absurd e.1 (rf_ne (by decide) (by decide) (by decide))), o20 _ _ (fun e => absurd e.1 (rf_ne (by decide) (by decide) (by decide)))]; exact pl_bu hP hj
  · rw [e1, o37 _ _ (fun e => absurd e.1 (rf_ne (by decide) (by decide) (by decide))), o30 _ _ (fun e => absurd e.1 (rf_ne (by decide) (by decide) (by decide))), o20 _ _ (fun e => absurd e.1 (rf_ne (by decide) (by decide) (by decide)))]; exact hP.2.2.1
  · have hl := ld_own iv (s := s) (t := t) hi
    rw [o37 _ _ (fun e => absurd e.1 (rf_ne (by decide) (by decide) (by decide)))]
    by_cases e : t = s
    · rw [e, g30]
      rw [e, if_pos rfl] at hl
      congr 1
      by_cases e2 : s = w (42 + i)
      · rw [if_pos e2]; rw [if_pos e2.symm] at hl; rw [e2] at hl ⊢; omega
      · rw [if_neg e2]; rw [if_neg (fun q => e2 q.symm)] at hl; omega
    · rw [o30 _ _ (fun q => e q.2)]
      rw [if_neg (show ¬ s = t from fun q => e q.symm)] at hl
      by_cases e2 : t = w (42 + i)
      · rw [e2, g20]; rw [e2, if_pos rfl] at hl; congr 1; omega
      · rw [o20 _ _ (fun q => e2 q.2)]; rw [if_neg (show ¬ w (42 + i) = t from fun q => e2 q.symm)] at hl; rw [show ldF (upN w (42 + i) s) t = ldF w t by omega]; exact pl_ld hP ht
  · rw [e1]; exact pl_n hP
  · rw [ubF_fr (fun s2 hs2 => f _ (by omega)) 6 (Nat.le_refl 6)]; exact pl_up hP
theorem ld_spl {w : Nat → Nat} (iv : Inv w) {i key s : Nat} (hi : i < w 1) (hn : w 1 ≤ 31) (hk : w (10 + i) < key ∧ key < enF w i) : ldF (splW w i key) s = ldF w s := by
  have h1 := iv_n iv
  obtain ⟨v0, v1, vl, vo, ve, vf⟩ := spl_v (key := key) hi hn
  have hw : (fun k => splW w i key (106 + k)) = fun k => w (106 + k) := funext fun k => vf _ (by omega)
  have en : ∀ j, j ≤ w 1 → enF (splW w i key) j = if j < i then enF w j else if j = i then key else enF w (j - 1) := fun j hj => by
    unfold enF
    rw [v1]
    by_cases e : j < i
    · rw [if_pos (by omega), if_pos e, if_pos (by omega), Nat.add_assoc, vl (j + 1) (by omega), if_pos (by omega)]
    · rw [if_neg e]
      by_cases e2 : j = i
      · subst e2; rw [if_pos (by omega), if_pos rfl, Nat.add_assoc, vl (j + 1) (by omega), if_neg (by omega), if_pos rfl]
      · rw [if_neg e2]
        by_cases e3 : j < w 1
        · rw [if_pos (by omega), if_pos (by omega), Nat.add_assoc, vl (j + 1) (by omega), if_neg (by omega), if_neg (by omega)]
          congr 1
          omega
        · rw [if_neg (by omega), if_neg (by omega)]
  unfold ldF
  rw [v1]
  refine rs_ins (i := i) (w 1) hi (fun j hj => ?_) ?_ (fun j a b => ?_)
  · show (if splW w i key (42 + j) = s then wtF (splW w i key) j else 0) = if w (42 + j) = s then wtF w j else 0
    unfold wtF
    have a1 : enF (splW w i key) j = enF w j := by rw [en j (by omega), if_pos hj]
    have a2 : splW w i key (10 + j) = w (10 + j) := by rw [vl j (by omega), if_pos (by omega)]
    have a3 : splW w i key (42 + j) = w (42 + j) := by rw [vo j (by omega), if_pos (by omega)]
    rw [hw, a1, a2, a3]
  · show (if splW w i key (42 + i) = s then wtF (splW w i key) i else 0) + (if splW w i key (42 + (i + 1)) = s then wtF (splW w i key) (i + 1) else 0) = if w (42 + i) = s then wtF w i else 0
    unfold wtF
    have a1 : enF (splW w i key) i = key := by rw [en i (by omega), if_neg (by omega), if_pos rfl]
    have a2 : splW w i key (10 + i) = w (10 + i) := by rw [vl i (by omega), if_pos (by omega)]
    have a3 : splW w i key (42 + i) = w (42 + i) := by rw [vo i (by omega), if_pos (by omega)]
    have b1 : enF (splW w i key) (i + 1) = enF w i := by rw [en (i + 1) (by omega), if_neg (by omega), if_neg (by omega), Nat.add_sub_cancel]
    have b2 : splW w i key (10 + (i + 1)) = key := by rw [vl (i + 1) (by omega), if_neg (by omega), if_pos rfl]
    have b3 : splW w i key (42 + (i + 1)) = w (42 + i) := by rw [vo (i + 1) (by omega), if_neg (by omega), if_pos rfl]
    rw [hw, a1, a2, a3, b1, b2, b3]
    by_cases e : w (42 + i) = s
    · rw [if_pos e, if_pos e, if_pos e]
      have := rs_add (fun k => w (106 + k)) (w (10 + i)) (key - w (10 + i)) (enF w i - key)
      rw [show key - w (10 + i) + (enF w i - key) = enF w i - w (10 + i) by omega, show w (10 + i) + (key - w (10 + i)) = key by omega] at this
      omega
    · rw [if_neg e, if_neg e, if_neg e]
  · show (if splW w i key (42 + (j + 1)) = s then wtF (splW w i key) (j + 1) else 0) = if w (42 + j) = s then wtF w j else 0
    unfold wtF
    have a1 : enF (splW w i key) (j + 1) = enF w j := by rw [en (j + 1) (by omega), if_neg (by omega), if_neg (by omega), Nat.add_sub_cancel]
    have a2 : splW w i key (10 + (j + 1)) = w (10 + j) := by rw [vl (j + 1) (by omega), if_neg (by omega), if_neg (by omega), Nat.add_sub_cancel]
    have a3 : splW w i key (42 + (j + 1)) = w (42 + j) := by rw [vo (j + 1) (by omega), if_neg (by omega), if_neg (by omega), Nat.add_sub_cancel]
    rw [hw, a1, a2, a3]
theorem mv_spl {w : Nat → Nat} {i key l : Nat} (hi : i < w 1) (hn : w 1 ≤ 31) : mvL (splW w i key) l = mvL w l := by
  obtain ⟨v0, v1, vl, vo, ve, vf⟩ := spl_v (key := key) hi hn
  exact mvL_fr (vf 3 (by omega)) (fun m hm => ⟨vf _ (by omega), vf _ (by omega)⟩) l
theorem en_lt {w : Nat → Nat} (iv : Inv w) {i j : Nat} (hj : j < w 1) (hij : i < j) : enF w i ≤ w (10 + j) := by
  unfold enF
  rw [if_pos (by omega), Nat.add_assoc]
  by_cases e : i + 1 = j
  · rw [e]; exact Nat.le_refl _
  · have := lo_lt iv (i := j) (j := i + 1) hj (by omega); omega
/-- no move that goes on begins inside of a span -/
theorem mv_in {w : Nat → Nat} (iv : Inv w) (i2 : Inv2 w) {i key : Nat} (hi : i < w 1) (hk : w (10 + i) < key ∧ key < enF w i) : mvL w key = none := by
  refine fO_no (fun m hm => ?_)
  cases hg : goB w m with
  | false => rfl
  | true =>
    obtain ⟨j, hj, a, b⟩ := (i2.2.1 m hm).1 hg
    rw [Bool.true_and]
    refine decide_eq_false (fun e => ?_)
    rw [← a] at e
    have h1 := enF_le iv hi
    have h2 := enF_le iv hj
    rcases Nat.lt_trichotomy j i with h | h | h
    · have := lo_lt iv hi h; omega
    · subst h; omega
    · have := en_lt iv hj h; omega
theorem ct_X6_cut {fi : FI} {fr : FR} {ai : FI} {ar : FR} {N : Nat} {u lg w : Nat → Nat} {E : Nat} (cm : CM fr ar) (iu : Inv u) (iv : Inv w) (hK : K fi ai u lg E) (hP : PL fi ai w) (i2 : Inv2 w) {i key : Nat} (hi : i < w 1) (hn : w 1 ≤ 31) (hk : w (10 + i) < key ∧ key < enF w i) : CP mX6_cut 0 0 0 [.ref (rf 6 65), .int (nI i), .int (nI key)] fi fr ai ar N (kQ (none) fi fr ai ar N (fun fi ai => K fi ai u lg E ∧ PL fi ai (splW w i key))) := by
  have h1 := iv_n iv
  have h3 := iv_mm iu
  have bd := Bd_iv iu
  have hF : FR1 fi ai fi ai := FR1_rf
  have hmk := mv_in iv i2 hi hk
  have he := enF_le iv hi
  obtain ⟨v0, v1, vl, vo, ve, vf⟩ := spl_v (key := key) hi hn
  change EV mX6_cut 0 0 0 0 [some (.ref (rf 6 65)), some (.int (nI i)), some (.int (nI key)), none] [] fi fr ai ar N (kQ (none) fi fr ai ar N (fun fi ai => K fi ai u lg E ∧ PL fi ai (splW w i key)))
  have ex2 : ∀ ai2 x, FR1 fi ai fi ai2 → K fi ai2 u lg E → (∀ a q, a ≠ rf 26 67 → a ≠ rf 16 68 → a ≠ rf 27 69 → ai2 a q = ai a q) → (∀ q, q ≤ i → ai2 (rf 26 67) q = ai (rf 26 67) q) → (∀ q, i < q → q ≤ w 1 → ai2 (rf 26 67) (q + 1) = ai (rf 26 67) q) → (∀ q, q < i + 1 → ai2 (rf 16 68) q = ai (rf 16 68) q ∧ ai2 (rf 27 69) q = ai (rf 27 69) q) → (∀ q, i + 1 < q → q ≤ w 1 → ai2 (rf 16 68) q = ai (rf 16 68) (q - 1) ∧ ai2 (rf 27 69) q = ai (rf 27 69) (q - 1)) → EV mX6_cut 0 0 0 76 [some (.ref (rf 6 65)), some (.int (nI i)), some (.int (nI key)), x] [] fi fr ai2 ar N (kQ (none) fi fr ai ar N (fun fi ai => K fi ai u lg E ∧ PL fi ai (splW w i key))) := by
    intro ai2 x hF hK hot l1 l2 b1 b2
    refine e_aload_n dX6_cut_76 rfl rfl ?_
    refine e_dup dX6_cut_77 rfl ?_
    refine e_getE dX6_cut_78 fl_X6_43 rfl (pl_n hP) ?_
    refine e_iconst (v := nI 1) dX6_cut_81 rfl ?_
    first | ((with_reducible refine mk_nn ?_); refine n_iadd dX6_cut_82 ?_) | refine e_iadd dX6_cut_82 ?_
    refine e_pg dX6_cut_83 fl_X6_43 rfl rfl rfl rfl (fun fi83 g83 o83 => ?_)
    have hK := kp_f bd hK o83
    have hF := fr_f hF o83 (by decide) (by omega)
    refine e_aload_n dX6_cut_86 rfl rfl ?_
    refine e_getR dX6_cut_87 fl_X6_15 rfl (cp_lows cm) ?_
    refine e_iload_n dX6_cut_90 rfl rfl ?_
    refine e_iconst (v := nI 1) dX6_cut_91 rfl ?_
    first | ((with_reducible refine mk_nn ?_); refine n_iadd dX6_cut_92 ?_) | refine e_iadd dX6_cut_92 ?_
    refine e_iload_n dX6_cut_93 rfl rfl ?_
    refine e_sg _ dX6_cut_94 ⟨by decide, by decide⟩ rfl rfl (by simp only [lenK]; omega)  (fun ai94 g94 o94 => ?_)
    have hK := kp_s bd hK o94 (by decide) (by omega) (fun hq => by omega)
    have hF := fr_s hF o94 (by decide) (by omega)
    refine e_aload_n dX6_cut_95 rfl rfl ?_
    refine e_getR dX6_cut_96 fl_X6_18 rfl (cp_own cm) ?_
    refine e_iload_n dX6_cut_99 rfl rfl ?_
    refine e_iconst (v := nI 1) dX6_cut_100 rfl ?_
    first | ((with_reducible refine mk_nn ?_); refine n_iadd dX6_cut_101 ?_) | refine e_iadd dX6_cut_101 ?_
    refine e_aload_n dX6_cut_102 rfl rfl ?_
    refine e_getR dX6_cut_103 fl_X6_18 rfl (cp_own cm) ?_
    refine e_iload_n dX6_cut_106 rfl rfl ?_
    refine e_iadE _ dX6_cut_107 ⟨by decide, by decide⟩ rfl rfl (by simp only [lenK]; omega) ((o94 _ _ (fun e => absurd e.1 (rf_ne (by decide) (by decide) (by decide)))).trans ((b1 i (by omega)).1.trans (pl_ow hP hi))) ?_
    refine e_sg _ dX6_cut_108 ⟨by decide, by decide⟩ rfl rfl (by simp only [lenK]; omega)  (fun ai108 g108 o108 => ?_)
    have hK := kp_s bd hK o108 (by decide) (by omega) (fun hq => by omega)
    have hF := fr_s hF o108 (by decide) (by omega)
    refine e_aload_n dX6_cut_109 rfl rfl ?_
    refine e_getR dX6_cut_110 fl_X6_21 rfl (cp_busy cm) ?_
    refine e_iload_n dX6_cut_113 rfl rfl ?_
    refine e_iconst (v := nI 1) dX6_cut_114 rfl ?_
    first | ((with_reducible refine mk_nn ?_); refine n_iadd dX6_cut_115 ?_) | refine e_iadd dX6_cut_115 ?_
    refine e_iconst (v := nI 0) dX6_cut_116 rfl ?_
    refine e_zg _ dX6_cut_117 ⟨by decide, by decide⟩ rfl rfl (by simp only [lenK]; omega) rfl (fun ai117 g117 o117 => ?_)
    have hK := kp_s bd hK o117 (by decide) (by omega) (fun hq => by omega)
    have hF := fr_s hF o117 (by decide) (by omega)
    refine e_ret none rfl (r_void dX6_cut_118 rfl) ?_
    refine kq rfl hF ⟨hK, ?_⟩
    refine ⟨fun k hk => ?_, fun j hj => ?_, ?_, fun t ht => ?_, ?_, ?_⟩
    · rw [o117 _ _ (fun e => absurd e.1 (rf_ne (by decide) (by decide) (by decide))), o108 _ _ (fun e => absurd e.1 (rf_ne (by decide) (by decide) (by decide))), o94 _ _ (fun e => absurd e.1 (rf_ne (by decide) (by decide) (by decide))), hot _ _ (rf_ne (by decide) (by decide) (by decide)) (rf_ne (by decide) (by decide) (by decide)) (rf_ne (by decide) (by decide) (by decide)), show (fun k => splW w i key (106 + k)) = fun k => w (106 + k) from funext fun k => vf _ (by omega)]; exact pl_sum hP hk
    · rw [v1] at hj
      rw [mv_spl hi hn]
      refine ⟨?_, ?_, ?_⟩
      · rw [o117 _ _ (fun e => absurd e.1 (rf_ne (by decide) (by decide) (by decide))), o108 _ _ (fun e => absurd e.1 (rf_ne (by decide) (by decide) (by decide))), vl j (by omega)]
        by_cases e : j = i + 1
        · rw [e, if_neg (by omega), if_pos rfl]; exact g94
        · rw [o94 _ _ (fun q => e q.2)]
          by_cases e2 : j ≤ i
          · rw [if_pos e2, l1 j e2]; exact pl_lo hP (by omega)
          · rw [if_neg e2, if_neg e]
            have := l2 (j - 1) (by omega) (by omega)
            rw [show j - 1 + 1 = j by omega] at this
            rw [this]; exact pl_lo hP (by omega)
      · rw [o117 _ _ (fun e => absurd e.1 (rf_ne (by decide) (by decide) (by decide))), vo j (by omega)]
        by_cases e : j = i + 1
        · rw [e, if_neg (by omega), if_pos rfl]; exact g108
        · rw [o108 _ _ (fun q => e q.2), o94 _ _ (fun e => absurd e.1 (rf_ne (by decide) (by decide) (by decide)))]
          by_cases e2 : j ≤ i
          · rw [if_pos e2, (b1 j (by omega)).1]; exact pl_ow hP (by omega)
          · rw [if_neg e2, if_neg e, (b2 j (by omega) (by omega)).1]; exact pl_ow hP (by omega)
      · rw [vl j (by omega)]
        by_cases e : j = i + 1
        · rw [e, if_neg (by omega), if_pos rfl, hmk]; exact g117
        · rw [o117 _ _ (fun q => e q.2), o108 _ _ (fun e => absurd e.1 (rf_ne (by decide) (by decide) (by decide))), o94 _ _ (fun e => absurd e.1 (rf_ne (by decide) (by decide) (by decide)))]
          by_cases e2 : j ≤ i
          · rw [if_pos e2, (b1 j (by omega)).2]; exact pl_bu hP (by omega)
          · rw [if_neg e2, if_neg e, (b2 j (by omega) (by omega)).2]; exact pl_bu hP (by omega)
    · rw [v1, o117 _ _ (fun e => absurd e.1 (rf_ne (by decide) (by decide) (by decide))), o108 _ _ (fun e => absurd e.1 (rf_ne (by decide) (by decide) (by decide))), o94 _ _ (fun e => absurd e.2 (by omega)), l2 (w 1) hi (Nat.le_refl _)]; exact hP.2.2.1
    · rw [o117 _ _ (fun e => absurd e.1 (rf_ne (by decide) (by decide) (by decide))), o108 _ _ (fun e => absurd e.1 (rf_ne (by decide) (by decide) (by decide))), o94 _ _ (fun e => absurd e.1 (rf_ne (by decide) (by decide) (by decide))), hot _ _ (rf_ne (by decide) (by decide) (by decide)) (rf_ne (by decide) (by decide) (by decide)) (rf_ne (by decide) (by decide) (by decide)), ld_spl iv hi hn hk]; exact pl_ld hP ht
    · rw [v1]; exact g83
    · rw [o83 _ _ (by omega), ubF_fr (fun s2 hs2 => vf _ (by omega)) 6 (Nat.le_refl 6)]; exact pl_up hP
  have key2 : ∀ a ai2, i + 1 ≤ a → a ≤ w 1 → FR1 fi ai fi ai2 → K fi ai2 u lg E → (∀ a q, a ≠ rf 26 67 → a ≠ rf 16 68 → a ≠ rf 27 69 → ai2 a q = ai a q) → (∀ q, q ≤ i → ai2 (rf 26 67) q = ai (rf 26 67) q) → (∀ q, i < q → q ≤ w 1 → ai2 (rf 26 67) (q + 1) = ai (rf 26 67) q) → (∀ q, q < a → ai2 (rf 16 68) q = ai (rf 16 68) q ∧ ai2 (rf 27 69) q = ai (rf 27 69) q) → (∀ q, a < q → q ≤ w 1 → ai2 (rf 16 68) q = ai (rf 16 68) (q - 1) ∧ ai2 (rf 27 69) q = ai (rf 27 69) (q - 1)) → EV mX6_cut 0 0 0 35 [some (.ref (rf 6 65)), some (.int (nI i)), some (.int (nI key)), some (.int (nI a))] [] fi fr ai2 ar N (kQ (none) fi fr ai ar N (fun fi ai => K fi ai u lg E ∧ PL fi ai (splW w i key))) := by
    intro a
    induction a with
    | zero => intro ai2 ha; omega
    | succ a ih =>
      intro ai2 ha ha2 hF hK hot l1 l2 b1 b2
      by_cases e : a + 1 = i + 1
      · rw [e] at b1 b2 ⊢
        refine e_iload_n dX6_cut_35 rfl rfl ?_
        refine e_iload_n dX6_cut_36 rfl rfl ?_
        refine e_iconst (v := nI 1) dX6_cut_37 rfl ?_
        first | ((with_reducible refine mk_nn ?_); refine n_iadd dX6_cut_38 ?_) | refine e_iadd dX6_cut_38 ?_
        first | ((with_reducible refine mk_nn ?_); refine n_icmp_le (tgt := 76) dX6_cut_39 (by decide) (by omega) (by omega) (fun h39 => ?_) (fun h39 => ?_)) | refine e_icmp_le (tgt := 76) dX6_cut_39 (by decide) (fun h39 => ?_) (fun h39 => ?_)
        · try first | contradiction | omega
          all_goals
            exact ex2 _ _ hF hK hot l1 l2 b1 b2
        · try first | contradiction | omega
          all_goals
            refine e_aload_n dX6_cut_42 rfl rfl ?_
            refine e_getR dX6_cut_43 fl_X6_18 rfl (cp_own cm) ?_
            refine e_iload_n dX6_cut_46 rfl rfl ?_
            refine e_aload_n dX6_cut_47 rfl rfl ?_
            refine e_getR dX6_cut_48 fl_X6_18 rfl (cp_own cm) ?_
            refine e_iload_n dX6_cut_51 rfl rfl ?_
            refine e_iconst (v := nI 1) dX6_cut_52 rfl ?_
            first | ((with_reducible refine mk_nn ?_); refine n_isub dX6_cut_53 (by omega) ?_) | refine e_isub dX6_cut_53 ?_
            refine e_iadE _ dX6_cut_54 ⟨by decide, by decide⟩ rfl rfl (by simp only [lenK]; omega) (pl_ow hP (by omega)) ?_
            refine e_sg _ dX6_cut_55 ⟨by decide, by decide⟩ rfl rfl (by simp only [lenK]; omega)  (fun ai55 g55 o55 => ?_)
            have hK := kp_s bd hK o55 (by decide) (by omega) (fun hq => by omega)
            have hF := fr_s hF o55 (by decide) (by omega)
            refine e_aload_n dX6_cut_56 rfl rfl ?_
            refine e_getR dX6_cut_57 fl_X6_21 rfl (cp_busy cm) ?_
            refine e_iload_n dX6_cut_60 rfl rfl ?_
            refine e_aload_n dX6_cut_61 rfl rfl ?_
            refine e_getR dX6_cut_62 fl_X6_21 rfl (cp_busy cm) ?_
            refine e_iload_n dX6_cut_65 rfl rfl ?_
            refine e_iconst (v := nI 1) dX6_cut_66 rfl ?_
            first | ((with_reducible refine mk_nn ?_); refine n_isub dX6_cut_67 (by omega) ?_) | refine e_isub dX6_cut_67 ?_
            refine e_zadE _ dX6_cut_68 ⟨by decide, by decide⟩ rfl rfl (by simp only [lenK]; omega) (pl_bu hP (by omega)) ?_
            refine e_zg _ dX6_cut_69 ⟨by decide, by decide⟩ rfl rfl (by simp only [lenK]; omega) rfl (fun ai69 g69 o69 => ?_)
            have hK := kp_s bd hK o69 (by decide) (by omega) (fun hq => by omega)
            have hF := fr_s hF o69 (by decide) (by omega)
            first | refine n_dec dX6_cut_70 rfl (Nat.le_of_ble_eq_true rfl) rfl ?_ | refine e_iinc dX6_cut_70 rfl rfl (Nat.le_of_ble_eq_true rfl) rfl ?_
            refine e_goto (tgt := 35) dX6_cut_73 (by decide) ?_
            contradiction
      ·
        refine e_iload_n dX6_cut_35 rfl rfl ?_
        refine e_iload_n dX6_cut_36 rfl rfl ?_
        refine e_iconst (v := nI 1) dX6_cut_37 rfl ?_
        first | ((with_reducible refine mk_nn ?_); refine n_iadd dX6_cut_38 ?_) | refine e_iadd dX6_cut_38 ?_
        first | ((with_reducible refine mk_nn ?_); refine n_icmp_le (tgt := 76) dX6_cut_39 (by decide) (by omega) (by omega) (fun h39 => ?_) (fun h39 => ?_)) | refine e_icmp_le (tgt := 76) dX6_cut_39 (by decide) (fun h39 => ?_) (fun h39 => ?_)
        · try first | contradiction | omega
          all_goals
            omega
        · try first | contradiction | omega
          all_goals
            refine e_aload_n dX6_cut_42 rfl rfl ?_
            refine e_getR dX6_cut_43 fl_X6_18 rfl (cp_own cm) ?_
            refine e_iload_n dX6_cut_46 rfl rfl ?_
            refine e_aload_n dX6_cut_47 rfl rfl ?_
            refine e_getR dX6_cut_48 fl_X6_18 rfl (cp_own cm) ?_
            refine e_iload_n dX6_cut_51 rfl rfl ?_
            refine e_iconst (v := nI 1) dX6_cut_52 rfl ?_
            first | ((with_reducible refine mk_nn ?_); refine n_isub dX6_cut_53 (by omega) ?_) | refine e_isub dX6_cut_53 ?_
            refine e_iadE _ dX6_cut_54 ⟨by decide, by decide⟩ rfl rfl (by simp only [lenK]; omega) ((b1 a (by omega)).1.trans (pl_ow hP (by omega))) ?_
            refine e_sg _ dX6_cut_55 ⟨by decide, by decide⟩ rfl rfl (by simp only [lenK]; omega)  (fun ai55 g55 o55 => ?_)
            have hK := kp_s bd hK o55 (by decide) (by omega) (fun hq => by omega)
            have hF := fr_s hF o55 (by decide) (by omega)
            refine e_aload_n dX6_cut_56 rfl rfl ?_
            refine e_getR dX6_cut_57 fl_X6_21 rfl (cp_busy cm) ?_
            refine e_iload_n dX6_cut_60 rfl rfl ?_
            refine e_aload_n dX6_cut_61 rfl rfl ?_
            refine e_getR dX6_cut_62 fl_X6_21 rfl (cp_busy cm) ?_
            refine e_iload_n dX6_cut_65 rfl rfl ?_
            refine e_iconst (v := nI 1) dX6_cut_66 rfl ?_
            first | ((with_reducible refine mk_nn ?_); refine n_isub dX6_cut_67 (by omega) ?_) | refine e_isub dX6_cut_67 ?_
            refine e_zadE _ dX6_cut_68 ⟨by decide, by decide⟩ rfl rfl (by simp only [lenK]; omega) ((o55 _ _ (fun e => absurd e.1 (rf_ne (by decide) (by decide) (by decide)))).trans ((b1 a (by omega)).2.trans (pl_bu hP (by omega)))) ?_
            refine e_zg _ dX6_cut_69 ⟨by decide, by decide⟩ rfl rfl (by simp only [lenK]; omega) (vp_nb _) (fun ai69 g69 o69 => ?_)
            have hK := kp_s bd hK o69 (by decide) (by omega) (fun hq => by omega)
            have hF := fr_s hF o69 (by decide) (by omega)
            first | refine n_dec dX6_cut_70 rfl (Nat.le_of_ble_eq_true rfl) rfl ?_ | refine e_iinc dX6_cut_70 rfl rfl (Nat.le_of_ble_eq_true rfl) rfl ?_
            refine e_goto (tgt := 35) dX6_cut_73 (by decide) ?_
            refine ih _ (by omega) (by omega) hF hK (fun x q x1 x2 x3 => ?_) (fun q hq => ?_) (fun q p1 p2 => ?_) (fun q hq => ⟨?_, ?_⟩) (fun q p1 p2 => ⟨?_, ?_⟩)
            · rw [o69 _ _ (fun e => x3 e.1), o55 _ _ (fun e => x2 e.1)]; exact hot x q x1 x2 x3
            · rw [o69 _ _ (fun e => absurd e.1 (rf_ne (by decide) (by decide) (by decide))), o55 _ _ (fun e => absurd e.1 (rf_ne (by decide) (by decide) (by decide)))]; exact l1 q hq
            · rw [o69 _ _ (fun e => absurd e.1 (rf_ne (by decide) (by decide) (by decide))), o55 _ _ (fun e => absurd e.1 (rf_ne (by decide) (by decide) (by decide)))]; exact l2 q p1 p2
            · rw [o69 _ _ (fun e => absurd e.1 (rf_ne (by decide) (by decide) (by decide))), o55 _ _ (fun e => by have := e.2; omega)]; exact (b1 q (by omega)).1
            · rw [o69 _ _ (fun e => by have := e.2; omega), o55 _ _ (fun e => absurd e.1 (rf_ne (by decide) (by decide) (by decide)))]; exact (b1 q (by omega)).2
            · rw [o69 _ _ (fun e => absurd e.1 (rf_ne (by decide) (by decide) (by decide)))]
              by_cases e2 : q = a + 1
              · rw [e2, g55, Nat.add_sub_cancel]; exact (pl_ow hP (by omega)).symm
              · rw [o55 _ _ (fun e => e2 e.2)]; exact (b2 q (by omega) p2).1
            · by_cases e2 : q = a + 1
              · rw [e2, g69, Nat.add_sub_cancel]; exact (pl_bu hP (by omega)).symm
              · rw [o69 _ _ (fun e => e2 e.2), o55 _ _ (fun e => absurd e.1 (rf_ne (by decide) (by decide) (by decide)))]; exact (b2 q (by omega) p2).2
  have ex1 : ∀ ai2 x, FR1 fi ai fi ai2 → K fi ai2 u lg E → (∀ a q, a ≠ rf 26 67 → ai2 a q = ai a q) → (∀ q, q ≤ i → ai2 (rf 26 67) q = ai (rf 26 67) q) → (∀ q, i < q → q ≤ w 1 → ai2 (rf 26 67) (q + 1) = ai (rf 26 67) q) → EV mX6_cut 0 0 0 30 [some (.ref (rf 6 65)), some (.int (nI i)), some (.int (nI key)), x] [] fi fr ai2 ar N (kQ (none) fi fr ai ar N (fun fi ai => K fi ai u lg E ∧ PL fi ai (splW w i key))) := by
    intro ai2 x hF hK hot l1 l2
    refine e_aload_n dX6_cut_30 rfl rfl ?_
    refine e_getE dX6_cut_31 fl_X6_43 rfl (pl_n hP) ?_
    refine e_istore_n dX6_cut_34 rfl (Nat.le_of_ble_eq_true rfl) rfl ?_
    exact key2 (w 1) _ (by omega) (Nat.le_refl _) hF hK (fun a q x1 _ _ => hot a q x1) l1 l2 (fun q hq => ⟨hot _ _ (rf_ne (by decide) (by decide) (by decide)), hot _ _ (rf_ne (by decide) (by decide) (by decide))⟩) (fun q p1 p2 => absurd p1 (by omega))
  have key1 : ∀ a ai2, i ≤ a → a ≤ w 1 → FR1 fi ai fi ai2 → K fi ai2 u lg E → (∀ a q, a ≠ rf 26 67 → ai2 a q = ai a q) → (∀ q, q ≤ a → ai2 (rf 26 67) q = ai (rf 26 67) q) → (∀ q, a < q → q ≤ w 1 → ai2 (rf 26 67) (q + 1) = ai (rf 26 67) q) → EV mX6_cut 0 0 0 5 [some (.ref (rf 6 65)), some (.int (nI i)), some (.int (nI key)), some (.int (nI a))] [] fi fr ai2 ar N (kQ (none) fi fr ai ar N (fun fi ai => K fi ai u lg E ∧ PL fi ai (splW w i key))) := by
    intro a
    induction a with
    | zero =>
      intro ai2 ha ha2 hF hK hot l1 l2
      refine e_iload_n dX6_cut_5 rfl rfl ?_
      refine e_iload_n dX6_cut_6 rfl rfl ?_
      first | ((with_reducible refine mk_nn ?_); refine n_icmp_le (tgt := 30) dX6_cut_7 (by decide) (by omega) (by omega) (fun h7 => ?_) (fun h7 => ?_)) | refine e_icmp_le (tgt := 30) dX6_cut_7 (by decide) (fun h7 => ?_) (fun h7 => ?_)
      · try first | contradiction | omega
        all_goals
          exact ex1 _ _ hF hK hot (fun q hq => l1 q (by omega)) (fun q p1 p2 => l2 q (by omega) p2)
      · try first | contradiction | omega
        all_goals
          omega
    | succ a ih =>
      intro ai2 ha ha2 hF hK hot l1 l2
      by_cases e : a + 1 = i
      ·
        refine e_iload_n dX6_cut_5 rfl rfl ?_
        refine e_iload_n dX6_cut_6 rfl rfl ?_
        first | ((with_reducible refine mk_nn ?_); refine n_icmp_le (tgt := 30) dX6_cut_7 (by decide) (by omega) (by omega) (fun h7 => ?_) (fun h7 => ?_)) | refine e_icmp_le (tgt := 30) dX6_cut_7 (by decide) (fun h7 => ?_) (fun h7 => ?_)
        · try first | contradiction | omega
          all_goals
            exact ex1 _ _ hF hK hot (fun q hq => l1 q (by omega)) (fun q p1 p2 => l2 q (by omega) p2)
        · try first | contradiction | omega
          all_goals
            omega
      · have hla : ∃ x, ai (rf 26 67) (a + 1) = nI x := by
          by_cases e2 : a + 1 < w 1
          · exact ⟨_, pl_lo hP e2⟩
          · rw [show a + 1 = w 1 by omega]; exact ⟨_, hP.2.2.1⟩
        obtain ⟨x, hx⟩ := hla
        refine e_iload_n dX6_cut_5 rfl rfl ?_
        refine e_iload_n dX6_cut_6 rfl rfl ?_
        first | ((with_reducible refine mk_nn ?_); refine n_icmp_le (tgt := 30) dX6_cut_7 (by decide) (by omega) (by omega) (fun h7 => ?_) (fun h7 => ?_)) | refine e_icmp_le (tgt := 30) dX6_cut_7 (by decide) (fun h7 => ?_) (fun h7 => ?_)
        · try first | contradiction | omega
          all_goals
            omega
        · try first | contradiction | omega
          all_goals
            refine e_aload_n dX6_cut_10 rfl rfl ?_
            refine e_getR dX6_cut_11 fl_X6_15 rfl (cp_lows cm) ?_
            refine e_iload_n dX6_cut_14 rfl rfl ?_
            refine e_iconst (v := nI 1) dX6_cut_15 rfl ?_
            first | ((with_reducible refine mk_nn ?_); refine n_iadd dX6_cut_16 ?_) | refine e_iadd dX6_cut_16 ?_
            refine e_aload_n dX6_cut_17 rfl rfl ?_
            refine e_getR dX6_cut_18 fl_X6_15 rfl (cp_lows cm) ?_
            refine e_iload_n dX6_cut_21 rfl rfl ?_
            refine e_iadE _ dX6_cut_22 ⟨by decide, by decide⟩ rfl rfl (by simp only [lenK]; omega) ((l1 _ (by omega)).trans hx) ?_
            refine e_sg _ dX6_cut_23 ⟨by decide, by decide⟩ rfl rfl (by simp only [lenK]; omega)  (fun ai23 g23 o23 => ?_)
            have hK := kp_s bd hK o23 (by decide) (by omega) (fun hq => by omega)
            have hF := fr_s hF o23 (by decide) (by omega)
            first | refine n_dec dX6_cut_24 rfl (Nat.le_of_ble_eq_true rfl) rfl ?_ | refine e_iinc dX6_cut_24 rfl rfl (Nat.le_of_ble_eq_true rfl) rfl ?_
            refine e_goto (tgt := 5) dX6_cut_27 (by decide) ?_
            refine ih _ (by omega) (by omega) hF hK (fun y q x1 => ?_) (fun q hq => ?_) (fun q p1 p2 => ?_)
            · rw [o23 _ _ (fun e => x1 e.1)]; exact hot y q x1
            · rw [o23 _ _ (fun e => by have := e.2; omega)]; exact l1 q (by omega)
            · by_cases e2 : q = a + 1
              · rw [e2, g23]; exact hx.symm
              · rw [o23 _ _ (fun e => e2 (by have := e.2; omega))]; exact l2 q (by omega) p2
  refine e_aload_n dX6_cut_0 rfl rfl ?_
  refine e_getE dX6_cut_1 fl_X6_43 rfl (pl_n hP) ?_
  refine e_istore_n dX6_cut_4 rfl (Nat.le_of_ble_eq_true rfl) rfl ?_
  exact key1 (w 1) _ (by omega) (Nat.le_refl _) hF hK (fun _ _ _ => rfl) (fun _ _ => rfl) (fun q p1 p2 => absurd p1 (by omega))
