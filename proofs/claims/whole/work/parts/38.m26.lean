def MaI (w : Nat → Nat) : Prop := (1 ≤ w 1 ∧ w 1 ≤ 32) ∧ w 10 = 0 ∧ (∀ i, i + 1 < w 1 → w (10 + i) < w (10 + (i + 1))) ∧ (∀ i, i < w 1 → w (10 + i) < 1000) ∧ (∀ i, i < w 1 → w (42 + i) < 6) ∧ (w 0 < 2000 ∧ ∀ i, i < w 1 → w (74 + i) ≤ w 0)
def ClI (w : Nat → Nat) (c : Nat) : Prop := w (7106 + 98 * c + 1) ≤ 32 ∧ (w (7106 + 98 * c + 0) = 0 ↔ w (7106 + 98 * c + 1) = 0) ∧ w (7106 + 98 * c + 0) < 2000 ∧ w (7106 + 98 * c + 2) = 0 ∧ ∀ j, j < w (7106 + 98 * c + 1) → w (7106 + 98 * c + 2 + j) < 1000 ∧ w (7106 + 98 * c + 34 + j) < 6 ∧ w (7106 + 98 * c + 66 + j) < 2000
theorem iv_ma {w : Nat → Nat} (h : Inv w) : MaI w := ⟨h.1, h.2.1, h.2.2.1, h.2.2.2.1, h.2.2.2.2.1, h.2.2.2.2.2.1⟩
theorem iv_ci {w : Nat → Nat} (h : Inv w) {c : Nat} (hc : c < 6) : ClI w c := iv_cl h hc
theorem Inv_mk {w : Nat → Nat} (hM : MaI w) (h2 : 1 ≤ w 2 ∧ w 2 ≤ 16) (h3 : w 3 ≤ 12) (hu : ∀ s, s < 6 → w (4 + s) ≤ 1) (hw : ∀ k, k < 1000 → w (106 + k) ≤ 100000) (hv : ∀ i, i < 6000 → w (1106 + i) ≤ 99999) (hc : ∀ c, c < 6 → ClI w c) (hm : ∀ m, m < w 3 → MvI w m) : Inv w :=
  ⟨hM.1, hM.2.1, hM.2.2.1, hM.2.2.2.1, hM.2.2.2.2.1, hM.2.2.2.2.2, h2, h3, hu, hw, hv, hc, hm⟩
theorem MaI_fr {w w' : Nat → Nat} (h : ∀ q, q < 2 ∨ (10 ≤ q ∧ q < 106) → w' q = w q) (a : MaI w) : MaI w' := by
  obtain ⟨a1, a2, a3, a4, a5, a6, a7⟩ := a
  have e1 := h 1 (by omega)
  have e0 := h 0 (by omega)
  refine ⟨by rw [e1]; exact a1, by rw [h 10 (by omega)]; exact a2, fun i hi => ?_, fun i hi => ?_, fun i hi => ?_, by rw [e0]; exact a6, fun i hi => ?_⟩
  · rw [e1] at hi; rw [h _ (by omega), h _ (by omega)]; exact a3 i hi
  · rw [e1] at hi; rw [h _ (by omega)]; exact a4 i hi
  · rw [e1] at hi; rw [h _ (by omega)]; exact a5 i hi
  · rw [e1] at hi; rw [h _ (by omega), e0]; exact a7 i hi
theorem ClI_fr {w w' : Nat → Nat} {c : Nat} (h : ∀ d, d < 98 → w' (7106 + 98 * c + d) = w (7106 + 98 * c + d)) (q : ClI w c) : ClI w' c := by
  unfold ClI
  rw [h 1 (by omega), h 0 (by omega), h 2 (by omega)]
  refine ⟨q.1, q.2.1, q.2.2.1, q.2.2.2.1, fun j hj => ?_⟩
  have := q.1
  have e1 := h (2 + j) (by omega)
  have e2 := h (34 + j) (by omega)
  have e3 := h (66 + j) (by omega)
  rw [← Nat.add_assoc] at e1 e2 e3
  rw [e1, e2, e3]
  exact q.2.2.2.2 j hj
theorem MvI_fr {w w' : Nat → Nat} {m : Nat} (h : ∀ d, d < 72 → w' (7694 + 72 * m + d) = w (7694 + 72 * m + d)) (q : MvI w m) : MvI w' m := by
  unfold MvI
  rw [h 0 (by omega), h 1 (by omega), h 2 (by omega), h 3 (by omega), h 4 (by omega), h 5 (by omega), h 6 (by omega), h 7 (by omega), h 10 (by omega), h 11 (by omega)]
  refine ⟨q.1, q.2.1, q.2.2.1, q.2.2.2.1, q.2.2.2.2.1, q.2.2.2.2.2.1, q.2.2.2.2.2.2.1, q.2.2.2.2.2.2.2.1, q.2.2.2.2.2.2.2.2.1, q.2.2.2.2.2.2.2.2.2.1, q.2.2.2.2.2.2.2.2.2.2.1, fun i hi => ?_⟩
  have := q.2.2.2.2.2.2.2.1
  have e := h (12 + i) (by omega)
  rw [← Nat.add_assoc] at e
  rw [e]
  exact q.2.2.2.2.2.2.2.2.2.2.2 i hi
/-- only the map changes -/
theorem Inv_map {w w' : Nat → Nat} (iv : Inv w) (h : ∀ q, q < 8558 → (2 ≤ q ∧ q < 10) ∨ 106 ≤ q → w' q = w q) (hM : MaI w') : Inv w' := by
  have h3 := iv_mm iv
  refine Inv_mk hM (by rw [h 2 (by omega) (by omega)]; exact iv_ch iv) (by rw [h 3 (by omega) (by omega)]; exact h3) (fun s hs => by rw [h _ (by omega) (by omega)]; exact iv_up iv hs) (fun k hk => by rw [h _ (by omega) (by omega)]; exact iv_wt iv hk) (fun i hi => by rw [h _ (by omega) (by omega)]; exact iv_va iv hi) (fun c hc => ClI_fr (fun d hd => h _ (by omega) (by omega)) (iv_ci iv hc)) (fun m hm => ?_)
  rw [h 3 (by omega) (by omega)] at hm
  exact MvI_fr (fun d hd => h _ (by omega) (by omega)) (iv_mvI iv hm)
theorem fet_Inv {w : Nat → Nat} (iv : Inv w) (h0 : 1 ≤ w 0) {c : Nat} (hc : c < 6) : Inv (fetW w c) := by
  have h3 := iv_mm iv
  have h1 := iv_n iv
  have hE := iv_ep0 iv
  have lo : ∀ q, q < 7106 → fetW w c q = w q := fun q hq => fcF_lo w c (w 1) q hq
  have hi : ∀ q, 7694 ≤ q → fetW w c q = w q := fun q hq => by unfold fetW fcF; rw [if_neg (by omega), if_neg (by omega), if_neg (by omega), if_neg (by omega), if_neg (by omega)]
  refine Inv_mk (MaI_fr (fun q hq => lo q (by omega)) (iv_ma iv)) (by rw [lo 2 (by omega)]; exact iv_ch iv) (by rw [lo 3 (by omega)]; exact h3) (fun s hs => by rw [lo _ (by omega)]; exact iv_up iv hs) (fun k hk => by rw [lo _ (by omega)]; exact iv_wt iv hk) (fun i hi => by rw [lo _ (by omega)]; exact iv_va iv hi) (fun c2 hc2 => ?_) (fun m hm => MvI_fr (fun d hd => hi _ (by omega)) (iv_mvI iv (by rw [lo 3 (by omega)] at hm; exact hm)))
  by_cases e : c2 = c
  · subst e
    have f0 : fetW w c2 (7106 + 98 * c2 + 0) = w 0 := by unfold fetW fcF; rw [if_pos rfl]
    have f1 : fetW w c2 (7106 + 98 * c2 + 1) = w 1 := by unfold fetW fcF; rw [if_neg (by omega), if_pos rfl]
    have f2 : ∀ j, j < w 1 → fetW w c2 (7106 + 98 * c2 + 2 + j) = w (10 + j) := fun j hj => by unfold fetW fcF; rw [if_neg (by omega), if_neg (by omega), if_pos (by omega)]; congr 1; omega
    have f3 : ∀ j, j < w 1 → fetW w c2 (7106 + 98 * c2 + 34 + j) = w (42 + j) := fun j hj => by unfold fetW fcF; rw [if_neg (by omega), if_neg (by omega), if_neg (by omega), if_pos (by omega)]; congr 1; omega
    have f4 : ∀ j, j < w 1 → fetW w c2 (7106 + 98 * c2 + 66 + j) = w (74 + j) := fun j hj => by unfold fetW fcF; rw [if_neg (by omega), if_neg (by omega), if_neg (by omega), if_neg (by omega), if_pos (by omega)]; congr 1; omega
    unfold ClI
    have f20 := f2 0 (by omega)
    rw [Nat.add_zero, Nat.add_zero, iv_l0 iv] at f20
    rw [f0, f1, f20]
    refine ⟨h1.2, by omega, hE, rfl, fun j hj => ?_⟩
    rw [f2 j hj, f3 j hj, f4 j hj]
    have := iv_ep iv hj
    exact ⟨iv_low iv hj, iv_own iv hj, by omega⟩
  · refine ClI_fr (fun d hd => ?_) (iv_ci iv hc2)
    unfold fetW fcF
    rw [if_neg (by omega), if_neg (by omega), if_neg (by omega), if_neg (by omega), if_neg (by omega)]
theorem wrT_Inv {w : Nat → Nat} (iv : Inv w) {k m : Nat} (hk : k < 1000) (hm : m < w 3) (h6 : w (7694 + 72 * m + 6) < 60) : Inv (wrT w k m) := by
  have h3 := iv_mm iv
  have h1 := iv_n iv
  have q := iv_mv iv hm
  have f : ∀ p, p ≠ 7694 + 72 * m + 12 + w (7694 + 72 * m + 6) → p ≠ 7694 + 72 * m + 6 → wrT w k m p = w p := fun p a b => by unfold wrT; rw [upN_n b, upN_n a]
  have s6 : wrT w k m (7694 + 72 * m + 6) = w (7694 + 72 * m + 6) + 1 := upN_s _ _ _
  refine Inv_st iv hm (fun p hp hs => ?_) ?_ (fun i hi => ?_) (fun i hi => ?_) (fun i hi => ?_) ?_
  · unfold stO at hs; exact f p (by omega) (by omega)
  · rw [f 0 (by omega) (by omega)]; exact iv_ep0 iv
  · rw [f _ (by omega) (by omega)]; exact iv_own iv hi
  · rw [f _ (by omega) (by omega), f 0 (by omega) (by omega)]; exact iv_ep iv hi
  · rw [f _ (by omega) (by omega)]; exact iv_va iv hi
  · unfold MvI
    rw [f _ (by omega) (by omega), f _ (by omega) (by omega), f _ (by omega) (by omega), f _ (by omega) (by omega), f _ (by omega) (by omega), f _ (by omega) (by omega), s6, f _ (by omega) (by omega), f _ (by omega) (by omega), f _ (by omega) (by omega)]
    refine ⟨q.1, q.2.1, q.2.2.1, q.2.2.2.1, q.2.2.2.2.1, q.2.2.2.2.2.1, q.2.2.2.2.2.2.1, by omega, q.2.2.2.2.2.2.2.2.1, q.2.2.2.2.2.2.2.2.2.1, q.2.2.2.2.2.2.2.2.2.2.1, fun i hi => ?_⟩
    by_cases e : i = w (7694 + 72 * m + 6)
    · subst e; unfold wrT; rw [upN_n (by omega), upN_s]; exact hk
    · rw [f _ (by omega) (by omega)]; exact q.2.2.2.2.2.2.2.2.2.2.2 i (by omega)
/-- a key that may be written: its move's trail isn't full, or has it -/
theorem fz_room {w : Nat → Nat} {k m : Nat} (iv : Inv w) (h : fzK w k = false) (hm : mvL w (w (10 + spW w k)) = some m) (h2 : w (7694 + 72 * m + 0) ≤ 2 ∧ inT w m k = false) : w (7694 + 72 * m + 6) < 60 := by
  have q := iv_mv iv (mvL_lt hm)
  unfold fzK at h
  rw [hm] at h
  have h : fzM w m k = false := h
  unfold fzM at h
  rw [h2.2, decide_eq_true h2.1] at h
  by_cases e : w (7694 + 72 * m + 6) = 60
  · rw [decide_eq_true e] at h; simp at h
  · omega
theorem wrW_Inv {w : Nat → Nat} (iv : Inv w) {k v : Nat} (hk : k < 1000) (hv : v ≤ 99999) (hw : w (106 + k) + 2 ≤ 100000) (hf : fzK w k = false) : Inv (wrW w k v) := by
  have iv3 := wr3_Inv (v := v) iv hk hv hw
  unfold wrW
  split
  · exact iv3
  · rename_i m hm
    have hml := mvL_lt hm
    have h3 := iv_mm iv
    split
    · rename_i h2
      refine wrT_Inv iv3 hk (by rw [wr3_fr iv hk (by omega)]; exact hml) ?_
      rw [wr3_fr iv hk (by omega)]
      exact fz_room iv hf hm h2
    · exact iv3
theorem askN_fr {w : Nat → Nat} {c k v q : Nat} (h : asA w c k v ≠ 0) (hq : q < 8558) : askW w c k v q = w q := by
  unfold askW ask3 ask1
  rw [if_neg h]
  split <;> simp (disch := omega) only [upN_n]
theorem fzK_fr {w w' : Nat → Nat} (iv : Inv w) (h : ∀ q, q < 8558 → w' q = w q) (k : Nat) : fzK w' k = fzK w k := by
  have h3 := iv_mm iv
  have hs := spW_lt iv k
  have h1 := iv_n iv
  have e1 := spW_fr (h 1 (by omega)) (fun j hj => h (10 + j) (by omega)) iv k
  have e2 : ∀ l, mvL w' l = mvL w l := mvL_fr (h 3 (by omega)) (fun m hm => ⟨h _ (by omega), h _ (by omega)⟩)
  unfold fzK
  rw [e1, h (10 + spW w k) (by omega), e2]
  cases hm : mvL w (w (10 + spW w k)) with
  | none => rfl
  | some m =>
    have hml := mvL_lt hm
    have q := iv_mv iv hml
    show fzM w' m k = fzM w m k
    unfold fzM
    rw [h (7694 + 72 * m + 0) (by omega), h (7694 + 72 * m + 6) (by omega), inT_fr (fun q _ hq => h q hq) (by omega) q.2.2.2.2.2.2.2.1 k]
theorem ask_Inv {w : Nat → Nat} (iv : Inv w) {c k v : Nat} (hc : c < 6) (hk : k < 1000) (hv : v ≤ 99999) (hw : w (106 + k) + 2 ≤ 100000) : Inv (askW w c k v) := by
  by_cases h : asA w c k v = 0
  · by_cases h0 : 0 < v
    · have hf : fzK w k = false := by
        unfold asA at h
        cases hz : fzK w k with
        | false => rfl
        | true =>
          rw [hz] at h
          by_cases ha : anF w c k = 0
          · rw [if_pos ⟨ha, h0, rfl⟩] at h; omega
          · rw [if_neg (fun q => ha q.1)] at h; exact absurd h ha
      have f : ∀ q, q < 8558 → upN (ask1 w c) (8573 + 4 * c + 1) (w (8573 + 4 * c + 1) + 1) q = w q := fun q hq => by rw [upN_n (by omega), ask1_fr _ _ _ hq]
      unfold askW
      rw [if_pos h, if_pos h0]
      exact wrW_Inv (Inv_fr f iv) hk hv (by rw [f _ (by omega)]; exact hw) (by rw [fzK_fr iv f]; exact hf)
    · have : v = 0 := by omega
      subst this
      exact askR_Inv iv hk hw h
  · exact Inv_fr (fun q hq => askN_fr h hq) iv
theorem spl_v {w : Nat → Nat} {i key : Nat} (hi : i < w 1) (hn : w 1 ≤ 31) : splW w i key 0 = w 0 + 1 ∧ splW w i key 1 = w 1 + 1 ∧
    (∀ j, j ≤ w 1 → splW w i key (10 + j) = if j ≤ i then w (10 + j) else if j = i + 1 then key else w (10 + (j - 1))) ∧
    (∀ j, j ≤ w 1 → splW w i key (42 + j) = if j ≤ i then w (42 + j) else if j = i + 1 then w (42 + i) else w (42 + (j - 1))) ∧
    (∀ j, j ≤ w 1 → splW w i key (74 + j) = if j < i then w (74 + j) else if j ≤ i + 1 then w 0 + 1 else w (74 + (j - 1))) ∧ (∀ q, (2 ≤ q ∧ q < 10) ∨ 106 ≤ q → splW w i key q = w q) := by
  refine ⟨splW_0 hi hn, by unfold splW; rw [upN_s], fun j hj => ?_, fun j hj => ?_, fun j hj => ?_, fun q hq => ?_⟩
  · unfold splW upN shF
    repeat' split
    all_goals first | rfl | omega | (congr 1; omega)
  · unfold splW upN shF
    repeat' split
    all_goals first | rfl | omega | (congr 1; omega)
  · unfold splW upN shF
    repeat' split
    all_goals first | rfl | omega | (congr 1; omega)
  · unfold splW
    simp (disch := omega) only [upN_n]
    exact shF_fr (by omega) hn (by omega)
theorem spl_Inv {w : Nat → Nat} (iv : Inv w) {i key : Nat} (hi : i < w 1) (hn : w 1 ≤ 31) (hk : w (10 + i) < key ∧ key < enF w i) (h0 : w 0 < 1999) : Inv (splW w i key) := by
  obtain ⟨v0, v1, vl, vo, ve, vf⟩ := spl_v (key := key) hi hn
  have hen := enF_le iv hi
  refine Inv_map iv (fun q _ hq => vf q hq) ⟨by rw [v1]; omega, ?_, fun j hj => ?_, fun j hj => ?_, fun j hj => ?_, by rw [v0]; omega, fun j hj => ?_⟩
  · have := vl 0 (by omega)
    rw [if_pos (by omega)] at this
    rw [show (10 : Nat) = 10 + 0 from rfl, this]; exact iv_l0 iv
  · rw [v1] at hj
    rw [vl j (by omega), vl (j + 1) (by omega)]
    by_cases a : j + 1 ≤ i
    · rw [if_pos (by omega), if_pos a]; exact iv_inc iv (by omega)
    · by_cases b : j = i
      · subst b; rw [if_pos (by omega), if_neg a, if_pos rfl]; exact hk.1
      · rw [if_neg (by omega), if_neg a]
        rw [if_neg (show ¬ j + 1 = i + 1 by omega), show j + 1 - 1 = j by omega]
        by_cases c : j = i + 1
        · subst c
          rw [if_pos rfl]
          have : enF w i = w (10 + (i + 1)) := by unfold enF; rw [if_pos (by omega), Nat.add_assoc]
          omega
        · rw [if_neg c]
          have := iv_inc iv (i := j - 1) (by omega)
          rw [show j - 1 + 1 = j by omega] at this
          exact this
  · rw [v1] at hj
    rw [vl j (by omega)]
    split
    · exact iv_low iv (by omega)
    · split
      · omega
      · exact iv_low iv (by omega)
  · rw [v1] at hj
    rw [vo j (by omega)]
    split
    · exact iv_own iv (by omega)
    · split
      · exact iv_own iv (by omega)
      · exact iv_own iv (by omega)
  · rw [v1] at hj
    rw [ve j (by omega), v0]
    split
    · have := iv_ep iv (i := j) (by omega); omega
    · split
      · omega
      · have := iv_ep iv (i := j - 1) (by omega); omega
theorem spc_Inv {w : Nat → Nat} (iv : Inv w) {i key : Nat} (hi : i < w 1) (hn : w 1 ≤ 31) (hk : w (10 + i) < key ∧ key < enF w i) (h0 : w 0 < 1999) : Inv (spcW w i key) := Inv_fr (fun q hq => upN_n (by omega)) (spl_Inv iv hi hn hk h0)
theorem joi_v {w : Nat → Nat} {i : Nat} (hi : i + 1 < w 1) (hn : w 1 ≤ 32) : joiW w i 0 = w 0 + 1 ∧ joiW w i 1 = w 1 - 1 ∧
    (∀ j, j < w 1 - 1 → joiW w i (10 + j) = if j ≤ i then w (10 + j) else w (10 + (j + 1))) ∧
    (∀ j, j < w 1 - 1 → joiW w i (42 + j) = if j ≤ i then w (42 + j) else w (42 + (j + 1))) ∧
    (∀ j, j < w 1 - 1 → joiW w i (74 + j) = if j < i then w (74 + j) else if j = i then w 0 + 1 else w (74 + (j + 1))) ∧ (∀ q, (2 ≤ q ∧ q < 10) ∨ (106 ≤ q ∧ q ≠ 8558 + 7) → joiW w i q = w q) := by
  refine ⟨?_, ?_, fun j hj => ?_, fun j hj => ?_, fun j hj => ?_, fun q hq => ?_⟩
  · unfold joiW; rw [upN_n (by omega), upN_n (by omega), jnF_fr (by omega)]; unfold jo2; rw [upN_n (by omega), upN_s]
  · unfold joiW; rw [upN_n (by omega), upN_s]
  · unfold joiW jnF jo2 upN
    dsimp only
    repeat' split
    all_goals first | rfl | omega | (congr 1; omega)
  · unfold joiW jnF jo2 upN
    dsimp only
    repeat' split
    all_goals first | rfl | omega | (congr 1; omega)
  · unfold joiW jnF jo2 upN
    dsimp only
    repeat' split
    all_goals first | rfl | omega | (congr 1; omega)
  · unfold joiW; rw [upN_n (by omega), upN_n (by omega), jnF_fr (by omega)]; unfold jo2; rw [upN_n (by omega), upN_n (by omega)]
theorem joi_Inv {w : Nat → Nat} (iv : Inv w) {i : Nat} (hi : i + 1 < w 1) (h0 : w 0 < 1999) : Inv (joiW w i) := by
  have h1 := iv_n iv
  obtain ⟨v0, v1, vl, vo, ve, vf⟩ := joi_v hi h1.2
  refine Inv_map iv (fun q hq hq2 => vf q (by omega)) ⟨by rw [v1]; omega, ?_, fun j hj => ?_, fun j hj => ?_, fun j hj => ?_, by rw [v0]; omega, fun j hj => ?_⟩
  · have := vl 0 (by omega)
    rw [if_pos (by omega)] at this
    rw [show (10 : Nat) = 10 + 0 from rfl, this]; exact iv_l0 iv
  · rw [v1] at hj
    rw [vl j (by omega), vl (j + 1) (by omega)]
    by_cases a : j + 1 ≤ i
    · rw [if_pos (by omega), if_pos a]; exact iv_inc iv (by omega)
    · rw [if_neg a]
      by_cases b : j = i
      · subst b; rw [if_pos (by omega)]
        exact Nat.lt_trans (iv_inc iv (i := j) (by omega)) (iv_inc iv (i := j + 1) (by omega))
      · rw [if_neg (by omega)]; exact iv_inc iv (i := j + 1) (by omega)
  · rw [v1] at hj
    rw [vl j (by omega)]
    split <;> exact iv_low iv (by omega)
  · rw [v1] at hj
    rw [vo j (by omega)]
    split <;> exact iv_own iv (by omega)
  · rw [v1] at hj
    rw [ve j (by omega), v0]
    split
    · have := iv_ep iv (i := j) (by omega); omega
    · split
      · omega
      · have := iv_ep iv (i := j + 1) (by omega); omega
theorem mov_v {w : Nat → Nat} {i s : Nat} (h3 : w 3 < 12) (q : Nat) : movW w i s q = if q = 8558 + 8 then w (8558 + 8) + 1 else if q = 3 then w 3 + 1 else if q = 7694 + 72 * w 3 + 5 then w (10 + i) else if q = 7694 + 72 * w 3 + 4 then s else if q = 7694 + 72 * w 3 + 3 then w (42 + i) else if q = 7694 + 72 * w 3 + 2 then enF w i else if q = 7694 + 72 * w 3 + 1 then w (10 + i) else if q = 7694 + 72 * w 3 + 0 then 1 else if 7694 + 72 * w 3 ≤ q ∧ q < 7694 + 72 * w 3 + 72 then 0 else w q := rfl
theorem mov_fr {w : Nat → Nat} {i s q : Nat} (h3 : w 3 < 12) (h : q ≠ 3) (h2 : q < 7694 + 72 * w 3 ∨ (7694 + 72 * w 3 + 72 ≤ q ∧ q ≠ 8558 + 8)) : movW w i s q = w q := by
  rw [mov_v h3]
  rw [if_neg (by omega), if_neg (by omega), if_neg (by omega), if_neg (by omega), if_neg (by omega), if_neg (by omega), if_neg (by omega), if_neg (by omega), if_neg (by omega)]
theorem mov_new {w : Nat → Nat} {i s : Nat} (h3 : w 3 < 12) (d : Nat) (hd : d < 72) : movW w i s (7694 + 72 * w 3 + d) = if d = 5 then w (10 + i) else if d = 4 then s else if d = 3 then w (42 + i) else if d = 2 then enF w i else if d = 1 then w (10 + i) else if d = 0 then 1 else 0 := by
  rw [mov_v h3]
  repeat' split
  all_goals first | rfl | omega
theorem mov_Inv {w : Nat → Nat} (iv : Inv w) {i s : Nat} (hi : i < w 1) (hs : s < 6) (h3 : w 3 < 12) : Inv (movW w i s) := by
  have h1 := iv_n iv
  have hen := enF_le iv hi
  have hlo := iv_low iv hi
  have hn := mov_new (w := w) (i := i) (s := s) h3
  have v3 : movW w i s 3 = w 3 + 1 := rfl
  refine Inv_mk (MaI_fr (fun q hq => mov_fr h3 (by omega) (by omega)) (iv_ma iv)) (by rw [mov_fr h3 (by omega) (by omega)]; exact iv_ch iv) (by rw [v3]; omega) (fun t ht => by rw [mov_fr h3 (by omega) (by omega)]; exact iv_up iv ht) (fun k hk => by rw [mov_fr h3 (by omega) (by omega)]; exact iv_wt iv hk) (fun j hj => by rw [mov_fr h3 (by omega) (by omega)]; exact iv_va iv hj) (fun c hc => ClI_fr (fun d hd => mov_fr h3 (by omega) (by omega)) (iv_ci iv hc)) (fun m hm => ?_)
  rw [v3] at hm
  by_cases e : m = w 3
  · subst e
    unfold MvI
    rw [hn 0 (by omega), hn 1 (by omega), hn 2 (by omega), hn 3 (by omega), hn 4 (by omega), hn 5 (by omega), hn 6 (by omega), hn 7 (by omega), hn 10 (by omega), hn 11 (by omega)]
    have ho := iv_own iv hi
    refine ⟨(by show (1 : Nat) ≤ 6; omega), hen.1, hen.2, ho, hs, Nat.le_refl _, by exact Nat.le_of_lt hen.1, Nat.zero_le _, Nat.zero_le _, Nat.zero_le _, (by show (0 : Nat) < 2000; omega), fun j hj => absurd hj (Nat.not_lt_zero j)⟩
  · exact MvI_fr (fun d hd => mov_fr h3 (by omega) (by omega)) (iv_mvI iv (by omega))
theorem loF_le (w : Nat → Nat) (a j q : Nat) : loF w a j q ≤ w q := by
  unfold loF
  split
  · omega
  · exact Nat.le_refl _
theorem end_fr {w : Nat → Nat} (iv : Inv w) {m : Nat} (hm : m < w 3) {q : Nat} (h : q < 1106 ∨ 7106 ≤ q) (h0 : q ≠ 7694 + 72 * m + 0) (h7 : q ≠ 7694 + 72 * m + 7) (h9 : q < 8558) : endW w m q = w q := by
  have g := iv_mv iv hm
  unfold endW losW
  have : 8558 ≤ 8558 + (if w (7694 + 72 * m + 0) ≤ 3 then 10 else 9) := Nat.le_add_right _ _
  rw [upN_n (by omega), upN_n (by omega), upN_n (by omega)]
  refine loF_fr ?_
  split <;> omega
theorem end_Inv {w : Nat → Nat} (iv : Inv w) {m : Nat} (hm : m < w 3) : Inv (endW w m) := by
  have h3 := iv_mm iv
  have h1 := iv_n iv
  have q := iv_mv iv hm
  have f : ∀ p, (p < 1106 ∨ 7106 ≤ p) → p ≠ 7694 + 72 * m + 0 → p ≠ 7694 + 72 * m + 7 → p < 8558 → endW w m p = w p := fun p a b c d => end_fr iv hm a b c d
  have hc : ∀ p, p < 8558 → p ≠ 8558 + (if w (7694 + 72 * m + 0) ≤ 3 then 10 else 9) := fun p hp => by split <;> omega
  have s0 : endW w m (7694 + 72 * m + 0) = endS w m := by unfold endW; rw [upN_n (hc _ (by omega)), upN_n (by omega), upN_s]
  have s7 : endW w m (7694 + 72 * m + 7) = 0 := by unfold endW; rw [upN_n (hc _ (by omega)), upN_s]
  refine Inv_st iv hm (fun p hp hs => ?_) ?_ (fun i hi => ?_) (fun i hi => ?_) (fun i hi => ?_) ?_
  · unfold stO at hs; exact f p (by omega) (by omega) (by omega) hp
  · rw [f 0 (by omega) (by omega) (by omega) (by omega)]; exact iv_ep0 iv
  · rw [f _ (by omega) (by omega) (by omega) (by omega)]; exact iv_own iv hi
  · rw [f _ (by omega) (by omega) (by omega) (by omega), f 0 (by omega) (by omega) (by omega) (by omega)]; exact iv_ep iv hi
  · unfold endW losW
    rw [upN_n (hc _ (by omega)), upN_n (by omega), upN_n (by omega)]
    exact Nat.le_trans (loF_le _ _ _ _) (iv_va iv hi)
  · unfold MvI
    rw [s0, s7, f _ (by omega) (by omega) (by omega) (by omega), f _ (by omega) (by omega) (by omega) (by omega), f _ (by omega) (by omega) (by omega) (by omega), f _ (by omega) (by omega) (by omega) (by omega), f _ (by omega) (by omega) (by omega) (by omega), f _ (by omega) (by omega) (by omega) (by omega), f _ (by omega) (by omega) (by omega) (by omega), f _ (by omega) (by omega) (by omega) (by omega)]
    refine ⟨by unfold endS; split <;> omega, q.2.1, q.2.2.1, q.2.2.2.1, q.2.2.2.2.1, q.2.2.2.2.2.1, q.2.2.2.2.2.2.1, q.2.2.2.2.2.2.2.1, by omega, q.2.2.2.2.2.2.2.2.2.1, q.2.2.2.2.2.2.2.2.2.2.1, fun i hi => ?_⟩
    rw [f _ (by omega) (by omega) (by omega) (by omega)]
    exact q.2.2.2.2.2.2.2.2.2.2.2 i hi
theorem up_Inv {w : Nat → Nat} (iv : Inv w) {s v : Nat} (hs : s < 6) (hv : v ≤ 1) : Inv (upN w (4 + s) v) := by
  have h3 := iv_mm iv
  have f : ∀ q, q ≠ 4 + s → upN w (4 + s) v q = w q := fun q h => upN_n h
  refine Inv_mk (MaI_fr (fun q hq => f q (by omega)) (iv_ma iv)) (by rw [f 2 (by omega)]; exact iv_ch iv) (by rw [f 3 (by omega)]; exact h3) (fun t ht => ?_) (fun k hk => by rw [f _ (by omega)]; exact iv_wt iv hk) (fun j hj => by rw [f _ (by omega)]; exact iv_va iv hj) (fun c hc => ClI_fr (fun d hd => f _ (by omega)) (iv_ci iv hc)) (fun m hm => MvI_fr (fun d hd => f _ (by omega)) (iv_mvI iv (by rw [f 3 (by omega)] at hm; exact hm)))
  by_cases e : t = s
  · rw [e, upN_s]; exact hv
  · rw [f _ (by omega)]; exact iv_up iv ht
theorem chk_Inv {w : Nat → Nat} (iv : Inv w) {v : Nat} (h1 : 1 ≤ v) (h2 : v ≤ 16) : Inv (upN w 2 v) := by
  have h3 := iv_mm iv
  have f : ∀ q, q ≠ 2 → upN w 2 v q = w q := fun q h => upN_n h
  exact Inv_mk (MaI_fr (fun q hq => f q (by omega)) (iv_ma iv)) (by rw [upN_s]; exact ⟨h1, h2⟩) (by rw [f 3 (by omega)]; exact h3) (fun t ht => by rw [f _ (by omega)]; exact iv_up iv ht) (fun k hk => by rw [f _ (by omega)]; exact iv_wt iv hk) (fun j hj => by rw [f _ (by omega)]; exact iv_va iv hj) (fun c hc => ClI_fr (fun d hd => f _ (by omega)) (iv_ci iv hc)) (fun m hm => MvI_fr (fun d hd => f _ (by omega)) (iv_mvI iv (by rw [f 3 (by omega)] at hm; exact hm)))
theorem dn1_Inv {w : Nat → Nat} (iv : Inv w) {s m : Nat} (hm : m < w 3) : Inv (dn1 w s m) := by
  have h3 := iv_mm iv
  have h1 := iv_n iv
  have q := iv_mv iv hm
  have f : ∀ p, p < 7694 + 72 * m + 6 ∨ 7694 + 72 * m + 8 < p → dn1 w s m p = w p := fun p h => dn1_fr h
  have s6 : dn1 w s m (7694 + 72 * m + 6) = 0 ∨ dn1 w s m (7694 + 72 * m + 6) = w (7694 + 72 * m + 6) := by
    unfold dn1
    repeat' split
    all_goals first | (right; rfl) | (left; simp (disch := omega) only [upN_n, upN_s]; done) | (right; simp (disch := omega) only [upN_n]; done)
  have s7 : dn1 w s m (7694 + 72 * m + 7) ≤ 1 := by
    unfold dn1
    repeat' split
    all_goals (try simp (disch := omega) only [upN_n, upN_s]); omega
  refine Inv_st iv hm (fun p hp hs => ?_) ?_ (fun i hi => ?_) (fun i hi => ?_) (fun i hi => ?_) ?_
  · unfold stO at hs; exact f p (by omega)
  · rw [f 0 (by omega)]; exact iv_ep0 iv
  · rw [f _ (by omega)]; exact iv_own iv hi
  · rw [f _ (by omega), f 0 (by omega)]; exact iv_ep iv hi
  · rw [f _ (by omega)]; exact iv_va iv hi
  · unfold MvI
    rw [f (7694 + 72 * m + 0) (by omega), f (7694 + 72 * m + 1) (by omega), f (7694 + 72 * m + 2) (by omega), f (7694 + 72 * m + 3) (by omega), f (7694 + 72 * m + 4) (by omega), f (7694 + 72 * m + 5) (by omega), f (7694 + 72 * m + 10) (by omega), f (7694 + 72 * m + 11) (by omega)]
    refine ⟨q.1, q.2.1, q.2.2.1, q.2.2.2.1, q.2.2.2.2.1, q.2.2.2.2.2.1, q.2.2.2.2.2.2.1, by omega, s7, q.2.2.2.2.2.2.2.2.2.1, q.2.2.2.2.2.2.2.2.2.2.1, fun i hi => ?_⟩
    rw [f _ (by omega)]
    exact q.2.2.2.2.2.2.2.2.2.2.2 i (by omega)
theorem dnF_Inv {w : Nat → Nat} (iv : Inv w) {s : Nat} (hs : s < 6) : ∀ j, j ≤ w 3 → Inv (dnF w s j)
  | 0, _ => up_Inv iv hs (by omega)
  | j + 1, hj => by
    have h3 := iv_mm iv
    show Inv (dn1 (dnF w s j) s j)
    refine dn1_Inv (dnF_Inv iv hs j (by omega)) ?_
    rw [dnF_fr (by omega) j (fun m hm => by omega)]
    omega
