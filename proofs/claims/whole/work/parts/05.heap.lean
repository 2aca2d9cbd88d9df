def up2 {α : Type} (g : Nat → Nat → α) (i j : Nat) (x : α) : Nat → Nat → α := fun a b => if a = i ∧ b = j then x else g a b
theorem up2_s {α : Type} (g : Nat → Nat → α) (i j : Nat) (x : α) : up2 g i j x i j = x := if_pos ⟨rfl, rfl⟩
theorem up2_n {α : Type} (g : Nat → Nat → α) {i j a b : Nat} (x : α) (h : ¬ (a = i ∧ b = j)) : up2 g i j x a b = g a b := if_neg h
theorem rf_mod {κ n : Nat} (h : κ < 64) : rf κ n % 64 = κ := by unfold rf; omega
theorem rf_div {κ n : Nat} (h : κ < 64) : rf κ n / 64 = n := by unfold rf; omega
theorem vl_rf {kd : Nat → Nat} {N κ n : Nat} (hκ : κ < 60) (h : vl kd N (.ref (rf κ n))) : n < N ∧ kd n = κ := by
  rcases h with h | ⟨h, g⟩
  · rw [rf_mod (by omega)] at h
    exact absurd hκ (Nat.not_lt.mpr h)
  · rw [rf_div (by omega)] at h g
    rw [rf_mod (by omega)] at g
    exact ⟨h, g⟩
theorem rf_inj {κ n κ' n' : Nat} (h : κ < 64) (h' : κ' < 64) (e : rf κ n = rf κ' n') : κ = κ' ∧ n = n' := by
  unfold rf at e
  omega
theorem okK_lt {κ : Nat} (h : okK κ) : κ < 60 := by
  rcases h with h | h <;> omega
theorem wsK_get {ad cs kd : Nat → Nat} {fi : FI} {fr : FR} {ai : FI} {ar : FR} {N n : Nat} (h : n < N) : (wsK ad cs kd fi fr ai ar N)[n]? = some (ad (rf (kd n) n), ceK ad cs fi fr ai ar n (kd n)) := by
  unfold wsK
  rw [List.getElem?_map, List.getElem?_range h]
  rfl
theorem wsK_len {ad cs kd : Nat → Nat} {fi : FI} {fr : FR} {ai : FI} {ar : FR} {N : Nat} : (wsK ad cs kd fi fr ai ar N).length = N := by
  unfold wsK
  rw [List.length_map, List.length_range]
theorem wsK_set {ad cs kd : Nat → Nat} {fi fi' : FI} {fr fr' : FR} {ai ai' : FI} {ar ar' : FR} {N n : Nat} {e : va_E} (hn : n < N) (he : ceK ad cs fi' fr' ai' ar' n (kd n) = e) (ho : ∀ j, j < N → j ≠ n → ceK ad cs fi' fr' ai' ar' j (kd j) = ceK ad cs fi fr ai ar j (kd j)) :
    (wsK ad cs kd fi fr ai ar N).set n (ad (rf (kd n) n), e) = wsK ad cs kd fi' fr' ai' ar' N := by
  apply List.ext_getElem?
  intro j
  by_cases hj : j < N
  · rw [wsK_get hj]
    by_cases hjn : n = j
    · subst hjn
      rw [List.getElem?_set_self (by rw [wsK_len]; exact hn), he]
    · rw [List.getElem?_set_ne hjn, wsK_get hj, ho j hj (Ne.symm hjn)]
  · rw [List.getElem?_eq_none (by rw [List.length_set, wsK_len]; omega), List.getElem?_eq_none (by rw [wsK_len]; omega)]
theorem cK_get {κ : Nat} (h : κ < 12) : vwCl[κ]? = some (cK κ) := by
  unfold cK
  rw [List.getD_eq_getElem?_getD]
  have : κ < vwCl.length := h
  rw [List.getElem?_eq_getElem this]
  rfl
theorem lenK_lt (κ : Nat) : lenK κ < 2 ^ 31 := by
  unfold lenK
  split <;> decide
theorem cK_own : ∀ κ, κ < 12 → ∀ k, k < (cK κ).2.2 → ((cK κ).2.1 k).1 = (cK κ).1 := by decide +kernel
theorem cK_ty : ∀ κ, κ < 12 → ∀ k, k < (cK κ).2.2 → parseFieldDescriptor ((cK κ).2.1 k).2.2.1 = some (tyK κ k) := by decide +kernel
theorem cK_nm : ∀ κ, κ < 12 → ∀ a, a < (cK κ).2.2 → ∀ b, b < (cK κ).2.2 → a ≠ b → ((cK κ).2.1 a).2.1 ≠ ((cK κ).2.1 b).2.1 := by decide +kernel
theorem cK_ws : ∀ κ, κ < 12 → ((u_ws (cK κ).1 (cK κ).2.1 (cK κ).2.2).all (fun w => decide (w ∈ lw_tbl) && goodWord w)) = true := by decide +kernel
theorem cK_in {κ : Nat} (h : κ < 12) : ∀ w ∈ u_ws (cK κ).1 (cK κ).2.1 (cK κ).2.2, w ∈ gw := by
  intro w hw
  have := List.all_eq_true.mp (cK_ws κ h) w hw
  rw [Bool.and_eq_true] at this
  exact gw_mem (of_decide_eq_true this.1) this.2
/-- getfield, putfield: the pool's entry i of the class own is field k of class κ -/
def FLK (own : String) (i κ k : Nat) : Prop := κ < 12 ∧ k < (cK κ).2.2 ∧ Cond.fieldLink own i (cK κ).1 ((cK κ).2.1 k).2.1 ((cK κ).2.1 k).2.2.1 ∈ gw
theorem ceK_o {ad cs : Nat → Nat} {fi : FI} {fr : FR} {ai : FI} {ar : FR} {n κ : Nat} (h : κ < 12) : ceK ad cs fi fr ai ar n κ = .inr (κ, (List.range (cK κ).2.2).map (fvK ad fi fr κ (rf κ n))) := if_pos (by omega)
theorem ceK_i {ad cs : Nat → Nat} {fi : FI} {fr : FR} {ai : FI} {ar : FR} {n κ : Nat} (h : 16 ≤ κ) (g : isR (elK κ) = false) : ceK ad cs fi fr ai ar n κ = .inl (cs n, lenK κ, .inl (ai (rf κ n))) := by
  unfold ceK
  rw [if_neg (by omega), if_neg (by rw [g]; decide)]
theorem ceK_q {ad cs : Nat → Nat} {fi : FI} {fr : FR} {ai : FI} {ar : FR} {n κ : Nat} (h : 16 ≤ κ) (g : isR (elK κ) = true) : ceK ad cs fi fr ai ar n κ = .inl (cs n, lenK κ, .inr (.inr (.inr (.inr (fun i => (ar (rf κ n) i).map ad))))) := by
  unfold ceK
  rw [if_neg (by omega), if_pos g]
theorem fv_get {ad : Nat → Nat} {fi : FI} {fr : FR} {κ a k n : Nat} (h : k < n) : ((List.range n).map (fvK ad fi fr κ a))[k]? = some (fvK ad fi fr κ a k) := by
  rw [List.getElem?_map, List.getElem?_range h]
  rfl
theorem HR_K {D : va_G} {s : State} {A : Nat → Prop} {H : Heap} {ad cs kd : Nat → Nat} {fi : FI} {fr : FR} {ai : FI} {ar : FR} {N : Nat} (h : HR D s A H ad cs kd fi fr ai ar N) : va_K D vwCl [] s := ⟨h.1, fun k q hk => by simp at hk⟩
theorem HR_Kn {D : va_G} {s : State} {A : Nat → Prop} {H : Heap} {ad cs kd : Nat → Nat} {fi : FI} {fr : FR} {ai : FI} {ar : FR} {N n : Nat} (h : HR D s A H ad cs kd fi fr ai ar N) (hn : n < N) (g : 16 ≤ kd n) : va_K D vwCl [(cs n, elK (kd n))] s := ⟨h.1, fun k q hk => by
  have hz : k < 1 := (List.getElem?_eq_some_iff.mp hk).1
  rw [show k = 0 by omega] at hk
  cases hk
  exact h.2.1 n hn g⟩
theorem fs_set {ad : Nat → Nat} {fi fi' : FI} {fr fr' : FR} {κ a k n : Nat} {v : Value} (hk : k < n) (he : fvK ad fi' fr' κ a k = v) (ho : ∀ j, j < n → j ≠ k → fvK ad fi' fr' κ a j = fvK ad fi fr κ a j) :
    ((List.range n).map (fvK ad fi fr κ a)).set k v = (List.range n).map (fvK ad fi' fr' κ a) := by
  apply List.ext_getElem?
  intro j
  by_cases hj : j < n
  · rw [fv_get hj]
    by_cases hjk : k = j
    · subst hjk
      rw [List.getElem?_set_self (by simpa using hk), he]
    · rw [List.getElem?_set_ne hjk, fv_get hj, ho j hj (Ne.symm hjk)]
  · rw [List.getElem?_eq_none (by simp; omega), List.getElem?_eq_none (by simp; omega)]
theorem e_getI {M : MD} {d k z pc : Nat} {ls : List (Option Value)} {st : List Value} {fi : FI} {fr : FR} {ai : FI} {ar : FR} {N : Nat} {Q : EQ} {i κ f n : Nat} (hd : decode M.2.1 pc = .ok (.getfield i, 3)) (hf : FLK M.1.cls i κ f) (hr : isR (tyK κ f) = false)
    (kk : EV M d k z (pc + 3) ls (.int (fi (32 * κ + f) (rf κ n)) :: st) fi fr ai ar N Q) : EV M d k z pc ls (.ref (rf κ n) :: st) fi fr ai ar N Q := by
  intro p l e R s m args below meth c A D ad0 kd0 N0 Q' H locs cells slots ad cs kd lr C T h1 h2 hS hR hE hX hT hv hl
  obtain ⟨h12, hk, hw⟩ := hf
  obtain ⟨hn, hkd⟩ := vl_rf (by omega) (vl_hd hv)
  have hg := wsK_get (ad := ad) (cs := cs) (kd := kd) (fi := fi) (fr := fr) (ai := ai) (ar := ar) hn
  rw [hkd, ceK_o h12] at hg
  refine va_get C.1 C.2.1 C.2.2.2.2.2.1 (cK_in h12) C.2.2.2.2.1 (HR_K hR) hR.2.2.1 n hg (cK_get h12) f hk (C.2.2.2.2.2.1 _ hw) (fun x hx => by rw [cK_own κ h12 f hk] at hx; exact hx) (v := .int (fi (32 * κ + f) (rf κ n))) (by rw [fv_get hk]; unfold fvK; rw [hr]; rfl) hd ?_
  exact kk p l e R s m args below meth c A D ad0 kd0 N0 Q' H locs cells slots ad cs kd lr C T h1 h2 hS hR hE hX hT (vl_pu trivial (vl_dr hv)) hl
theorem e_getR {M : MD} {d k z pc : Nat} {ls : List (Option Value)} {st : List Value} {fi : FI} {fr : FR} {ai : FI} {ar : FR} {N : Nat} {Q : EQ} {i κ f n b : Nat} (hd : decode M.2.1 pc = .ok (.getfield i, 3)) (hf : FLK M.1.cls i κ f) (hr : isR (tyK κ f) = true) (hb : fr (32 * κ + f) (rf κ n) = some b)
    (kk : EV M d k z (pc + 3) ls (.ref b :: st) fi fr ai ar N Q) : EV M d k z pc ls (.ref (rf κ n) :: st) fi fr ai ar N Q := by
  intro p l e R s m args below meth c A D ad0 kd0 N0 Q' H locs cells slots ad cs kd lr C T h1 h2 hS hR hE hX hT hv hl
  obtain ⟨h12, hk, hw⟩ := hf
  obtain ⟨hn, hkd⟩ := vl_rf (by omega) (vl_hd hv)
  have hg := wsK_get (ad := ad) (cs := cs) (kd := kd) (fi := fi) (fr := fr) (ai := ai) (ar := ar) hn
  rw [hkd, ceK_o h12] at hg
  refine va_get C.1 C.2.1 C.2.2.2.2.2.1 (cK_in h12) C.2.2.2.2.1 (HR_K hR) hR.2.2.1 n hg (cK_get h12) f hk (C.2.2.2.2.2.1 _ hw) (fun x hx => by rw [cK_own κ h12 f hk] at hx; exact hx) (v := .ref (ad b)) (by rw [fv_get hk]; unfold fvK; rw [hr, hb]; rfl) hd ?_
  exact kk p l e R s m args below meth c A D ad0 kd0 N0 Q' H locs cells slots ad cs kd lr C T h1 h2 hS hR hE hX hT (vl_pu (hR.2.2.2.2.2.1 _ _ _ hb) (vl_dr hv)) hl
theorem e_getN {M : MD} {d k z pc : Nat} {ls : List (Option Value)} {st : List Value} {fi : FI} {fr : FR} {ai : FI} {ar : FR} {N : Nat} {Q : EQ} {i κ f n : Nat} (hd : decode M.2.1 pc = .ok (.getfield i, 3)) (hf : FLK M.1.cls i κ f) (hr : isR (tyK κ f) = true) (hb : fr (32 * κ + f) (rf κ n) = none)
    (kk : EV M d k z (pc + 3) ls (.null :: st) fi fr ai ar N Q) : EV M d k z pc ls (.ref (rf κ n) :: st) fi fr ai ar N Q := by
  intro p l e R s m args below meth c A D ad0 kd0 N0 Q' H locs cells slots ad cs kd lr C T h1 h2 hS hR hE hX hT hv hl
  obtain ⟨h12, hk, hw⟩ := hf
  obtain ⟨hn, hkd⟩ := vl_rf (by omega) (vl_hd hv)
  have hg := wsK_get (ad := ad) (cs := cs) (kd := kd) (fi := fi) (fr := fr) (ai := ai) (ar := ar) hn
  rw [hkd, ceK_o h12] at hg
  refine va_get C.1 C.2.1 C.2.2.2.2.2.1 (cK_in h12) C.2.2.2.2.1 (HR_K hR) hR.2.2.1 n hg (cK_get h12) f hk (C.2.2.2.2.2.1 _ hw) (fun x hx => by rw [cK_own κ h12 f hk] at hx; exact hx) (v := .null) (by rw [fv_get hk]; unfold fvK; rw [hr, hb]; rfl) hd ?_
  exact kk p l e R s m args below meth c A D ad0 kd0 N0 Q' H locs cells slots ad cs kd lr C T h1 h2 hS hR hE hX hT (vl_pu trivial (vl_dr hv)) hl
/-- an int or boolean field is written: what it does to the relation -/
theorem HR_putI {D : va_G} {s : State} {A : Nat → Prop} {H H1 : Heap} {ad cs kd : Nat → Nat} {fi : FI} {fr : FR} {ai : FI} {ar : FR} {N n κ f : Nat} {x : Int32} (h : HR D s A H ad cs kd fi fr ai ar N) (hn : n < N) (hkd : kd n = κ) (h12 : κ < 12) (hk : f < (cK κ).2.2) (hr : isR (tyK κ f) = false)
    (hP : va_P D vwCl ((wsK ad cs kd fi fr ai ar N).set n (ad (rf κ n), .inr (κ, ((List.range (cK κ).2.2).map (fvK ad fi fr κ (rf κ n))).set f (.int x)))) H1) (hD : va_D A ((wsK ad cs kd fi fr ai ar N).set n (ad (rf κ n), .inr (κ, ((List.range (cK κ).2.2).map (fvK ad fi fr κ (rf κ n))).set f (.int x))))) :
    HR D s A H1 ad cs kd (up2 fi (32 * κ + f) (rf κ n) x) fr ai ar N := by
  have e1 : ((List.range (cK κ).2.2).map (fvK ad fi fr κ (rf κ n))).set f (.int x) = (List.range (cK κ).2.2).map (fvK ad (up2 fi (32 * κ + f) (rf κ n) x) fr κ (rf κ n)) := by
    refine fs_set hk ?_ (fun j hj hjf => ?_)
    · unfold fvK
      rw [hr, up2_s]
      rfl
    · unfold fvK
      rw [up2_n _ _ (by omega)]
  have e2 : (wsK ad cs kd fi fr ai ar N).set n (ad (rf κ n), .inr (κ, ((List.range (cK κ).2.2).map (fvK ad fi fr κ (rf κ n))).set f (.int x))) = wsK ad cs kd (up2 fi (32 * κ + f) (rf κ n) x) fr ai ar N := by
    subst hkd
    refine wsK_set hn ?_ (fun j hj hjn => ?_)
    · rw [ceK_o h12, e1]
    · unfold ceK
      split
      · congr 3
        funext q
        unfold fvK
        rw [up2_n _ _ (fun hq => hjn (rf_inj (Nat.lt_of_lt_of_le (okK_lt (h.2.2.2.2.1 j hj)) (by decide)) (by omega) hq.2).2)]
      · rfl
  rw [e2] at hP hD
  refine ⟨h.1, h.2.1, hP, hD, h.2.2.2.2.1, h.2.2.2.2.2.1, h.2.2.2.2.2.2.1, fun a ha => ⟨fun g => ⟨?_, ((h.2.2.2.2.2.2.2 a ha).1 g).2⟩, (h.2.2.2.2.2.2.2 a ha).2⟩⟩
  rw [up2_n _ _ (fun hq => by rw [hq.2, rf_div (by omega)] at ha; omega)]
  exact ((h.2.2.2.2.2.2.2 a ha).1 g).1
theorem HR_putR {D : va_G} {s : State} {A : Nat → Prop} {H H1 : Heap} {ad cs kd : Nat → Nat} {fi : FI} {fr : FR} {ai : FI} {ar : FR} {N n κ f : Nat} {x : Option Nat} (h : HR D s A H ad cs kd fi fr ai ar N) (hn : n < N) (hkd : kd n = κ) (h12 : κ < 12) (hk : f < (cK κ).2.2) (hr : isR (tyK κ f) = true) (hx : ∀ b, x = some b → vl kd N (.ref b))
    (hP : va_P D vwCl ((wsK ad cs kd fi fr ai ar N).set n (ad (rf κ n), .inr (κ, ((List.range (cK κ).2.2).map (fvK ad fi fr κ (rf κ n))).set f (va_rf (x.map ad))))) H1) (hD : va_D A ((wsK ad cs kd fi fr ai ar N).set n (ad (rf κ n), .inr (κ, ((List.range (cK κ).2.2).map (fvK ad fi fr κ (rf κ n))).set f (va_rf (x.map ad)))))) :
    HR D s A H1 ad cs kd fi (up2 fr (32 * κ + f) (rf κ n) x) ai ar N := by
  have e1 : ((List.range (cK κ).2.2).map (fvK ad fi fr κ (rf κ n))).set f (va_rf (x.map ad)) = (List.range (cK κ).2.2).map (fvK ad fi (up2 fr (32 * κ + f) (rf κ n) x) κ (rf κ n)) := by
    refine fs_set hk ?_ (fun j hj hjf => ?_)
    · unfold fvK
      rw [hr, up2_s]
      rfl
    · unfold fvK
      rw [up2_n _ _ (by omega)]
  have e2 : (wsK ad cs kd fi fr ai ar N).set n (ad (rf κ n), .inr (κ, ((List.range (cK κ).2.2).map (fvK ad fi fr κ (rf κ n))).set f (va_rf (x.map ad)))) = wsK ad cs kd fi (up2 fr (32 * κ + f) (rf κ n) x) ai ar N := by
    subst hkd
    refine wsK_set hn ?_ (fun j hj hjn => ?_)
    · rw [ceK_o h12, e1]
    · unfold ceK
      split
      · congr 3
        funext q
        unfold fvK
        rw [up2_n _ _ (fun hq => hjn (rf_inj (Nat.lt_of_lt_of_le (okK_lt (h.2.2.2.2.1 j hj)) (by decide)) (by omega) hq.2).2)]
      · rfl
  rw [e2] at hP hD
  refine ⟨h.1, h.2.1, hP, hD, h.2.2.2.2.1, fun g a b hb => ?_, h.2.2.2.2.2.2.1, fun a ha => ⟨fun g => ⟨((h.2.2.2.2.2.2.2 a ha).1 g).1, ?_⟩, (h.2.2.2.2.2.2.2 a ha).2⟩⟩
  · unfold up2 at hb
    split at hb
    · exact hx b hb
    · exact h.2.2.2.2.2.1 g a b hb
  · rw [up2_n _ _ (fun hq => by rw [hq.2, rf_div (by omega)] at ha; omega)]
    exact ((h.2.2.2.2.2.2.2 a ha).1 g).2
theorem e_putI {M : MD} {d k z pc : Nat} {ls : List (Option Value)} {st : List Value} {fi : FI} {fr : FR} {ai : FI} {ar : FR} {N : Nat} {Q : EQ} {i κ f n : Nat} {x : Int32} (hd : decode M.2.1 pc = .ok (.putfield i, 3)) (hf : FLK M.1.cls i κ f) (hr : isR (tyK κ f) = false) (hfin : ((cK κ).2.1 f).2.2.2 = false) (hn : narrow (tyK κ f) (.int x) = .int x) (hfit : fits (tyK κ f) (.int x) = true)
    (kk : EV M d k z (pc + 3) ls st (up2 fi (32 * κ + f) (rf κ n) x) fr ai ar N Q) : EV M d k z pc ls (.int x :: .ref (rf κ n) :: st) fi fr ai ar N Q := by
  intro p l e R s m args below meth c A D ad0 kd0 N0 Q' H locs cells slots ad cs kd lr C T h1 h2 hS hR hE hX hT hv hl
  obtain ⟨h12, hk, hw⟩ := hf
  obtain ⟨hnN, hkd⟩ := vl_rf (by omega) (vl_hd (vl_dr hv))
  have hg := wsK_get (ad := ad) (cs := cs) (kd := kd) (fi := fi) (fr := fr) (ai := ai) (ar := ar) hnN
  rw [hkd, ceK_o h12] at hg
  refine va_put C.1 C.2.1 C.2.2.2.2.2.1 (cK_in h12) (tyK κ) (cK_ty κ h12) (cK_nm κ h12) C.2.2.2.2.1 (HR_K hR) hR.2.2.1 hR.2.2.2.1 hS n hg (cK_get h12) f hk (C.2.2.2.2.2.1 _ hw) (fun x hx => by rw [cK_own κ h12 f hk] at hx; exact hx) hfin (v := .int x) (cK_ty κ h12 f hk) hn hfit (by simpa using hk) hd (fun H1 locs1 hP hD hS => ?_)
  exact kk p l e R s m args below meth c A D ad0 kd0 N0 Q' H1 locs1 cells slots ad cs kd lr C T h1 h2 hS (HR_putI hR hnN hkd h12 hk hr hP hD) hE hX hT (vl_dr (vl_dr hv)) hl
theorem e_putIF {M : MD} {d k z pc : Nat} {ls : List (Option Value)} {st : List Value} {fi : FI} {fr : FR} {ai : FI} {ar : FR} {N : Nat} {Q : EQ} {i κ f n : Nat} {x : Int32} (hd : decode M.2.1 pc = .ok (.putfield i, 3)) (hf : FLK M.1.cls i κ f) (hr : isR (tyK κ f) = false) (hfin : ((cK κ).2.1 f).2.2.2 = true) (hni : M.1.name = "<init>") (hoo : (cK κ).1 = M.1.cls) (hn : narrow (tyK κ f) (.int x) = .int x) (hfit : fits (tyK κ f) (.int x) = true)
    (kk : EV M d k z (pc + 3) ls st (up2 fi (32 * κ + f) (rf κ n) x) fr ai ar N Q) : EV M d k z pc ls (.int x :: .ref (rf κ n) :: st) fi fr ai ar N Q := by
  intro p l e R s m args below meth c A D ad0 kd0 N0 Q' H locs cells slots ad cs kd lr C T h1 h2 hS hR hE hX hT hv hl
  obtain ⟨h12, hk, hw⟩ := hf
  obtain ⟨hnN, hkd⟩ := vl_rf (by omega) (vl_hd (vl_dr hv))
  have hg := wsK_get (ad := ad) (cs := cs) (kd := kd) (fi := fi) (fr := fr) (ai := ai) (ar := ar) hnN
  rw [hkd, ceK_o h12] at hg
  refine va_putF C.1 C.2.1 C.2.2.2.2.2.1 (cK_in h12) (tyK κ) (cK_ty κ h12) (cK_nm κ h12) C.2.2.2.2.1 (HR_K hR) hR.2.2.1 hR.2.2.2.1 hS n hg (cK_get h12) f hk (C.2.2.2.2.2.1 _ hw) (fun x hx => by rw [cK_own κ h12 f hk] at hx; exact hx) hfin (C.2.2.2.2.2.2.2.1 hni) ((cK_own κ h12 f hk).trans hoo) (v := .int x) (cK_ty κ h12 f hk) hn hfit (by simpa using hk) hd (fun H1 locs1 hP hD hS => ?_)
  exact kk p l e R s m args below meth c A D ad0 kd0 N0 Q' H1 locs1 cells slots ad cs kd lr C T h1 h2 hS (HR_putI hR hnN hkd h12 hk hr hP hD) hE hX hT (vl_dr (vl_dr hv)) hl
theorem isR_fit {ty : FieldType} (h : isR ty = true) (a : Nat) : narrow ty (.ref a) = .ref a ∧ fits ty (.ref a) = true ∧ narrow ty .null = .null ∧ fits ty .null = true := by
  cases ty <;> first | (exact absurd h (by decide)) | exact ⟨rfl, rfl, rfl, rfl⟩
theorem e_putRF {M : MD} {d k z pc : Nat} {ls : List (Option Value)} {st : List Value} {fi : FI} {fr : FR} {ai : FI} {ar : FR} {N : Nat} {Q : EQ} {i κ f n b : Nat} (hd : decode M.2.1 pc = .ok (.putfield i, 3)) (hf : FLK M.1.cls i κ f) (hr : isR (tyK κ f) = true) (hfin : ((cK κ).2.1 f).2.2.2 = true) (hni : M.1.name = "<init>") (hoo : (cK κ).1 = M.1.cls)
    (kk : EV M d k z (pc + 3) ls st fi (up2 fr (32 * κ + f) (rf κ n) (some b)) ai ar N Q) : EV M d k z pc ls (.ref b :: .ref (rf κ n) :: st) fi fr ai ar N Q := by
  intro p l e R s m args below meth c A D ad0 kd0 N0 Q' H locs cells slots ad cs kd lr C T h1 h2 hS hR hE hX hT hv hl
  obtain ⟨h12, hk, hw⟩ := hf
  obtain ⟨hnN, hkd⟩ := vl_rf (by omega) (vl_hd (vl_dr hv))
  have hg := wsK_get (ad := ad) (cs := cs) (kd := kd) (fi := fi) (fr := fr) (ai := ai) (ar := ar) hnN
  rw [hkd, ceK_o h12] at hg
  refine va_putF C.1 C.2.1 C.2.2.2.2.2.1 (cK_in h12) (tyK κ) (cK_ty κ h12) (cK_nm κ h12) C.2.2.2.2.1 (HR_K hR) hR.2.2.1 hR.2.2.2.1 hS n hg (cK_get h12) f hk (C.2.2.2.2.2.1 _ hw) (fun x hx => by rw [cK_own κ h12 f hk] at hx; exact hx) hfin (C.2.2.2.2.2.2.2.1 hni) ((cK_own κ h12 f hk).trans hoo) (v := .ref (ad b)) (cK_ty κ h12 f hk) (isR_fit hr _).1 (isR_fit hr _).2.1 (by simpa using hk) hd (fun H1 locs1 hP hD hS => ?_)
  exact kk p l e R s m args below meth c A D ad0 kd0 N0 Q' H1 locs1 cells slots ad cs kd lr C T h1 h2 hS (HR_putR (x := some b) hR hnN hkd h12 hk hr (fun b' hb' => by obtain rfl := Option.some.inj hb'; exact vl_hd hv) hP hD) hE hX hT (vl_dr (vl_dr hv)) hl
theorem e_putR {M : MD} {d k z pc : Nat} {ls : List (Option Value)} {st : List Value} {fi : FI} {fr : FR} {ai : FI} {ar : FR} {N : Nat} {Q : EQ} {i κ f n b : Nat} (hd : decode M.2.1 pc = .ok (.putfield i, 3)) (hf : FLK M.1.cls i κ f) (hr : isR (tyK κ f) = true) (hfin : ((cK κ).2.1 f).2.2.2 = false)
    (kk : EV M d k z (pc + 3) ls st fi (up2 fr (32 * κ + f) (rf κ n) (some b)) ai ar N Q) : EV M d k z pc ls (.ref b :: .ref (rf κ n) :: st) fi fr ai ar N Q := by
  intro p l e R s m args below meth c A D ad0 kd0 N0 Q' H locs cells slots ad cs kd lr C T h1 h2 hS hR hE hX hT hv hl
  obtain ⟨h12, hk, hw⟩ := hf
  obtain ⟨hnN, hkd⟩ := vl_rf (by omega) (vl_hd (vl_dr hv))
  have hg := wsK_get (ad := ad) (cs := cs) (kd := kd) (fi := fi) (fr := fr) (ai := ai) (ar := ar) hnN
  rw [hkd, ceK_o h12] at hg
  refine va_put C.1 C.2.1 C.2.2.2.2.2.1 (cK_in h12) (tyK κ) (cK_ty κ h12) (cK_nm κ h12) C.2.2.2.2.1 (HR_K hR) hR.2.2.1 hR.2.2.2.1 hS n hg (cK_get h12) f hk (C.2.2.2.2.2.1 _ hw) (fun x hx => by rw [cK_own κ h12 f hk] at hx; exact hx) hfin (v := .ref (ad b)) (cK_ty κ h12 f hk) (isR_fit hr _).1 (isR_fit hr _).2.1 (by simpa using hk) hd (fun H1 locs1 hP hD hS => ?_)
  exact kk p l e R s m args below meth c A D ad0 kd0 N0 Q' H1 locs1 cells slots ad cs kd lr C T h1 h2 hS (HR_putR (x := some b) hR hnN hkd h12 hk hr (fun b' hb' => by obtain rfl := Option.some.inj hb'; exact vl_hd hv) hP hD) hE hX hT (vl_dr (vl_dr hv)) hl
theorem e_putN {M : MD} {d k z pc : Nat} {ls : List (Option Value)} {st : List Value} {fi : FI} {fr : FR} {ai : FI} {ar : FR} {N : Nat} {Q : EQ} {i κ f n : Nat} (hd : decode M.2.1 pc = .ok (.putfield i, 3)) (hf : FLK M.1.cls i κ f) (hr : isR (tyK κ f) = true) (hfin : ((cK κ).2.1 f).2.2.2 = false)
    (kk : EV M d k z (pc + 3) ls st fi (up2 fr (32 * κ + f) (rf κ n) none) ai ar N Q) : EV M d k z pc ls (.null :: .ref (rf κ n) :: st) fi fr ai ar N Q := by
  intro p l e R s m args below meth c A D ad0 kd0 N0 Q' H locs cells slots ad cs kd lr C T h1 h2 hS hR hE hX hT hv hl
  obtain ⟨h12, hk, hw⟩ := hf
  obtain ⟨hnN, hkd⟩ := vl_rf (by omega) (vl_hd (vl_dr hv))
  have hg := wsK_get (ad := ad) (cs := cs) (kd := kd) (fi := fi) (fr := fr) (ai := ai) (ar := ar) hnN
  rw [hkd, ceK_o h12] at hg
  refine va_put C.1 C.2.1 C.2.2.2.2.2.1 (cK_in h12) (tyK κ) (cK_ty κ h12) (cK_nm κ h12) C.2.2.2.2.1 (HR_K hR) hR.2.2.1 hR.2.2.2.1 hS n hg (cK_get h12) f hk (C.2.2.2.2.2.1 _ hw) (fun x hx => by rw [cK_own κ h12 f hk] at hx; exact hx) hfin (v := .null) (cK_ty κ h12 f hk) (isR_fit hr 0).2.2.1 (isR_fit hr 0).2.2.2 (by simpa using hk) hd (fun H1 locs1 hP hD hS => ?_)
  exact kk p l e R s m args below meth c A D ad0 kd0 N0 Q' H1 locs1 cells slots ad cs kd lr C T h1 h2 hS (HR_putR (x := none) hR hnN hkd h12 hk hr (fun b' hb' => by cases hb') hP hD) hE hX hT (vl_dr (vl_dr hv)) hl
theorem e_iald {M : MD} {d k z pc : Nat} {ls : List (Option Value)} {st : List Value} {fi : FI} {fr : FR} {ai : FI} {ar : FR} {N : Nat} {Q : EQ} {κ n : Nat} {i : Int32} (j : Nat) (hd : decode M.2.1 pc = .ok (.iaload, 1)) (h16 : 16 ≤ κ ∧ κ < 37) (he : elK κ = .int) (hi : i = nI j) (hj : j < lenK κ)
    (kk : EV M d k z (pc + 1) ls (.int (ai (rf κ n) j) :: st) fi fr ai ar N Q) : EV M d k z pc ls (.int i :: .ref (rf κ n) :: st) fi fr ai ar N Q := by
  intro p l e R s m args below meth c A D ad0 kd0 N0 Q' H locs cells slots ad cs kd lr C T h1 h2 hS hR hE hX hT hv hl
  obtain ⟨hn, hkd⟩ := vl_rf (by omega) (vl_hd (vl_dr hv))
  have hg := wsK_get (ad := ad) (cs := cs) (kd := kd) (fi := fi) (fr := fr) (ai := ai) (ar := ar) hn
  have hK := HR_Kn hR hn (by omega)
  rw [hkd] at hg hK
  rw [ceK_i h16.1 (by rw [he]; rfl)] at hg
  rw [he] at hK
  subst hi
  have hb := Nat.lt_trans hj (lenK_lt κ)
  refine va_iald C.1 C.2.1 hK hR.2.2.1 n 0 hg rfl (vp_in_nI hj (lenK_lt κ)) hd ?_
  rw [nI_clamp hb]
  exact kk p l e R s m args below meth c A D ad0 kd0 N0 Q' H locs cells slots ad cs kd lr C T h1 h2 hS hR hE hX hT (vl_pu trivial (vl_dr (vl_dr hv))) hl
theorem e_zald {M : MD} {d k z pc : Nat} {ls : List (Option Value)} {st : List Value} {fi : FI} {fr : FR} {ai : FI} {ar : FR} {N : Nat} {Q : EQ} {κ n : Nat} {i : Int32} (j : Nat) (hd : decode M.2.1 pc = .ok (.baload, 1)) (h16 : 16 ≤ κ ∧ κ < 37) (he : elK κ = .boolean) (hi : i = nI j) (hj : j < lenK κ)
    (kk : EV M d k z (pc + 1) ls (.int (ai (rf κ n) j) :: st) fi fr ai ar N Q) : EV M d k z pc ls (.int i :: .ref (rf κ n) :: st) fi fr ai ar N Q := by
  intro p l e R s m args below meth c A D ad0 kd0 N0 Q' H locs cells slots ad cs kd lr C T h1 h2 hS hR hE hX hT hv hl
  obtain ⟨hn, hkd⟩ := vl_rf (by omega) (vl_hd (vl_dr hv))
  have hg := wsK_get (ad := ad) (cs := cs) (kd := kd) (fi := fi) (fr := fr) (ai := ai) (ar := ar) hn
  have hK := HR_Kn hR hn (by omega)
  rw [hkd] at hg hK
  rw [ceK_i h16.1 (by rw [he]; rfl)] at hg
  rw [he] at hK
  subst hi
  have hb := Nat.lt_trans hj (lenK_lt κ)
  refine va_zald C.1 C.2.1 hK hR.2.2.1 n 0 hg rfl (vp_in_nI hj (lenK_lt κ)) hd ?_
  rw [nI_clamp hb]
  exact kk p l e R s m args below meth c A D ad0 kd0 N0 Q' H locs cells slots ad cs kd lr C T h1 h2 hS hR hE hX hT (vl_pu trivial (vl_dr (vl_dr hv))) hl
theorem e_bald {M : MD} {d k z pc : Nat} {ls : List (Option Value)} {st : List Value} {fi : FI} {fr : FR} {ai : FI} {ar : FR} {N : Nat} {Q : EQ} {κ n : Nat} {i : Int32} (j : Nat) (hd : decode M.2.1 pc = .ok (.baload, 1)) (h16 : 16 ≤ κ ∧ κ < 37) (he : elK κ = .byte) (hi : i = nI j) (hj : j < lenK κ)
    (kk : EV M d k z (pc + 1) ls (.int (ai (rf κ n) j) :: st) fi fr ai ar N Q) : EV M d k z pc ls (.int i :: .ref (rf κ n) :: st) fi fr ai ar N Q := by
  intro p l e R s m args below meth c A D ad0 kd0 N0 Q' H locs cells slots ad cs kd lr C T h1 h2 hS hR hE hX hT hv hl
  obtain ⟨hn, hkd⟩ := vl_rf (by omega) (vl_hd (vl_dr hv))
  have hg := wsK_get (ad := ad) (cs := cs) (kd := kd) (fi := fi) (fr := fr) (ai := ai) (ar := ar) hn
  have hK := HR_Kn hR hn (by omega)
  rw [hkd] at hg hK
  rw [ceK_i h16.1 (by rw [he]; rfl)] at hg
  rw [he] at hK
  subst hi
  have hb := Nat.lt_trans hj (lenK_lt κ)
  refine va_bald C.1 C.2.1 hK hR.2.2.1 n 0 hg rfl (vp_in_nI hj (lenK_lt κ)) hd ?_
  rw [nI_clamp hb]
  exact kk p l e R s m args below meth c A D ad0 kd0 N0 Q' H locs cells slots ad cs kd lr C T h1 h2 hS hR hE hX hT (vl_pu trivial (vl_dr (vl_dr hv))) hl
theorem e_cald {M : MD} {d k z pc : Nat} {ls : List (Option Value)} {st : List Value} {fi : FI} {fr : FR} {ai : FI} {ar : FR} {N : Nat} {Q : EQ} {κ n : Nat} {i : Int32} (j : Nat) (hd : decode M.2.1 pc = .ok (.caload, 1)) (h16 : 16 ≤ κ ∧ κ < 37) (he : elK κ = .char) (hi : i = nI j) (hj : j < lenK κ)
    (kk : EV M d k z (pc + 1) ls (.int (ai (rf κ n) j) :: st) fi fr ai ar N Q) : EV M d k z pc ls (.int i :: .ref (rf κ n) :: st) fi fr ai ar N Q := by
  intro p l e R s m args below meth c A D ad0 kd0 N0 Q' H locs cells slots ad cs kd lr C T h1 h2 hS hR hE hX hT hv hl
  obtain ⟨hn, hkd⟩ := vl_rf (by omega) (vl_hd (vl_dr hv))
  have hg := wsK_get (ad := ad) (cs := cs) (kd := kd) (fi := fi) (fr := fr) (ai := ai) (ar := ar) hn
  have hK := HR_Kn hR hn (by omega)
  rw [hkd] at hg hK
  rw [ceK_i h16.1 (by rw [he]; rfl)] at hg
  rw [he] at hK
  subst hi
  have hb := Nat.lt_trans hj (lenK_lt κ)
  refine va_cald C.1 C.2.1 hK hR.2.2.1 n 0 hg rfl (vp_in_nI hj (lenK_lt κ)) hd ?_
  rw [nI_clamp hb]
  exact kk p l e R s m args below meth c A D ad0 kd0 N0 Q' H locs cells slots ad cs kd lr C T h1 h2 hS hR hE hX hT (vl_pu trivial (vl_dr (vl_dr hv))) hl
theorem e_alen {M : MD} {d k z pc : Nat} {ls : List (Option Value)} {st : List Value} {fi : FI} {fr : FR} {ai : FI} {ar : FR} {N : Nat} {Q : EQ} {κ n : Nat} (hd : decode M.2.1 pc = .ok (.arraylength, 1)) (h16 : 16 ≤ κ ∧ κ < 37) (he : isR (elK κ) = false)
    (kk : EV M d k z (pc + 1) ls (.int (nI (lenK κ)) :: st) fi fr ai ar N Q) : EV M d k z pc ls (.ref (rf κ n) :: st) fi fr ai ar N Q := by
  intro p l e R s m args below meth c A D ad0 kd0 N0 Q' H locs cells slots ad cs kd lr C T h1 h2 hS hR hE hX hT hv hl
  obtain ⟨hn, hkd⟩ := vl_rf (by omega) (vl_hd hv)
  have hg := wsK_get (ad := ad) (cs := cs) (kd := kd) (fi := fi) (fr := fr) (ai := ai) (ar := ar) hn
  have hK := HR_Kn hR hn (by omega)
  rw [hkd] at hg hK
  rw [ceK_i h16.1 he] at hg
  refine va_alen C.1 C.2.1 hK hR.2.2.1 n 0 hg rfl (v := nI (lenK κ)) rfl hd ?_
  exact kk p l e R s m args below meth c A D ad0 kd0 N0 Q' H locs cells slots ad cs kd lr C T h1 h2 hS hR hE hX hT (vl_pu trivial (vl_dr hv)) hl
theorem e_aald {M : MD} {d k z pc : Nat} {ls : List (Option Value)} {st : List Value} {fi : FI} {fr : FR} {ai : FI} {ar : FR} {N : Nat} {Q : EQ} {κ n b : Nat} {i : Int32} {E : String} (j : Nat) (hd : decode M.2.1 pc = .ok (.aaload, 1)) (h16 : 16 ≤ κ ∧ κ < 37) (he : elK κ = .object E) (hi : i = nI j) (hj : j < lenK κ) (hb : ar (rf κ n) j = some b)
    (kk : EV M d k z (pc + 1) ls (.ref b :: st) fi fr ai ar N Q) : EV M d k z pc ls (.int i :: .ref (rf κ n) :: st) fi fr ai ar N Q := by
  intro p l e R s m args below meth c A D ad0 kd0 N0 Q' H locs cells slots ad cs kd lr C T h1 h2 hS hR hE hX hT hv hl
  obtain ⟨hn, hkd⟩ := vl_rf (by omega) (vl_hd (vl_dr hv))
  have hg := wsK_get (ad := ad) (cs := cs) (kd := kd) (fi := fi) (fr := fr) (ai := ai) (ar := ar) hn
  have hK := HR_Kn hR hn (by omega)
  rw [hkd] at hg hK
  rw [ceK_q h16.1 (by rw [he]; rfl)] at hg
  rw [he] at hK
  subst hi
  have hl31 := Nat.lt_trans hj (lenK_lt κ)
  refine va_aldq C.1 C.2.1 hK hR.2.2.1 n 0 hg rfl (vp_in_nI hj (lenK_lt κ)) hd ?_
  rw [nI_clamp hl31, hb]
  exact kk p l e R s m args below meth c A D ad0 kd0 N0 Q' H locs cells slots ad cs kd lr C T h1 h2 hS hR hE hX hT (vl_pu (hR.2.2.2.2.2.2.1 _ _ _ hb) (vl_dr (vl_dr hv))) hl
theorem e_aaldN {M : MD} {d k z pc : Nat} {ls : List (Option Value)} {st : List Value} {fi : FI} {fr : FR} {ai : FI} {ar : FR} {N : Nat} {Q : EQ} {κ n : Nat} {i : Int32} {E : String} (j : Nat) (hd : decode M.2.1 pc = .ok (.aaload, 1)) (h16 : 16 ≤ κ ∧ κ < 37) (he : elK κ = .object E) (hi : i = nI j) (hj : j < lenK κ) (hb : ar (rf κ n) j = none)
    (kk : EV M d k z (pc + 1) ls (.null :: st) fi fr ai ar N Q) : EV M d k z pc ls (.int i :: .ref (rf κ n) :: st) fi fr ai ar N Q := by
  intro p l e R s m args below meth c A D ad0 kd0 N0 Q' H locs cells slots ad cs kd lr C T h1 h2 hS hR hE hX hT hv hl
  obtain ⟨hn, hkd⟩ := vl_rf (by omega) (vl_hd (vl_dr hv))
  have hg := wsK_get (ad := ad) (cs := cs) (kd := kd) (fi := fi) (fr := fr) (ai := ai) (ar := ar) hn
  have hK := HR_Kn hR hn (by omega)
  rw [hkd] at hg hK
  rw [ceK_q h16.1 (by rw [he]; rfl)] at hg
  rw [he] at hK
  subst hi
  have hl31 := Nat.lt_trans hj (lenK_lt κ)
  refine va_aldq C.1 C.2.1 hK hR.2.2.1 n 0 hg rfl (vp_in_nI hj (lenK_lt κ)) hd ?_
  rw [nI_clamp hl31, hb]
  exact kk p l e R s m args below meth c A D ad0 kd0 N0 Q' H locs cells slots ad cs kd lr C T h1 h2 hS hR hE hX hT (vl_pu trivial (vl_dr (vl_dr hv))) hl
/-- an array of ints (bytes, chars, booleans) is written -/
theorem HR_ast {D : va_G} {s : State} {A : Nat → Prop} {H H1 : Heap} {ad cs kd : Nat → Nat} {fi : FI} {fr : FR} {ai ai' : FI} {ar : FR} {N n κ : Nat} (h : HR D s A H ad cs kd fi fr ai ar N) (hn : n < N) (hkd : kd n = κ) (h16 : 16 ≤ κ ∧ κ < 37) (hr : isR (elK κ) = false) (ho : ∀ a, a ≠ rf κ n → ai' a = ai a)
    (hP : va_P D vwCl ((wsK ad cs kd fi fr ai ar N).set n (ad (rf κ n), .inl (cs n, lenK κ, .inl (ai' (rf κ n))))) H1) (hD : va_D A ((wsK ad cs kd fi fr ai ar N).set n (ad (rf κ n), .inl (cs n, lenK κ, .inl (ai' (rf κ n)))))) :
    HR D s A H1 ad cs kd fi fr ai' ar N := by
  have e2 : (wsK ad cs kd fi fr ai ar N).set n (ad (rf κ n), .inl (cs n, lenK κ, .inl (ai' (rf κ n)))) = wsK ad cs kd fi fr ai' ar N := by
    subst hkd
    refine wsK_set hn (ceK_i h16.1 hr) (fun j hj hjn => ?_)
    unfold ceK
    split
    · rfl
    · split
      · rfl
      · rw [ho _ (fun hq => hjn (rf_inj (Nat.lt_of_lt_of_le (okK_lt (h.2.2.2.2.1 j hj)) (by decide)) (by omega) hq).2)]
  rw [e2] at hP hD
  refine ⟨h.1, h.2.1, hP, hD, h.2.2.2.2.1, h.2.2.2.2.2.1, h.2.2.2.2.2.2.1, fun a ha => ⟨(h.2.2.2.2.2.2.2 a ha).1, fun i => ⟨?_, ((h.2.2.2.2.2.2.2 a ha).2 i).2⟩⟩⟩
  rw [ho _ (fun hq => by rw [hq, rf_div (by omega)] at ha; omega)]
  exact ((h.2.2.2.2.2.2.2 a ha).2 i).1
theorem up2_o {α : Type} (g : Nat → Nat → α) {i j : Nat} (x : α) {a : Nat} (h : a ≠ i) : up2 g i j x a = g a := by
  funext b
  exact up2_n _ _ (fun q => h q.1)
theorem up2_at (g : Nat → Nat → Int32) (i j : Nat) (x : Int32) : up2 g i j x i = upd (g i) j x := by
  funext b
  unfold up2 upd
  by_cases h : b = j <;> simp [h]
theorem e_iast {M : MD} {d k z pc : Nat} {ls : List (Option Value)} {st : List Value} {fi : FI} {fr : FR} {ai : FI} {ar : FR} {N : Nat} {Q : EQ} {κ n : Nat} {i x : Int32} (j : Nat) (hd : decode M.2.1 pc = .ok (.iastore, 1)) (h16 : 16 ≤ κ ∧ κ < 37) (he : elK κ = .int) (hi : i = nI j) (hj : j < lenK κ)
    (kk : EV M d k z (pc + 1) ls st fi fr (up2 ai (rf κ n) j x) ar N Q) : EV M d k z pc ls (.int x :: .int i :: .ref (rf κ n) :: st) fi fr ai ar N Q := by
  intro p l e R s m args below meth c A D ad0 kd0 N0 Q' H locs cells slots ad cs kd lr C T h1 h2 hS hR hE hX hT hv hl
  obtain ⟨hn, hkd⟩ := vl_rf (by omega) (vl_hd (vl_dr (vl_dr hv)))
  have hg := wsK_get (ad := ad) (cs := cs) (kd := kd) (fi := fi) (fr := fr) (ai := ai) (ar := ar) hn
  have hK := HR_Kn hR hn (by omega)
  rw [hkd] at hg hK
  rw [ceK_i h16.1 (by rw [he]; rfl)] at hg
  rw [he] at hK
  subst hi
  have hl31 := Nat.lt_trans hj (lenK_lt κ)
  refine va_iast C.1 C.2.1 hK hR.2.2.1 hR.2.2.2.1 hS n 0 hg rfl (vp_in_nI hj (lenK_lt κ)) hd (fun H1 locs1 hP hD hS => ?_)
  rw [nI_clamp hl31, ← up2_at] at hP hD
  exact kk p l e R s m args below meth c A D ad0 kd0 N0 Q' H1 locs1 cells slots ad cs kd lr C T h1 h2 hS (HR_ast hR hn hkd h16 (by rw [he]; rfl) (fun a ha => up2_o _ _ ha) hP hD) hE hX hT (vl_dr (vl_dr (vl_dr hv))) hl
theorem e_zast {M : MD} {d k z pc : Nat} {ls : List (Option Value)} {st : List Value} {fi : FI} {fr : FR} {ai : FI} {ar : FR} {N : Nat} {Q : EQ} {κ n : Nat} {i x : Int32} (j : Nat) (hd : decode M.2.1 pc = .ok (.bastore, 1)) (h16 : 16 ≤ κ ∧ κ < 37) (he : elK κ = .boolean) (hi : i = nI j) (hj : j < lenK κ)
    (kk : EV M d k z (pc + 1) ls st fi fr (up2 ai (rf κ n) j (vp_nar .boolean x)) ar N Q) : EV M d k z pc ls (.int x :: .int i :: .ref (rf κ n) :: st) fi fr ai ar N Q := by
  intro p l e R s m args below meth c A D ad0 kd0 N0 Q' H locs cells slots ad cs kd lr C T h1 h2 hS hR hE hX hT hv hl
  obtain ⟨hn, hkd⟩ := vl_rf (by omega) (vl_hd (vl_dr (vl_dr hv)))
  have hg := wsK_get (ad := ad) (cs := cs) (kd := kd) (fi := fi) (fr := fr) (ai := ai) (ar := ar) hn
  have hK := HR_Kn hR hn (by omega)
  rw [hkd] at hg hK
  rw [ceK_i h16.1 (by rw [he]; rfl)] at hg
  rw [he] at hK
  subst hi
  have hl31 := Nat.lt_trans hj (lenK_lt κ)
  refine va_zast C.1 C.2.1 hK hR.2.2.1 hR.2.2.2.1 hS n 0 hg rfl (vp_in_nI hj (lenK_lt κ)) hd (fun H1 locs1 hP hD hS => ?_)
  rw [nI_clamp hl31, ← up2_at] at hP hD
  exact kk p l e R s m args below meth c A D ad0 kd0 N0 Q' H1 locs1 cells slots ad cs kd lr C T h1 h2 hS (HR_ast hR hn hkd h16 (by rw [he]; rfl) (fun a ha => up2_o _ _ ha) hP hD) hE hX hT (vl_dr (vl_dr (vl_dr hv))) hl
theorem e_bast {M : MD} {d k z pc : Nat} {ls : List (Option Value)} {st : List Value} {fi : FI} {fr : FR} {ai : FI} {ar : FR} {N : Nat} {Q : EQ} {κ n : Nat} {i x : Int32} (j : Nat) (hd : decode M.2.1 pc = .ok (.bastore, 1)) (h16 : 16 ≤ κ ∧ κ < 37) (he : elK κ = .byte) (hi : i = nI j) (hj : j < lenK κ)
    (kk : EV M d k z (pc + 1) ls st fi fr (up2 ai (rf κ n) j (vp_nar .byte x)) ar N Q) : EV M d k z pc ls (.int x :: .int i :: .ref (rf κ n) :: st) fi fr ai ar N Q := by
  intro p l e R s m args below meth c A D ad0 kd0 N0 Q' H locs cells slots ad cs kd lr C T h1 h2 hS hR hE hX hT hv hl
  obtain ⟨hn, hkd⟩ := vl_rf (by omega) (vl_hd (vl_dr (vl_dr hv)))
  have hg := wsK_get (ad := ad) (cs := cs) (kd := kd) (fi := fi) (fr := fr) (ai := ai) (ar := ar) hn
  have hK := HR_Kn hR hn (by omega)
  rw [hkd] at hg hK
  rw [ceK_i h16.1 (by rw [he]; rfl)] at hg
  rw [he] at hK
  subst hi
  have hl31 := Nat.lt_trans hj (lenK_lt κ)
  refine va_bast C.1 C.2.1 hK hR.2.2.1 hR.2.2.2.1 hS n 0 hg rfl (vp_in_nI hj (lenK_lt κ)) hd (fun H1 locs1 hP hD hS => ?_)
  rw [nI_clamp hl31, ← up2_at] at hP hD
  exact kk p l e R s m args below meth c A D ad0 kd0 N0 Q' H1 locs1 cells slots ad cs kd lr C T h1 h2 hS (HR_ast hR hn hkd h16 (by rw [he]; rfl) (fun a ha => up2_o _ _ ha) hP hD) hE hX hT (vl_dr (vl_dr (vl_dr hv))) hl
theorem e_cast {M : MD} {d k z pc : Nat} {ls : List (Option Value)} {st : List Value} {fi : FI} {fr : FR} {ai : FI} {ar : FR} {N : Nat} {Q : EQ} {κ n : Nat} {i x : Int32} (j : Nat) (hd : decode M.2.1 pc = .ok (.castore, 1)) (h16 : 16 ≤ κ ∧ κ < 37) (he : elK κ = .char) (hi : i = nI j) (hj : j < lenK κ)
    (kk : EV M d k z (pc + 1) ls st fi fr (up2 ai (rf κ n) j (vp_nar .char x)) ar N Q) : EV M d k z pc ls (.int x :: .int i :: .ref (rf κ n) :: st) fi fr ai ar N Q := by
  intro p l e R s m args below meth c A D ad0 kd0 N0 Q' H locs cells slots ad cs kd lr C T h1 h2 hS hR hE hX hT hv hl
  obtain ⟨hn, hkd⟩ := vl_rf (by omega) (vl_hd (vl_dr (vl_dr hv)))
  have hg := wsK_get (ad := ad) (cs := cs) (kd := kd) (fi := fi) (fr := fr) (ai := ai) (ar := ar) hn
  have hK := HR_Kn hR hn (by omega)
  rw [hkd] at hg hK
  rw [ceK_i h16.1 (by rw [he]; rfl)] at hg
  rw [he] at hK
  subst hi
  have hl31 := Nat.lt_trans hj (lenK_lt κ)
  refine va_cast C.1 C.2.1 hK hR.2.2.1 hR.2.2.2.1 hS n 0 hg rfl (vp_in_nI hj (lenK_lt κ)) hd (fun H1 locs1 hP hD hS => ?_)
  rw [nI_clamp hl31, ← up2_at] at hP hD
  exact kk p l e R s m args below meth c A D ad0 kd0 N0 Q' H1 locs1 cells slots ad cs kd lr C T h1 h2 hS (HR_ast hR hn hkd h16 (by rw [he]; rfl) (fun a ha => up2_o _ _ ha) hP hD) hE hX hT (vl_dr (vl_dr (vl_dr hv))) hl
