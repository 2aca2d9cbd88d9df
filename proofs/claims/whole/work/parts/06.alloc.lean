theorem vl_ne {kd : Nat → Nat} {N κ b : Nat} (hκ : κ < 60) (h : vl kd N (.ref b)) : b ≠ rf κ N := by
  intro e
  subst e
  rcases h with h | ⟨h, -⟩
  · rw [rf_mod (by omega)] at h
    exact absurd hκ (Nat.not_lt.mpr h)
  · rw [rf_div (by omega)] at h
    exact absurd h (Nat.lt_irrefl N)
theorem EX_new {ad kd : Nat → Nat} {N κ q : Nat} (hκ : κ < 60) : EX ad kd N (va_up ad (rf κ N) q) (va_up kd N κ) (N + 1) :=
  ⟨Nat.le_succ N, fun n hn => if_neg (Nat.ne_of_lt hn), fun a ha => if_neg (vl_ne hκ ha)⟩
theorem map_cv {ad kd ad' kd' : Nat → Nat} {N N' : Nat} (h : EX ad kd N ad' kd' N') {st : List Value} (hv : ∀ v ∈ st, vl kd N v) : st.map (cv ad') = st.map (cv ad) :=
  List.map_congr_left (fun v hm => EX_cv h (hv v hm))
theorem LR_up {ad kd ad' kd' : Nat → Nat} {N N' nL : Nat} {lr : Array Slot} {ls : List (Option Value)} (h : EX ad kd N ad' kd' N') (g : LR ad kd N nL lr ls) : LR ad' kd' N' nL lr ls :=
  ⟨g.1, g.2.1, fun i v hv => ⟨by rw [EX_cv h (g.2.2 i v hv).2]; exact (g.2.2 i v hv).1, EX_vl h (g.2.2 i v hv).2⟩⟩
theorem EX_60 {ad kd ad' kd' : Nat → Nat} {N N' : Nat} (h : EX ad kd N ad' kd' N') {a : Nat} (ha : 60 ≤ a % 64) : ad' a = ad a := h.2.2 a (Or.inl ha)
theorem XT_ad {A : Nat → Prop} {ad ad' : Nat → Nat} {s : State} {H : Heap} (h : ∀ a, 60 ≤ a % 64 → ad' a = ad a) (g : XT A ad s H) : XT A ad' s H := by
  unfold XT
  rw [h 61 (by decide), h 62 (by decide), h 63 (by decide), h 124 (by decide)]
  exact g
theorem opt_map {ad ad' : Nat → Nat} {x : Option Nat} (h : ∀ b, x = some b → ad' b = ad b) : x.map ad' = x.map ad := by
  cases x with
  | none => rfl
  | some b => show some (ad' b) = some (ad b); rw [h b rfl]
theorem HR_new {D : va_G} {s : State} {A : Nat → Prop} {H H1 : Heap} {ad cs kd : Nat → Nat} {fi : FI} {fr : FR} {ai : FI} {ar : FR} {N κ q cA : Nat} {e : va_E} (h : HR D s A H ad cs kd fi fr ai ar N) (hok : okK κ) (hA : 16 ≤ κ → ArrOfT s cA (elK κ) ∧ va_RA s cA (elK κ))
    (he : ceK (va_up ad (rf κ N) q) (va_up cs N cA) fi fr ai ar N κ = e)
    (hP : va_P D vwCl (wsK ad cs kd fi fr ai ar N ++ [(q, e)]) H1) (hD : va_D A (wsK ad cs kd fi fr ai ar N ++ [(q, e)])) :
    HR D s A H1 (va_up ad (rf κ N) q) (va_up cs N cA) (va_up kd N κ) fi fr ai ar (N + 1) := by
  have hκ := okK_lt hok
  have e2 : wsK (va_up ad (rf κ N) q) (va_up cs N cA) (va_up kd N κ) fi fr ai ar (N + 1) = wsK ad cs kd fi fr ai ar N ++ [(q, e)] := by
    unfold wsK
    rw [List.range_succ, List.map_append]
    congr 1
    · refine List.map_congr_left (fun n hn => ?_)
      have hn : n < N := List.mem_range.mp hn
      have ek : va_up kd N κ n = kd n := if_neg (Nat.ne_of_lt hn)
      have ec : va_up cs N cA n = cs n := if_neg (Nat.ne_of_lt hn)
      have hne : rf (kd n) n ≠ rf κ N := fun hq => Nat.ne_of_lt hn (rf_inj (Nat.lt_of_lt_of_le (okK_lt (h.2.2.2.2.1 n hn)) (by decide)) (by omega) hq).2
      rw [ek]
      congr 1
      · exact if_neg hne
      · unfold ceK
        split
        · congr 3
          funext x
          unfold fvK
          rw [opt_map (ad' := va_up ad (rf κ N) q) (ad := ad) (fun b hb => if_neg (vl_ne hκ (h.2.2.2.2.2.1 _ _ _ hb)))]
        · split
          · rw [ec]
            congr 7
            funext x
            exact opt_map (fun b hb => if_neg (vl_ne hκ (h.2.2.2.2.2.2.1 _ _ _ hb)))
          · rw [ec]
    · show [(va_up ad (rf κ N) q (rf (va_up kd N κ N) N), _)] = _
      rw [show va_up kd N κ N = κ from if_pos rfl, he, show va_up ad (rf κ N) q (rf κ N) = q from if_pos rfl]
  rw [← e2] at hP hD
  have hE := EX_new (ad := ad) (kd := kd) (N := N) (q := q) hκ
  refine ⟨h.1, fun n hn g => ?_, hP, hD, fun n hn => ?_, fun f a b hb => EX_vl hE (h.2.2.2.2.2.1 f a b hb), fun a i b hb => EX_vl hE (h.2.2.2.2.2.2.1 a i b hb), fun a ha => h.2.2.2.2.2.2.2 a (Nat.le_trans (Nat.le_succ N) ha)⟩
  · by_cases hnN : n = N
    · subst hnN
      rw [show va_up kd n κ n = κ from if_pos rfl] at g ⊢
      rw [show va_up cs n cA n = cA from if_pos rfl]
      exact hA g
    · rw [show va_up kd N κ n = kd n from if_neg hnN] at g ⊢
      rw [show va_up cs N cA n = cs n from if_neg hnN]
      exact h.2.1 n (by omega) g
  · by_cases hnN : n = N
    · subst hnN
      rw [show va_up kd n κ n = κ from if_pos rfl]
      exact hok
    · rw [show va_up kd N κ n = kd n from if_neg hnN]
      exact h.2.2.2.2.1 n (by omega)
theorem HR_0 {D : va_G} {s : State} {A : Nat → Prop} {H : Heap} {ad cs kd : Nat → Nat} {fi : FI} {fr : FR} {ai : FI} {ar : FR} {N κ : Nat} (h : HR D s A H ad cs kd fi fr ai ar N) (hκ : κ < 64) : (∀ f, fi f (rf κ N) = 0 ∧ fr f (rf κ N) = none) ∧ ∀ i, ai (rf κ N) i = 0 ∧ ar (rf κ N) i = none :=
  h.2.2.2.2.2.2.2 (rf κ N) (by rw [rf_div hκ]; exact Nat.le_refl N)
theorem e_newa {M : MD} {d k z pc : Nat} {ls : List (Option Value)} {st : List Value} {fi : FI} {fr : FR} {ai : FI} {ar : FR} {N : Nat} {Q : EQ} {i : Int32} {at_ : ArrayType} (κ : Nat) (hd : decode M.2.1 pc = .ok (.newarray at_, 2)) (h16 : 16 ≤ κ ∧ κ < 37) (he : newarray.typeOf at_ = elK κ) (hr : defaultValue (elK κ) = .int 0 ∧ isR (elK κ) = false ∧ componentBytes (elK κ) ≤ 8 ∧ lenK κ ≤ 60000) (hw : Cond.arrayClass (newarray.typeOf at_) ∈ gw) (hi : i = nI (lenK κ)) {k2 z2 : Nat} (hk : 1 + k2 ≤ k ∧ lenK κ + z2 ≤ z)
    (kk : EV M d k2 z2 (pc + 2) ls (.ref (rf κ N) :: st) fi fr ai ar (N + 1) Q) : EV M d k z pc ls (.int i :: st) fi fr ai ar N Q := by
  intro p l e R s m args below meth c A D ad0 kd0 N0 Q' H locs cells slots ad cs kd lr C T h1 h2 hS hR hE hX hT hv hl
  subst hi
  have hb := lenK_lt κ
  have hz := HR_0 (κ := κ) hR (by omega)
  refine va_newa (a0 := (lenK κ, .inl (ai (rf κ N)))) C.1 C.2.1 (C.2.2.2.2.2.1 _ hw) he (HR_K hR) hR.2.2.1 hR.2.2.2.1 hS C.2.2.2.2.2.2.2.2.1 (N' := lenK κ) (fun cA => by rw [vp_cell_i, hr.1]; congr 1; funext x; rw [(hz.2 x).1]) (nI_pos hb) (nI_clamp hb) (Nat.le_trans (Nat.mul_le_mul hr.2.2.2 hr.2.2.1) (by decide)) (by omega) (by omega) hd (fun q cA H1 hK hP hD hS => ?_)
  have hE2 := EX_new (ad := ad) (kd := kd) (N := N) (κ := κ) (q := q) (by omega)
  have hg := kk p l e R s m args below meth c A D ad0 kd0 N0 Q' H1 locs (cells + 1) (slots + lenK κ) (va_up ad (rf κ N) q) (va_up cs N cA) (va_up kd N κ) lr C T (by omega) (by omega) hS
    (HR_new hR (Or.inr h16) (fun _ => hK.2 0 _ rfl) (by rw [ceK_i h16.1 hr.2.1, show va_up cs N cA N = cA from if_pos rfl]) hP hD) (EX_tr hE hE2) (fun hx => by rw [EX_60 hE2 (a := 60) (by decide)]; exact hX hx) (XT_ad (fun a ha => EX_60 hE2 ha) hT)
    (vl_pu (Or.inr ⟨by rw [rf_div (by omega)]; exact Nat.lt_succ_self N, by rw [rf_div (by omega), rf_mod (by omega)]; exact if_pos rfl⟩) (fun v hm => EX_vl hE2 (vl_dr hv v hm))) (LR_up hE2 hl)
  rw [List.map_cons, map_cv hE2 (vl_dr hv), show cv (va_up ad (rf κ N) q) (.ref (rf κ N)) = .ref q from by show Value.ref (va_up ad (rf κ N) q (rf κ N)) = _; rw [show va_up ad (rf κ N) q (rf κ N) = q from if_pos rfl]] at hg
  exact hg
theorem e_newq {M : MD} {d k z pc : Nat} {ls : List (Option Value)} {st : List Value} {fi : FI} {fr : FR} {ai : FI} {ar : FR} {N : Nat} {Q : EQ} {i : Int32} {ix : Nat} {E : String} (κ : Nat) (hd : decode M.2.1 pc = .ok (.anewarray ix, 3)) (h16 : 16 ≤ κ ∧ κ < 37) (he : elK κ = .object E) (hw : Cond.classLink M.1.cls ix E ∈ gw) (hE0 : E ∈ aoL) (hi : i = nI (lenK κ)) (hsm : lenK κ ≤ 60000) {k2 z2 : Nat} (hk : 1 + k2 ≤ k ∧ lenK κ + z2 ≤ z)
    (kk : EV M d k2 z2 (pc + 3) ls (.ref (rf κ N) :: st) fi fr ai ar (N + 1) Q) : EV M d k z pc ls (.int i :: st) fi fr ai ar N Q := by
  intro p l e R s m args below meth c A D ad0 kd0 N0 Q' H locs cells slots ad cs kd lr C T h1 h2 hS hR hE hX hT hv hl
  subst hi
  have hb := lenK_lt κ
  have hz := HR_0 (κ := κ) hR (by omega)
  refine va_newq C.1 C.2.1 C.2.2.2.2.1 (C.2.2.2.2.2.1 _ hw) (C.2.2.2.2.2.2.2.2.2.2.2.2 E hE0) (HR_K hR) hR.2.2.1 hR.2.2.2.1 hS C.2.2.2.2.2.2.2.2.1 (N' := lenK κ) (nI_pos hb) (nI_clamp hb) (by omega) (by omega) (by omega) hd (fun q cA H1 hK hP hD hS => ?_)
  have hE2 := EX_new (ad := ad) (kd := kd) (N := N) (κ := κ) (q := q) (by omega)
  have hg := kk p l e R s m args below meth c A D ad0 kd0 N0 Q' H1 locs (cells + 1) (slots + lenK κ) (va_up ad (rf κ N) q) (va_up cs N cA) (va_up kd N κ) lr C T (by omega) (by omega) hS
    (HR_new hR (Or.inr h16) (fun _ => by rw [he]; exact hK.2 0 _ rfl) (by rw [ceK_q h16.1 (by rw [he]; rfl), show va_up cs N cA N = cA from if_pos rfl]; congr 7; funext x; rw [(hz.2 x).2]; rfl) hP hD) (EX_tr hE hE2) (fun hx => by rw [EX_60 hE2 (a := 60) (by decide)]; exact hX hx) (XT_ad (fun a ha => EX_60 hE2 ha) hT)
    (vl_pu (Or.inr ⟨by rw [rf_div (by omega)]; exact Nat.lt_succ_self N, by rw [rf_div (by omega), rf_mod (by omega)]; exact if_pos rfl⟩) (fun v hm => EX_vl hE2 (vl_dr hv v hm))) (LR_up hE2 hl)
  rw [List.map_cons, map_cv hE2 (vl_dr hv), show cv (va_up ad (rf κ N) q) (.ref (rf κ N)) = .ref q from by show Value.ref (va_up ad (rf κ N) q (rf κ N)) = _; rw [show va_up ad (rf κ N) q (rf κ N) = q from if_pos rfl]] at hg
  exact hg
theorem dflt_R {ty : FieldType} (h : isR ty = true) : defaultValue ty = .null := by
  cases ty <;> first | (exact absurd h (by decide)) | rfl
theorem e_new {M : MD} {d k z pc : Nat} {ls : List (Option Value)} {st : List Value} {fi : FI} {fr : FR} {ai : FI} {ar : FR} {N : Nat} {Q : EQ} {ix : Nat} (κ : Nat) (hd : decode M.2.1 pc = .ok (.new ix, 3)) (h12 : κ < 12) (hw : Cond.classLink M.1.cls ix (cK κ).1 ∈ gw) (hi : Cond.instantiable (cK κ).1 (cK κ).2.2 ∈ gw) (hini : Cond.initialized (cK κ).1 ∈ gw) (hdf : ∀ j, j < (cK κ).2.2 → isR (tyK κ j) = false → defaultValue (tyK κ j) = .int 0) {k2 z2 : Nat} (hk : 1 + k2 ≤ k ∧ (cK κ).2.2 + z2 ≤ z)
    (kk : EV M d k2 z2 (pc + 3) ls (.ref (rf κ N) :: st) fi fr ai ar (N + 1) Q) : EV M d k z pc ls st fi fr ai ar N Q := by
  intro p l e R s m args below meth c A D ad0 kd0 N0 Q' H locs cells slots ad cs kd lr C T h1 h2 hS hR hE hX hT hv hl
  have hz := HR_0 (κ := κ) hR (by omega)
  refine va_new (ci := κ) (fs := (List.range (cK κ).2.2).map (fvK ad fi fr κ (rf κ N))) C.1 C.2.1 C.2.2.2.2.2.1 (cK_in h12) (tyK κ) (cK_ty κ h12) C.2.2.2.2.1 (C.2.2.2.2.2.1 _ hw) (C.2.2.2.2.2.1 _ hi) (C.2.2.2.2.2.1 _ hini) (HR_K hR) hR.2.2.1 hR.2.2.2.1 hS C.2.2.2.2.2.2.2.2.1 (cK_get h12) (fun j hj => ?_) (by omega) (by omega) hd (fun q H1 hP hD hS => ?_)
  · unfold vp_V
    rw [List.getD_eq_getElem?_getD, fv_get hj]
    show _ = fvK ad fi fr κ (rf κ N) j
    unfold fvK
    rw [(hz.1 _).1, (hz.1 _).2]
    cases hj2 : isR (tyK κ j) with
    | true => rw [dflt_R hj2]; rfl
    | false => rw [hdf j hj hj2]; rfl
  · have hE2 := EX_new (ad := ad) (kd := kd) (N := N) (κ := κ) (q := q) (by omega)
    have hg := kk p l e R s m args below meth c A D ad0 kd0 N0 Q' H1 locs (cells + 1) (slots + (cK κ).2.2) (va_up ad (rf κ N) q) (va_up cs N 0) (va_up kd N κ) lr C T (by omega) (by omega) hS
      (HR_new hR (Or.inl h12) (fun h => by omega) (by
        rw [ceK_o h12]
        congr 3
        funext x
        unfold fvK
        rw [(hz.1 _).2]
        rfl) hP hD) (EX_tr hE hE2) (fun hx => by rw [EX_60 hE2 (a := 60) (by decide)]; exact hX hx) (XT_ad (fun a ha => EX_60 hE2 ha) hT)
      (vl_pu (Or.inr ⟨by rw [rf_div (by omega)]; exact Nat.lt_succ_self N, by rw [rf_div (by omega), rf_mod (by omega)]; exact if_pos rfl⟩) (fun v hm => EX_vl hE2 (hv v hm))) (LR_up hE2 hl)
    rw [List.map_cons, map_cv hE2 hv, show cv (va_up ad (rf κ N) q) (.ref (rf κ N)) = .ref q from by show Value.ref (va_up ad (rf κ N) q (rf κ N)) = _; rw [show va_up ad (rf κ N) q (rf κ N) = q from if_pos rfl]] at hg
    exact hg
theorem e_aast {M : MD} {d k z pc : Nat} {ls : List (Option Value)} {st : List Value} {fi : FI} {fr : FR} {ai : FI} {ar : FR} {N : Nat} {Q : EQ} {κ n κ' n' : Nat} {i : Int32} (j : Nat) (hd : decode M.2.1 pc = .ok (.aastore, 1)) (h16 : 16 ≤ κ ∧ κ < 37) (h12 : κ' < 12) (he : elK κ = .object (cK κ').1) (hi : i = nI j) (hj : j < lenK κ)
    (kk : EV M d k z (pc + 1) ls st fi fr ai (up2 ar (rf κ n) j (some (rf κ' n'))) N Q) : EV M d k z pc ls (.ref (rf κ' n') :: .int i :: .ref (rf κ n) :: st) fi fr ai ar N Q := by
  intro p l e R s m args below meth c A D ad0 kd0 N0 Q' H locs cells slots ad cs kd lr C T h1 h2 hS hR hE hX hT hv hl
  obtain ⟨hn, hkd⟩ := vl_rf (by omega) (vl_hd (vl_dr (vl_dr hv)))
  obtain ⟨hn2, hkd2⟩ := vl_rf (by omega) (vl_hd hv)
  have hg := wsK_get (ad := ad) (cs := cs) (kd := kd) (fi := fi) (fr := fr) (ai := ai) (ar := ar) hn
  have hg2 := wsK_get (ad := ad) (cs := cs) (kd := kd) (fi := fi) (fr := fr) (ai := ai) (ar := ar) hn2
  have hK := HR_Kn hR hn (by omega)
  rw [hkd] at hg hK
  rw [hkd2, ceK_o h12] at hg2
  rw [ceK_q h16.1 (by rw [he]; rfl)] at hg
  rw [he] at hK
  subst hi
  have hl31 := Nat.lt_trans hj (lenK_lt κ)
  refine va_astq C.1 C.2.1 hK hR.2.2.1 hR.2.2.2.1 hS n 0 n' κ' hg rfl hg2 (cK_get h12) (vp_in_nI hj (lenK_lt κ)) hd (fun H1 locs1 hP hD hS => ?_)
  have e2 : (wsK ad cs kd fi fr ai ar N).set n (ad (rf κ n), .inl (cs n, lenK κ, .inr (.inr (.inr (.inr (va_up (fun i => (ar (rf κ n) i).map ad) (nI j).toNatClampNeg (some (ad (rf κ' n'))))))))) = wsK ad cs kd fi fr ai (up2 ar (rf κ n) j (some (rf κ' n'))) N := by
    rw [nI_clamp hl31]
    subst hkd
    refine wsK_set hn ?_ (fun q hq hqn => ?_)
    · rw [ceK_q h16.1 (by rw [he]; rfl)]
      congr 7
      funext x
      unfold up2 va_up
      by_cases hx : x = j <;> simp [hx]
    · unfold ceK
      split
      · rfl
      · split
        · congr 7
          funext x
          rw [up2_n _ _ (fun h => hqn (rf_inj (Nat.lt_of_lt_of_le (okK_lt (hR.2.2.2.2.1 q hq)) (by decide)) (by omega) h.1).2)]
        · rfl
  rw [e2] at hP hD
  exact kk p l e R s m args below meth c A D ad0 kd0 N0 Q' H1 locs1 cells slots ad cs kd lr C T h1 h2 hS ⟨hR.1, hR.2.1, hP, hD, hR.2.2.2.2.1, hR.2.2.2.2.2.1, fun a i b hb => by
      unfold up2 at hb
      split at hb
      · obtain rfl := Option.some.inj hb
        exact vl_hd hv
      · exact hR.2.2.2.2.2.2.1 a i b hb, fun a ha => ⟨(hR.2.2.2.2.2.2.2 a ha).1, fun i => ⟨((hR.2.2.2.2.2.2.2 a ha).2 i).1, by
        rw [up2_n _ _ (fun hq => by rw [hq.1, rf_div (by omega)] at ha; omega)]
        exact ((hR.2.2.2.2.2.2.2 a ha).2 i).2⟩⟩⟩ hE hX hT (vl_dr (vl_dr (vl_dr hv))) hl
