theorem e_objInit {M : MD} {d k z pc : Nat} {ls : List (Option Value)} {st : List Value} {fi : FI} {fr : FR} {ai : FI} {ar : FR} {N : Nat} {Q : EQ} {i a : Nat} (hd : decode M.2.1 pc = .ok (.invokespecial i, 3)) (hm : Cond.methodLink M.1.cls i objectInit ∈ gw) (hi : Cond.instanceMethod objectInit ∈ gw) (hc : Cond.code objectInit ⟨#[0xb1]⟩ 1 none ∈ gw) (hd1 : 1 ≤ d) (hcat : (st.map fun v => v.category).sum ≤ 8)
    (kk : EV M d k z (pc + 3) ls st fi fr ai ar N Q) : EV M d k z pc ls (.ref a :: st) fi fr ai ar N Q := by
  intro p l e R s m args below meth c A D ad0 kd0 N0 Q' H locs cells slots ad cs kd lr C T h1 h2 hS hR hE hX hT hv hl
  have g1 := C.2.2.2.2.2.2.2.2.2.1
  have g2 := C.2.2.2.2.2.2.2.2.2.2.1
  refine W.objInit C.1 C.2.1 C.2.2.2.2.1 (C.2.2.2.2.2.1 _ hm) (C.2.2.2.2.2.1 _ hi) (C.2.2.2.2.2.1 _ hc) rfl (hl.1.trans C.2.2.1.symm) (a := ad a) (rest := st.map (cv ad)) rfl hd (by omega) (by
    have h8 := lv_room (m := m) (pc := pc) (ls := lr) (rest := List.map (cv ad) (.ref a :: st)) (st := st.map (cv ad)) (by rw [cat_cv]; exact hcat)
    exact Nat.le_trans (Nat.add_le_add_right h8 12) (by omega)) ?_
  exact kk p l e R s m args below meth c A D ad0 kd0 N0 Q' H locs cells slots ad cs kd lr C T h1 h2 hS hR hE hX hT (vl_dr hv) hl
theorem cat_r {ad : Nat → Nat} {st : List Value} (h : (st.map fun v => v.category).sum ≤ 8) : ((st.map (cv ad)).map fun v => v.category).sum ≤ 8 := by rw [cat_cv]; exact h
theorem e_mmin {M : MD} {d k z pc : Nat} {ls : List (Option Value)} {st : List Value} {fi : FI} {fr : FR} {ai : FI} {ar : FR} {N : Nat} {Q : EQ} {i : Nat} {x y : Int32} (hd : decode M.2.1 pc = .ok (.invokestatic i, 3)) (hm : Cond.methodLink M.1.cls i Lib.Math.min.name ∈ gw) (hs : Cond.static Lib.Math.min.name ∈ gw) (hi : Cond.initialized "java/lang/Math" ∈ gw) (hc : Cond.code Lib.Math.min.name Lib.Math.min.code 2 (some .int) ∈ gw) (hd1 : 1 ≤ d) (hcat : (st.map fun v => v.category).sum ≤ 8)
    (kk : EV M d k z (pc + 3) ls (.int (if y < x then y else x) :: st) fi fr ai ar N Q) : EV M d k z pc ls (.int y :: .int x :: st) fi fr ai ar N Q := by
  intro p l e R s m args below meth c A D ad0 kd0 N0 Q' H locs cells slots ad cs kd lr C T h1 h2 hS hR hE hX hT hv hl
  have g1 := C.2.2.2.2.2.2.2.2.2.1
  have g2 := C.2.2.2.2.2.2.2.2.2.2.1
  have g3 := cat_r (ad := ad) hcat
  refine va_mmin C.1 C.2.1 (C.2.2.1.trans hl.1.symm) C.2.2.2.2.1 (C.2.2.2.2.2.1 _ hm) (C.2.2.2.2.2.1 _ hs) (C.2.2.2.2.2.1 _ hi) (C.2.2.2.2.2.1 _ hc) (by omega) (Nat.le_trans (Nat.add_le_add_right g3 13) (by omega)) (by omega) (by omega) hd ?_
  exact kk p l e R s m args below meth c A D ad0 kd0 N0 Q' H locs cells slots ad cs kd lr C T h1 h2 hS hR hE hX hT (vl_pu trivial (vl_dr (vl_dr hv))) hl
theorem e_mmax {M : MD} {d k z pc : Nat} {ls : List (Option Value)} {st : List Value} {fi : FI} {fr : FR} {ai : FI} {ar : FR} {N : Nat} {Q : EQ} {i : Nat} {x y : Int32} (hd : decode M.2.1 pc = .ok (.invokestatic i, 3)) (hm : Cond.methodLink M.1.cls i Lib.Math.max.name ∈ gw) (hs : Cond.static Lib.Math.max.name ∈ gw) (hi : Cond.initialized "java/lang/Math" ∈ gw) (hc : Cond.code Lib.Math.max.name Lib.Math.max.code 2 (some .int) ∈ gw) (hd1 : 1 ≤ d) (hcat : (st.map fun v => v.category).sum ≤ 8)
    (kk : EV M d k z (pc + 3) ls (.int (if x < y then y else x) :: st) fi fr ai ar N Q) : EV M d k z pc ls (.int y :: .int x :: st) fi fr ai ar N Q := by
  intro p l e R s m args below meth c A D ad0 kd0 N0 Q' H locs cells slots ad cs kd lr C T h1 h2 hS hR hE hX hT hv hl
  have g1 := C.2.2.2.2.2.2.2.2.2.1
  have g2 := C.2.2.2.2.2.2.2.2.2.2.1
  have g3 := cat_r (ad := ad) hcat
  refine va_mmax C.1 C.2.1 (C.2.2.1.trans hl.1.symm) C.2.2.2.2.1 (C.2.2.2.2.2.1 _ hm) (C.2.2.2.2.2.1 _ hs) (C.2.2.2.2.2.1 _ hi) (C.2.2.2.2.2.1 _ hc) (by omega) (Nat.le_trans (Nat.add_le_add_right g3 13) (by omega)) (by omega) (by omega) hd ?_
  exact kk p l e R s m args below meth c A D ad0 kd0 N0 Q' H locs cells slots ad cs kd lr C T h1 h2 hS hR hE hX hT (vl_pu trivial (vl_dr (vl_dr hv))) hl
theorem e_mabs {M : MD} {d k z pc : Nat} {ls : List (Option Value)} {st : List Value} {fi : FI} {fr : FR} {ai : FI} {ar : FR} {N : Nat} {Q : EQ} {i : Nat} {x : Int32} (hd : decode M.2.1 pc = .ok (.invokestatic i, 3)) (hm : Cond.methodLink M.1.cls i Lib.Math.abs.name ∈ gw) (hs : Cond.static Lib.Math.abs.name ∈ gw) (hi : Cond.initialized "java/lang/Math" ∈ gw) (hc : Cond.code Lib.Math.abs.name Lib.Math.abs.code 1 (some .int) ∈ gw) (hd1 : 1 ≤ d) (hcat : (st.map fun v => v.category).sum ≤ 8)
    (kk : EV M d k z (pc + 3) ls (.int (if 0 ≤ x then x else 0 - x) :: st) fi fr ai ar N Q) : EV M d k z pc ls (.int x :: st) fi fr ai ar N Q := by
  intro p l e R s m args below meth c A D ad0 kd0 N0 Q' H locs cells slots ad cs kd lr C T h1 h2 hS hR hE hX hT hv hl
  have g1 := C.2.2.2.2.2.2.2.2.2.1
  have g2 := C.2.2.2.2.2.2.2.2.2.2.1
  have g3 := cat_r (ad := ad) hcat
  refine va_mabs C.1 C.2.1 (C.2.2.1.trans hl.1.symm) C.2.2.2.2.1 (C.2.2.2.2.2.1 _ hm) (C.2.2.2.2.2.1 _ hs) (C.2.2.2.2.2.1 _ hi) (C.2.2.2.2.2.1 _ hc) (by omega) (Nat.le_trans (Nat.add_le_add_right g3 13) (by omega)) (by omega) (by omega) hd ?_
  exact kk p l e R s m args below meth c A D ad0 kd0 N0 Q' H locs cells slots ad cs kd lr C T h1 h2 hS hR hE hX hT (vl_pu trivial (vl_dr hv)) hl
def cp2 (ai : FI) (a b sp dp c : Nat) : FI := fun q => if q = b then va_cpy (ai a) (ai b) sp dp c else ai q
theorem e_copy {M : MD} {d k z pc : Nat} {ls : List (Option Value)} {st : List Value} {fi : FI} {fr : FR} {ai : FI} {ar : FR} {N : Nat} {Q : EQ} {i κ n κ' n' : Nat} {x0 x1 x2 : Int32} (sp dp c0 : Nat) (hd : decode M.2.1 pc = .ok (.invokestatic i, 3)) (hm : Cond.methodLink M.1.cls i arraycopyName ∈ gw) (hna : Cond.native arraycopyName ∈ gw) (hs : Cond.static arraycopyName ∈ gw) (hi : Cond.initialized "java/lang/System" ∈ gw) (hd1 : 1 ≤ d) (hcat : (st.map fun v => v.category).sum ≤ 8)
    (h16 : 16 ≤ κ ∧ κ < 37) (h16' : 16 ≤ κ' ∧ κ' < 37) (he : elK κ = .int) (he' : elK κ' = .int) (e0 : x0 = nI sp) (e1 : x1 = nI dp) (e2 : x2 = nI c0) (b0 : sp + c0 ≤ lenK κ) (b1 : dp + c0 ≤ lenK κ')
    (kk : EV M d k z (pc + 3) ls st fi fr (cp2 ai (rf κ n) (rf κ' n') sp dp c0) ar N Q) : EV M d k z pc ls (.int x2 :: .int x1 :: .ref (rf κ' n') :: .int x0 :: .ref (rf κ n) :: st) fi fr ai ar N Q := by
  intro p l e R s m args below meth c A D ad0 kd0 N0 Q' H locs cells slots ad cs kd lr C T h1 h2 hS hR hE hX hT hv hl
  have g1 := C.2.2.2.2.2.2.2.2.2.1
  have g2 := C.2.2.2.2.2.2.2.2.2.2.1
  have g3 := cat_r (ad := ad) hcat
  obtain ⟨hn, hkd⟩ := vl_rf (κ := κ) (n := n) (by omega) (vl_hd (vl_dr (vl_dr (vl_dr (vl_dr hv)))))
  obtain ⟨hn', hkd'⟩ := vl_rf (κ := κ') (n := n') (by omega) (vl_hd (vl_dr (vl_dr hv)))
  have hg := wsK_get (ad := ad) (cs := cs) (kd := kd) (fi := fi) (fr := fr) (ai := ai) (ar := ar) hn
  have hg' := wsK_get (ad := ad) (cs := cs) (kd := kd) (fi := fi) (fr := fr) (ai := ai) (ar := ar) hn'
  have hK0 := HR_Kn hR hn (by omega)
  have hK1 := HR_Kn hR hn' (by omega)
  rw [hkd] at hg hK0
  rw [hkd'] at hg' hK1
  rw [ceK_i h16.1 (by rw [he]; rfl)] at hg
  rw [ceK_i h16'.1 (by rw [he']; rfl)] at hg'
  rw [he] at hK0
  rw [he'] at hK1
  have hK := hK0.app hK1
  subst e0 e1 e2
  have l0 := lenK_lt κ
  have l1 := lenK_lt κ'
  have s0 : sp < 2 ^ 31 := by omega
  have s1 : dp < 2 ^ 31 := by omega
  have s2 : c0 < 2 ^ 31 := by omega
  refine va_copyi C.1 C.2.1 (C.2.2.1.trans hl.1.symm) C.2.2.2.2.1 (C.2.2.2.2.2.1 _ hm) (C.2.2.2.2.2.1 _ hna) (C.2.2.2.2.2.1 _ hs) (C.2.2.2.2.2.1 _ hi) hK hR.2.2.1 hR.2.2.2.1 hS n n' 0 1 hg hg' rfl rfl rfl (nI_pos s0) (nI_pos s1) (nI_pos s2) (by rw [nI_clamp s0, nI_clamp s2]; exact b0) (by rw [nI_clamp s1, nI_clamp s2]; exact b1) (fun j hj => rfl) (by omega)
    (Nat.le_trans (Nat.add_le_add_right g3 _) (by
      have hnf : nativeFrameWords "java/lang/System" "arraycopy" 5 ≤ 40 := by decide +kernel
      omega)) hd (fun H1 locs1 hP hD hS => ?_)
  rw [nI_clamp s0, nI_clamp s1, nI_clamp s2, show va_cpy (ai (rf κ n)) (ai (rf κ' n')) sp dp c0 = cp2 ai (rf κ n) (rf κ' n') sp dp c0 (rf κ' n') from (if_pos rfl).symm] at hP hD
  exact kk p l e R s m args below meth c A D ad0 kd0 N0 Q' H1 locs1 cells slots ad cs kd lr C T h1 h2 hS (HR_ast hR hn' hkd' h16' (by rw [he']; rfl) (fun a ha => if_neg ha) hP hD) hE hX hT (vl_dr (vl_dr (vl_dr (vl_dr (vl_dr hv))))) hl
/-- the law's own script: the cell 60 -/
theorem e_sld {M : MD} {d k z pc : Nat} {ls : List (Option Value)} {st : List Value} {fi : FI} {fr : FR} {ai : FI} {ar : FR} {N : Nat} {Q : EQ} {i : Int32} (j : Nat) (hd : decode M.2.1 pc = .ok (.iaload, 1)) (hi : i = nI j) (hj : j < M.2.2.2.2.1 - 1) (hL : M.2.2.2.2.1 < 2 ^ 31)
    (kk : EV M d k z (pc + 1) ls (.int (M.2.2.2.2.2 j) :: st) fi fr ai ar N Q) : EV M d k z pc ls (.int i :: .ref 60 :: st) fi fr ai ar N Q := by
  intro p l e R s m args below meth c A D ad0 kd0 N0 Q' H locs cells slots ad cs kd lr C T h1 h2 hS hR hE hX hT hv hl
  obtain ⟨x1, x2, x3⟩ := hX (by omega)
  subst hi
  refine va_sld C.1 C.2.1 x1 x2 x3 hS (vp_in_nI hj (by omega)) hd ?_
  rw [nI_clamp (show j < 2 ^ 31 by omega)]
  exact kk p l e R s m args below meth c A D ad0 kd0 N0 Q' H locs cells slots ad cs kd lr C T h1 h2 hS hR hE hX hT (vl_pu trivial (vl_dr (vl_dr hv))) hl
theorem e_slen {M : MD} {d k z pc : Nat} {ls : List (Option Value)} {st : List Value} {fi : FI} {fr : FR} {ai : FI} {ar : FR} {N : Nat} {Q : EQ} (hd : decode M.2.1 pc = .ok (.arraylength, 1)) (hL : M.2.2.2.2.1 ≠ 0)
    (kk : EV M d k z (pc + 1) ls (.int (nI (M.2.2.2.2.1 - 1)) :: st) fi fr ai ar N Q) : EV M d k z pc ls (.ref 60 :: st) fi fr ai ar N Q := by
  intro p l e R s m args below meth c A D ad0 kd0 N0 Q' H locs cells slots ad cs kd lr C T h1 h2 hS hR hE hX hT hv hl
  obtain ⟨x1, x2, x3⟩ := hX hL
  refine va_slen C.1 C.2.1 x1 x2 x3 hS hd ?_
  exact kk p l e R s m args below meth c A D ad0 kd0 N0 Q' H locs cells slots ad cs kd lr C T h1 h2 hS hR hE hX hT (vl_pu trivial (vl_dr hv)) hl
