theorem e_ldcS {M : MD} {d k z pc : Nat} {ls : List (Option Value)} {st : List Value} {fi : FI} {fr : FR} {ai : FI} {ar : FR} {N : Nat} {Q : EQ}  (hd : decode M.2.1 pc = .ok (.ldc 69, 2)) (hc : M.1.cls = "SpanMap$Script") (kk : EV M d k z (pc + 2) ls (.ref 61 :: st) fi fr ai ar N Q) : EV M d k z pc ls (st) fi fr ai ar N Q := by
  intro p l e R s m args below meth c A D ad0 kd0 N0 Q' H locs cells slots ad cs kd lr C T h1 h2 hS hR hE hX hT hv hl
  refine va_ldcS C.1 C.2.1 (own := "SpanMap$Script") (index := 69) (by rw [← hc]; exact C.2.2.2.2.1) hT.1 hd ?_
  exact kk p l e R s m args below meth c A D ad0 kd0 N0 Q' H locs cells slots ad cs kd lr C T h1 h2 hS hR hE hX hT (vl_pu (Or.inl (by decide)) hv) hl

theorem e_sgetV {M : MD} {d k z pc : Nat} {ls : List (Option Value)} {st : List Value} {fi : FI} {fr : FR} {ai : FI} {ar : FR} {N : Nat} {Q : EQ}  (hd : decode M.2.1 pc = .ok (.getfield 9, 3)) (hc : M.1.cls = "java/lang/String") (hw : Cond.fieldLink "java/lang/String" 9 "java/lang/String" "value" "[B" ∈ gw) (kk : EV M d k z (pc + 3) ls (.ref 62 :: st) fi fr ai ar N Q) : EV M d k z pc ls (.ref 61 :: st) fi fr ai ar N Q := by
  intro p l e R s m args below meth c A D ad0 kd0 N0 Q' H locs cells slots ad cs kd lr C T h1 h2 hS hR hE hX hT hv hl
  refine vk_getf C.1 C.2.1 (own := "java/lang/String") (index := 9) hT.2.2.2.2.1 hS (by rw [← hc]; exact C.2.2.2.2.1) (C.2.2.2.2.2.1 _ hw) (fun _ h => h) hd ?_
  exact kk p l e R s m args below meth c A D ad0 kd0 N0 Q' H locs cells slots ad cs kd lr C T h1 h2 hS hR hE hX hT (vl_pu (Or.inl (by decide)) (vl_dr hv)) hl

theorem e_sgetC {M : MD} {d k z pc : Nat} {ls : List (Option Value)} {st : List Value} {fi : FI} {fr : FR} {ai : FI} {ar : FR} {N : Nat} {Q : EQ}  (hd : decode M.2.1 pc = .ok (.getfield 15, 3)) (hc : M.1.cls = "java/lang/String") (hw : Cond.fieldLink "java/lang/String" 15 "java/lang/String" "code\x72" "B" ∈ gw) (kk : EV M d k z (pc + 3) ls (.int (nI 0) :: st) fi fr ai ar N Q) : EV M d k z pc ls (.ref 61 :: st) fi fr ai ar N Q := by
  intro p l e R s m args below meth c A D ad0 kd0 N0 Q' H locs cells slots ad cs kd lr C T h1 h2 hS hR hE hX hT hv hl
  refine vk_getf C.1 C.2.1 (own := "java/lang/String") (index := 15) hT.2.2.2.1 hS (by rw [← hc]; exact C.2.2.2.2.1) (C.2.2.2.2.2.1 _ hw) (fun _ h => h) hd ?_
  exact kk p l e R s m args below meth c A D ad0 kd0 N0 Q' H locs cells slots ad cs kd lr C T h1 h2 hS hR hE hX hT (vl_pu trivial (vl_dr hv)) hl

theorem e_tslen {M : MD} {d k z pc : Nat} {ls : List (Option Value)} {st : List Value} {fi : FI} {fr : FR} {ai : FI} {ar : FR} {N : Nat} {Q : EQ}  (hd : decode M.2.1 pc = .ok (.arraylength, 1)) (kk : EV M d k z (pc + 1) ls (.int (nI 81) :: st) fi fr ai ar N Q) : EV M d k z pc ls (.ref 62 :: st) fi fr ai ar N Q := by
  intro p l e R s m args below meth c A D ad0 kd0 N0 Q' H locs cells slots ad cs kd lr C T h1 h2 hS hR hE hX hT hv hl
  refine va_tlen C.1 C.2.1 hT.2.2.2.2.2.1 hS (v := nI 81) rfl hd ?_
  exact kk p l e R s m args below meth c A D ad0 kd0 N0 Q' H locs cells slots ad cs kd lr C T h1 h2 hS hR hE hX hT (vl_pu trivial (vl_dr hv)) hl

theorem vb_at : ∀ j, j < 81 → vbT.getD j 0 = nI (vbM.getD j 0) := by decide +kernel
theorem vn_at : ∀ j, j < 15 → vnT.getD j 0 = nI (vnM.getD j 0) := by decide +kernel
theorem vbm_c : ∀ j, j < 81 → ((nI (vbM.getD j 0) &&& nI 255).toUInt32 % 65536).toInt32 = nI (vbM.getD j 0) := by decide +kernel
theorem vb_lt : ∀ j, j < 81 → vbM.getD j 0 < 128 := by decide +kernel
theorem vn_lt : ∀ j, j < 15 → vnM.getD j 0 < 4 := by decide +kernel
theorem vp_n {j n : Nat} (h : j < n) (hn : n < 1000) : vp_in (nI j) n := by
  have hb : j < 2 ^ 31 := by omega
  intro q
  rcases q with q | q
  · exact nI_pos hb q
  · rw [nI_clamp hb] at q
    omega

theorem e_sald {M : MD} {d k z pc : Nat} {ls : List (Option Value)} {st : List Value} {fi : FI} {fr : FR} {ai : FI} {ar : FR} {N : Nat} {Q : EQ} {j : Nat} (hd : decode M.2.1 pc = .ok (.baload, 1)) (hj : j < 81) (kk : EV M d k z (pc + 1) ls (.int (nI (vbM.getD j 0)) :: st) fi fr ai ar N Q) : EV M d k z pc ls (.int (nI j) :: .ref 62 :: st) fi fr ai ar N Q := by
  intro p l e R s m args below meth c A D ad0 kd0 N0 Q' H locs cells slots ad cs kd lr C T h1 h2 hS hR hE hX hT hv hl
  refine va_tb C.1 C.2.1 hT.2.2.2.2.2.1 hS (i := nI j) (vp_n hj (by decide)) (v := .int (nI (vbM.getD j 0))) (by rw [nI_clamp (show j < 2 ^ 31 by omega), vb_at j hj]) hd ?_
  exact kk p l e R s m args below meth c A D ad0 kd0 N0 Q' H locs cells slots ad cs kd lr C T h1 h2 hS hR hE hX hT (vl_pu trivial (vl_dr (vl_dr hv))) hl

theorem e_nald {M : MD} {d k z pc : Nat} {ls : List (Option Value)} {st : List Value} {fi : FI} {fr : FR} {ai : FI} {ar : FR} {N : Nat} {Q : EQ} {j : Nat} (hd : decode M.2.1 pc = .ok (.iaload, 1)) (hj : j < 15) (kk : EV M d k z (pc + 1) ls (.int (nI (vnM.getD j 0)) :: st) fi fr ai ar N Q) : EV M d k z pc ls (.int (nI j) :: .ref 63 :: st) fi fr ai ar N Q := by
  intro p l e R s m args below meth c A D ad0 kd0 N0 Q' H locs cells slots ad cs kd lr C T h1 h2 hS hR hE hX hT hv hl
  refine va_ti C.1 C.2.1 hT.2.2.2.2.2.2.2.2.1 hS (i := nI j) (vp_n hj (by decide)) (v := .int (nI (vnM.getD j 0))) (by rw [nI_clamp (show j < 2 ^ 31 by omega), vn_at j hj]) hd ?_
  exact kk p l e R s m args below meth c A D ad0 kd0 N0 Q' H locs cells slots ad cs kd lr C T h1 h2 hS hR hE hX hT (vl_pu trivial (vl_dr (vl_dr hv))) hl

theorem e_getsC {M : MD} {d k z pc : Nat} {ls : List (Option Value)} {st : List Value} {fi : FI} {fr : FR} {ai : FI} {ar : FR} {N : Nat} {Q : EQ}  (hd : decode M.2.1 pc = .ok (.getstatic 38, 3)) (hc : M.1.cls = "java/lang/String") (hw : Cond.fieldLink "java/lang/String" 38 "java/lang/String" "COMPACT_STRINGS" "Z" ∈ gw) (kk : EV M d k z (pc + 3) ls (.int (nI 1) :: st) fi fr ai ar N Q) : EV M d k z pc ls (st) fi fr ai ar N Q := by
  intro p l e R s m args below meth c A D ad0 kd0 N0 Q' H locs cells slots ad cs kd lr C T h1 h2 hS hR hE hX hT hv hl
  refine va_gets C.1 C.2.1 hT.2.2.2.2.2.2.1 hS (own := "java/lang/String") (by rw [← hc]; exact C.2.2.2.2.1) (C.2.2.2.2.2.1 _ hw) (fun _ h => h) hd ?_
  exact kk p l e R s m args below meth c A D ad0 kd0 N0 Q' H locs cells slots ad cs kd lr C T h1 h2 hS hR hE hX hT (vl_pu trivial hv) hl

theorem e_getsV {M : MD} {d k z pc : Nat} {ls : List (Option Value)} {st : List Value} {fi : FI} {fr : FR} {ai : FI} {ar : FR} {N : Nat} {Q : EQ}  (hd : decode M.2.1 pc = .ok (.getstatic 52, 3)) (hc : M.1.cls = "SpanMap$Script") (kk : EV M d k z (pc + 3) ls (.ref 63 :: st) fi fr ai ar N Q) : EV M d k z pc ls (st) fi fr ai ar N Q := by
  intro p l e R s m args below meth c A D ad0 kd0 N0 Q' H locs cells slots ad cs kd lr C T h1 h2 hS hR hE hX hT hv hl
  refine va_getsN C.1 C.2.1 hT.2.2.2.2.2.2.2.1 hS (own := "SpanMap$Script") (by rw [← hc]; exact C.2.2.2.2.1) (va_Nw.use rfl hT.2.1) (fun _ h => h) hd ?_
  exact kk p l e R s m args below meth c A D ad0 kd0 N0 Q' H locs cells slots ad cs kd lr C T h1 h2 hS hR hE hX hT (vl_pu (Or.inl (by decide)) hv) hl

theorem e_getsF {M : MD} {d k z pc : Nat} {ls : List (Option Value)} {st : List Value} {fi : FI} {fr : FR} {ai : FI} {ar : FR} {N : Nat} {Q : EQ} (hd : decode M.2.1 pc = .ok (.getstatic 1053, 3)) (hc : M.1.cls = "java/lang/String") (hw : Cond.fieldLink "java/lang/String" 1053 "jdk/internal/util/Preconditions" "SIOOBE_FORMATTER" "Ljava/util/function/BiFunction;" ∈ gw) (kk : ∀ v, v = .null ∨ v = .ref 124 → EV M d k z (pc + 3) ls (v :: st) fi fr ai ar N Q) : EV M d k z pc ls st fi fr ai ar N Q := by
  intro p l e R s m args below meth c A D ad0 kd0 N0 Q' H locs cells slots ad cs kd lr C T h1 h2 hS hR hE hX hT hv hl
  rcases hT.2.2.2.2.2.2.2.2.2 with hz | hz
  · refine va_gets C.1 C.2.1 hz hS (own := "java/lang/String") (by rw [← hc]; exact C.2.2.2.2.1) (C.2.2.2.2.2.1 _ hw) (fun _ h => h) hd ?_
    exact kk .null (Or.inl rfl) p l e R s m args below meth c A D ad0 kd0 N0 Q' H locs cells slots ad cs kd lr C T h1 h2 hS hR hE hX hT (vl_pu trivial hv) hl
  · refine va_gets C.1 C.2.1 hz hS (own := "java/lang/String") (by rw [← hc]; exact C.2.2.2.2.1) (C.2.2.2.2.2.1 _ hw) (fun _ h => h) hd ?_
    exact kk (.ref 124) (Or.inr rfl) p l e R s m args below meth c A D ad0 kd0 N0 Q' H locs cells slots ad cs kd lr C T h1 h2 hS hR hE hX hT (vl_pu (Or.inl (by decide)) hv) hl

theorem e_callT {M : MD} {d k z pc : Nat} {ls : List (Option Value)} {st st0 : List Value} {fi : FI} {fr : FR} {ai : FI} {ar : FR} {N : Nat} {Q : EQ} {M' : MD} {d' k' z' i n : Nat} {As : List Value} {P : EQ} {k2 z2 : Nat} (hd : decode M.2.1 pc = .ok (.invokevirtual i, 3)) (hm : Cond.methodLink M.1.cls i M'.1 ∈ gw) (ok : MOK M' n) (hcl : M'.1.cls = "java/lang/String") (hi : Cond.instanceMethod M'.1 ∈ gw) (hsel : Cond.selects M'.1.cls M'.1 M'.1 ∈ gw) (hc : CP M' d' k' z' (.ref 61 :: As) fi fr ai ar N P) (hst : st0 = As.reverse ++ .ref 61 :: st) (hn : As.length = n) (hen : (enS (.ref 61 :: As)).length ≤ M'.2.2.1) (hdd : d' < d) (hb : k' + k2 ≤ k ∧ z' + z2 ≤ z) (hcat : (st.map fun v => v.category).sum ≤ 8)
    (kk : ∀ r fi' fr' ai' ar' N', P r fi' fr' ai' ar' N' → EV M d k2 z2 (pc + 3) ls (r.toList ++ st) fi' fr' ai' ar' N' Q) : EV M d k z pc ls st0 fi fr ai ar N Q := by
  intro p l e R s m args below meth c A D ad0 kd0 N0 Q' H locs cells slots ad cs kd lr C T h1 h2 hS hR hE hX hT hv hl
  subst hst
  have hvA : ∀ v ∈ (.ref 61 :: As), vl kd N v := fun v hm => hv v (by simp only [List.mem_append, List.mem_reverse, List.mem_cons] at hm ⊢; exact hm.elim (fun h => Or.inr (Or.inl h)) (fun h => Or.inl h))
  have hvS : ∀ v ∈ st, vl kd N v := fun v hm => hv v (by simp only [List.mem_append, List.mem_cons]; exact Or.inr (Or.inr hm))
  have hM := met_CT hc ok.1 ok.2.1 hen l D ad cs kd H.size
  have hAs := A_sub hR hS C.2.2.2.2.2.2.2.2.1
  have hfit : (rmK d' k' z').frames + 1 ≤ R.frames ∧ 8 + (M'.2.2.1 + 11) + (rmK d' k' z').locals ≤ R.locals := by
    have g1 := C.2.2.2.2.2.2.2.2.2.1
    have g2 := C.2.2.2.2.2.2.2.2.2.2.1
    have g3 := ok.2.2.1
    refine ⟨?_, ?_⟩
    · show d' + 1 ≤ R.frames
      omega
    · show 8 + (M'.2.2.1 + 11) + (32 * d' + 40) ≤ R.locals
      omega
  have hBc := fun (U : State) (hU : U.heap = H) (hW : s.WarmedH U.vm) => Bc_call hR hS C.2.2.2.2.2.2.2.2.1 C.2.2.2.2.2.2.2.2.2.2.2 hT hvA hU hW
  refine run_after (va_runV (As := As.map (cv ad)) (rest := st.map (cv ad)) (b := ad 61) ⟨C.1, C.2.1, C.2.2.1, C.2.2.2.2.1, C.2.2.2.2.2.1⟩ hM (cwV n C.2.2.2.2.2.1 (gw_good (fun w hw => by
      rcases List.mem_append.mp hw with h | h
      · simp only [List.mem_cons, List.mem_nil_iff, or_false] at h
        rcases h with rfl | rfl | rfl | rfl
        · exact hm
        · exact hi
        · exact hsel
        · exact ok.2.2.2.2.2
      · exact gwM ok w h)) rfl rfl rfl ⟨rfl, ok.2.2.2.1⟩ hfit) ⟨Bc_blind, (by
      obtain ⟨cell, q1, q2, q3, -⟩ := hT.2.2.1.kept hS.2.1
      exact ⟨cell, q1, q2, by rw [hcl]; exact q3⟩), fun U hU hW => ⟨rfl, hBc U hU hW⟩⟩ rfl (by rw [List.length_map]; exact hn) hl.1 (by show List.map (cv ad) (As.reverse ++ .ref 61 :: st) = (As.map (cv ad)).reverse ++ .ref (ad 61) :: st.map (cv ad); rw [List.map_append, List.map_reverse]; rfl) (lv_room (by rw [cat_cv]; exact hcat)) hd ⟨by omega, by omega⟩) hS hAs (fun r fi' fr' ai' ar' N' ad1 cs1 kd1 H1 locs1 hP1 hE1 hR1 hw1 hS1 => ?_)
  have hg := kk r fi' fr' ai' ar' N' hP1 p l e R s m args below meth c A D ad0 kd0 N0 Q' H1 locs1 (cells + k') (slots + z') ad1 cs1 kd1 lr C T (by omega) (by omega) hS1 hR1 (EX_tr hE hE1) (fun hx => by rw [EX_60 hE1 (a := 60) (by decide)]; exact hX hx) (XT_ad (fun a ha => EX_60 hE1 ha) hT)
    (fun v hm => by
      rcases List.mem_append.mp hm with h | h
      · exact hw1 v (by cases r with
          | none => cases h
          | some w => rw [List.mem_singleton.mp h])
      · exact EX_vl hE1 (hvS v h)) (LR_up hE1 hl)
  rw [List.map_append, map_cv hE1 hvS] at hg
  cases r <;> exact hg

theorem e_callX {M : MD} {d k z pc : Nat} {ls : List (Option Value)} {st st0 : List Value} {fi : FI} {fr : FR} {ai : FI} {ar : FR} {N : Nat} {Q : EQ} {M' : MD} {d' k' z' i n : Nat} {As : List Value} {P : EQ} {k2 z2 : Nat} (hd : decode M.2.1 pc = .ok (.invokestatic i, 3)) (hm : Cond.methodLink M.1.cls i M'.1 ∈ gw) (ok : MOK M' n) (hi : Cond.static M'.1 ∈ gw) (hc : CP M' d' k' z' (As) fi fr ai ar N P) (hst : st0 = As.reverse ++ st) (hn : As.length = n) (hen : (enS (As)).length ≤ M'.2.2.1) (hdd : d' < d) (hb : k' + k2 ≤ k ∧ z' + z2 ≤ z) (hcat : (st.map fun v => v.category).sum ≤ 8)
    (kk : ∀ r fi' fr' ai' ar' N', P r fi' fr' ai' ar' N' → EV M d k2 z2 (pc + 3) ls (r.toList ++ st) fi' fr' ai' ar' N' Q) : EV M d k z pc ls st0 fi fr ai ar N Q := by
  intro p l e R s m args below meth c A D ad0 kd0 N0 Q' H locs cells slots ad cs kd lr C T h1 h2 hS hR hE hX hT hv hl
  subst hst
  have hvA : ∀ v ∈ (As), vl kd N v := fun v hm => hv v (by simp only [List.mem_append, List.mem_reverse, List.mem_cons] at hm ⊢; exact Or.inl hm)
  have hvS : ∀ v ∈ st, vl kd N v := fun v hm => hv v (by simp only [List.mem_append, List.mem_cons]; exact Or.inr hm)
  have hM := met_CT hc ok.1 ok.2.1 hen l D ad cs kd H.size
  have hAs := A_sub hR hS C.2.2.2.2.2.2.2.2.1
  have hfit : (rmK d' k' z').frames + 1 ≤ R.frames ∧ 8 + (M'.2.2.1 + 11) + (rmK d' k' z').locals ≤ R.locals := by
    have g1 := C.2.2.2.2.2.2.2.2.2.1
    have g2 := C.2.2.2.2.2.2.2.2.2.2.1
    have g3 := ok.2.2.1
    refine ⟨?_, ?_⟩
    · show d' + 1 ≤ R.frames
      omega
    · show 8 + (M'.2.2.1 + 11) + (32 * d' + 40) ≤ R.locals
      omega
  have hBc := fun (U : State) (hU : U.heap = H) (hW : s.WarmedH U.vm) => Bc_call hR hS C.2.2.2.2.2.2.2.2.1 C.2.2.2.2.2.2.2.2.2.2.2 hT hvA hU hW
  refine run_after (va_runS (As := As.map (cv ad)) (rest := st.map (cv ad)) ⟨C.1, C.2.1, C.2.2.1, C.2.2.2.2.1, C.2.2.2.2.2.1⟩ hM (va_cwS n C.2.2.2.2.2.1 (gw_good (fun w hw => by
      rcases List.mem_append.mp hw with h | h
      · simp only [List.mem_cons, List.mem_nil_iff, or_false] at h
        rcases h with rfl | rfl | rfl
        · exact hm
        · exact hi
        · exact ok.2.2.2.2.2
      · exact gwM ok w h)) rfl rfl rfl ok.2.2.2.1 hfit) ⟨Bc_blind, fun U hU hW => ⟨rfl, hBc U hU hW⟩⟩ rfl (by rw [List.length_map]; exact hn) hl.1 (by show List.map (cv ad) (As.reverse ++ st) = (As.map (cv ad)).reverse ++ st.map (cv ad); rw [List.map_append, List.map_reverse]) (lv_room (by rw [cat_cv]; exact hcat)) hd ⟨by omega, by omega⟩) hS hAs (fun r fi' fr' ai' ar' N' ad1 cs1 kd1 H1 locs1 hP1 hE1 hR1 hw1 hS1 => ?_)
  have hg := kk r fi' fr' ai' ar' N' hP1 p l e R s m args below meth c A D ad0 kd0 N0 Q' H1 locs1 (cells + k') (slots + z') ad1 cs1 kd1 lr C T (by omega) (by omega) hS1 hR1 (EX_tr hE hE1) (fun hx => by rw [EX_60 hE1 (a := 60) (by decide)]; exact hX hx) (XT_ad (fun a ha => EX_60 hE1 ha) hT)
    (fun v hm => by
      rcases List.mem_append.mp hm with h | h
      · exact hw1 v (by cases r with
          | none => cases h
          | some w => rw [List.mem_singleton.mp h])
      · exact EX_vl hE1 (hvS v h)) (LR_up hE1 hl)
  rw [List.map_append, map_cv hE1 hvS] at hg
  cases r <;> exact hg
