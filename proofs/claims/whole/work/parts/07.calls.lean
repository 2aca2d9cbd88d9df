def enS (vs : List Value) : List (Option Value) := vs.flatMap (fun v => if v.category = 2 then [some v, none] else [some v])
def enL (n : Nat) (vs : List Value) : List (Option Value) := enS vs ++ List.replicate (n - (enS vs).length) none
/-- a method's contract at one heap: from these arguments and this heap it ends, and its answer and heap are so -/
abbrev CP (M : MD) (d k z : Nat) (as : List Value) (fi : FI) (fr : FR) (ai : FI) (ar : FR) (N : Nat) (P : EQ) : Prop := EV M d k z 0 (enL M.2.2.1 as) [] fi fr ai ar N P
/-- exactly that answer and that heap -/
def xQ (r : Option Value) (fi : FI) (fr : FR) (ai : FI) (ar : FR) (N : Nat) : EQ := fun r1 fi1 fr1 ai1 ar1 N1 => r1 = r ∧ fi1 = fi ∧ fr1 = fr ∧ ai1 = ai ∧ ar1 = ar ∧ N1 = N
theorem enS_at {ad : Nat → Nat} : ∀ (vs : List Value) (i : Nat) (v : Value), (enS vs)[i]? = some (some v) → (lg_sl (vs.map (cv ad)))[i]? = some (.val (cv ad v)) ∧ v ∈ vs
  | [], i, v, h => by simp [enS] at h
  | w :: vs, i, v, h => by
    have hc := cv_cat ad w
    by_cases h2 : w.category = 2
    · have e1 : enS (w :: vs) = some w :: none :: enS vs := by simp [enS, h2]
      have e2 : lg_sl ((w :: vs).map (cv ad)) = .val (cv ad w) :: .second :: lg_sl (vs.map (cv ad)) := by simp [lg_sl, hc, h2]
      rw [e1] at h
      rw [e2]
      match i, h with
      | 0, h => obtain rfl := Option.some.inj (Option.some.inj h); exact ⟨rfl, List.mem_cons_self⟩
      | 1, h => cases Option.some.inj h
      | i + 2, h =>
        have := enS_at (ad := ad) vs i v h
        exact ⟨this.1, List.mem_cons_of_mem _ this.2⟩
    · have e1 : enS (w :: vs) = some w :: enS vs := by simp [enS, h2]
      have e2 : lg_sl ((w :: vs).map (cv ad)) = .val (cv ad w) :: lg_sl (vs.map (cv ad)) := by simp [lg_sl, hc, h2]
      rw [e1] at h
      rw [e2]
      match i, h with
      | 0, h => obtain rfl := Option.some.inj (Option.some.inj h); exact ⟨rfl, List.mem_cons_self⟩
      | i + 1, h =>
        have := enS_at (ad := ad) vs i v h
        exact ⟨this.1, List.mem_cons_of_mem _ this.2⟩
theorem enS_len {ad : Nat → Nat} : ∀ vs : List Value, (lg_sl (vs.map (cv ad))).length = (enS vs).length
  | [] => rfl
  | w :: vs => by
    have hc := cv_cat ad w
    have ih := enS_len (ad := ad) vs
    by_cases h2 : w.category = 2
    · have e1 : enS (w :: vs) = some w :: none :: enS vs := by simp [enS, h2]
      have e2 : lg_sl ((w :: vs).map (cv ad)) = .val (cv ad w) :: .second :: lg_sl (vs.map (cv ad)) := by simp [lg_sl, hc, h2]
      rw [e1, e2]; simp [ih]
    · have e1 : enS (w :: vs) = some w :: enS vs := by simp [enS, h2]
      have e2 : lg_sl ((w :: vs).map (cv ad)) = .val (cv ad w) :: lg_sl (vs.map (cv ad)) := by simp [lg_sl, hc, h2]
      rw [e1, e2]; simp [ih]
theorem LR_en {ad kd : Nat → Nat} {N n : Nat} {vs : List Value} (hn : (enS vs).length ≤ n) (hv : ∀ v ∈ vs, vl kd N v) : LR ad kd N n ((lg_sl (vs.map (cv ad)) ++ List.replicate (n - (lg_sl (vs.map (cv ad))).length) Slot.unset).toArray) (enL n vs) := by
  have hl := lv_entry (vs.map (cv ad)) (n := n) (by rw [enS_len]; exact hn)
  refine ⟨hl.1, hl.2.1, fun i v h => ?_⟩
  unfold enL at h
  by_cases hi : i < (enS vs).length
  · rw [List.getElem?_append_left hi] at h
    obtain ⟨g1, g2⟩ := enS_at (ad := ad) vs i v h
    refine ⟨?_, hv v g2⟩
    rw [List.getElem?_toArray, List.getElem?_append_left (by rw [enS_len]; exact hi)]
    exact g1
  · rw [List.getElem?_append_right (by omega)] at h
    have := List.mem_of_getElem? h
    rw [List.mem_replicate] at this
    cases this.2
theorem HR_mv {D : va_G} {u U : State} {A : Nat → Prop} {H : Heap} {ad cs kd : Nat → Nat} {fi : FI} {fr : FR} {ai : FI} {ar : FR} {N : Nat} (hvm : u.vm.Alike U.vm) (h : HR D u A H ad cs kd fi fr ai ar N) : HR D U A H ad cs kd fi fr ai ar N :=
  ⟨fun c q hq => u_Kn_moved hvm (h.1 c q hq), fun n hn g => ⟨arrOfT_moved hvm (h.2.1 n hn g).1, (h.2.1 n hn g).2.moved hvm⟩, h.2.2⟩
theorem HR_A {D : va_G} {u : State} {A B : Nat → Prop} {H : Heap} {ad cs kd : Nat → Nat} {fi : FI} {fr : FR} {ai : FI} {ar : FR} {N : Nat} (hAB : ∀ q, A q → B q) (h : HR D u A H ad cs kd fi fr ai ar N) : HR D u B H ad cs kd fi fr ai ar N :=
  ⟨h.1, h.2.1, h.2.2.1, h.2.2.2.1.weaken (fun _ q _ hq => hAB q.1 hq), h.2.2.2.2⟩
abbrev rmK (d k z : Nat) : Room := { frames := d, cells := k, slots := z, locals := 32 * d + 40 }
abbrev wsM (M : MD) : List Cond := Cond.code M.1 M.2.1 M.2.2.1 M.2.2.2.1 :: gw
/-- a callee's start -/
def BcK (D : va_G) (ad cs kd : Nat → Nat) (fi : FI) (fr : FR) (ai : FI) (ar : FR) (N sz : Nat) (as : List Value) (U : State) : Prop :=
  U.heap.size = sz ∧ HR D U (fun _ => True) U.heap ad cs kd fi fr ai ar N ∧ XN U ∧ XT (va_A (wsK ad cs kd fi fr ai ar N) sz) ad U U.heap ∧ ∀ v ∈ as, vl kd N v
def QcK (D : va_G) (ad kd : Nat → Nat) (N : Nat) (A : Nat → Prop) (P : EQ) : Array Value → State → Outcome → State → Prop := fun _ st oc t =>
  (∃ (r : Option Value) (fi' : FI) (fr' : FR) (ai' : FI) (ar' : FR) (N' : Nat) (ad' cs' kd' : Nat → Nat), P r fi' fr' ai' ar' N' ∧ EX ad kd N ad' kd' N' ∧ oc = .returned (r.map (cv ad')) ∧ HR D t A t.heap ad' cs' kd' fi' fr' ai' ar' N' ∧ ∀ w, r = some w → vl kd' N' w) ∧ va_F A st t
theorem met_CT {M : MD} {d k z : Nat} {as : List Value} {fi : FI} {fr : FR} {ai : FI} {ar : FR} {N : Nat} {P : EQ} (h : CP M d k z as fi fr ai ar N P) (hp : plainName M.1.cls = true) (hX0 : M.2.2.2.2.1 = 0) (hn : (enS as).length ≤ M.2.2.1) (l : Launch) (D : va_G) (ad cs kd : Nat → Nat) (sz : Nat) :
    Met l M.1 (wsM M) (rmK d k z) (va_Pc (as.map (cv ad)) (BcK D ad cs kd fi fr ai ar N sz as)) (QcK D ad kd N (va_A (wsK ad cs kd fi fr ai ar N) sz) P) k z (va_A (wsK ad cs kd fi fr ai ar N) sz) := by
  refine Met.ofW (cc := M.2.1) (maxL := M.2.2.1) (ret := M.2.2.2.1) hp rfl ?_
  intro p e s m args below meth c s₁ B hml hv
  obtain ⟨rfl, hsz, hR0, hN, hXT, hva⟩ := hv
  have hts := atoms_spec (ws := wsM M) B.pre
  subst hsz
  have hR : HR D s (va_A (wsK ad cs kd fi fr ai ar N) s.heap.size) s.heap ad cs kd fi fr ai ar N := ⟨hR0.1, hR0.2.1, hR0.2.2.1, hR0.2.2.2.1.self, hR0.2.2.2.2⟩
  generalize hAe : va_A (wsK ad cs kd fi fr ai ar N) s.heap.size = A at hR hXT ⊢
  have hA : ∀ q : Nat, s.heap.size ≤ q → A q := fun q hq => by rw [← hAe]; exact Or.inr hq
  rw [lg_entry_eq]
  have C : CX p l e (headSpec (wsM M) (rmK d k z)).room s m (as.map (cv ad)).toArray below meth c M d A :=
    ⟨B.exec, B.bytes, hml, B.returns, findClass_of_methodNamed B.named, fun w hw => hts w (List.mem_cons_of_mem _ hw), B.notSynchronized, fun hh => (name_of_methodNamed B.named B.method).1.trans hh, hA, Nat.le_refl d, Nat.le_refl _, hN⟩
  refine h p l e (headSpec (wsM M) (rmK d k z)).room s m (as.map (cv ad)).toArray below meth c A D ad kd N
    (MQ below (QcK D ad kd N A P) (as.map (cv ad)).toArray s k z A) s.heap [] 0 0 ad cs kd _ C ?_ (by show 0 + k ≤ k; omega) (by show 0 + z ≤ z; omega) va_S.rf hR EX_rf (fun hx => absurd hX0 hx) hXT (fun v hv => by cases hv) (LR_en hn hva)
  intro v1 fi1 fr1 ai1 ar1 N1 ad1 cs1 kd1 H1 locs1 cells1 slots1 pc1 lr1 hq hR1 hE1 hS1 hc1 hs1 hv1 hret
  refine W.widen (k := k) (n := z) hc1 hs1 ?_
  have key : ∀ t : State, t.heap = H1 → s.WarmedH t.vm → QcK D ad kd N A P (as.map (cv ad)).toArray s (.returned (v1.map (cv ad1))) t := fun t ht hW => ⟨⟨v1, fi1, fr1, ai1, ar1, N1, ad1, cs1, kd1, hq, hE1, rfl, by rw [ht]; exact HR_mv hW.alike hR1, hv1⟩, hS1.F ht⟩
  have hlk := B.notSynchronized
  match v1, hret, key with
  | none, hret, key => exact W.vret B.exec B.bytes (B.returns.trans hret.1) key hS1.2.2 hret.2 hlk
  | some (.int x), hret, key =>
    obtain ⟨hd, ty, h1, h2⟩ := hret
    exact W.zret B.exec B.bytes (B.returns.trans h1) h2 key hS1.2.2 hd hlk
  | some (.long x), hret, key => exact W.lret B.exec B.bytes (B.returns.trans hret.1) key hS1.2.2 hret.2 hlk
  | some (.float _), hret, key => exact hret.elim
  | some (.double _), hret, key => exact hret.elim
  | some .null, hret, key => exact hret.elim
  | some (.ref _), hret, key => exact hret.elim
  | some (.retAddr _), hret, key => exact hret.elim
/-- behind a call -/
theorem run_after {p : Program} {l : Launch} {e : Env} {R : Room} {s : State} {m : MethodId} {args : Array Value} {below : List Frame} {meth : Method} {c : Code} {H : Heap} {locs : List Loc} {cells slots mc ms : Nat} {Q : State → Prop} {pc : Nat} {ls : Array Slot} {rest st0 : List Value} {a : Array Value} {A0 A1 : Nat → Prop} {D : va_G} {ad kd : Nat → Nat} {N : Nat} {P : EQ}
    (hr : va_Run p l e R s m args below meth c H locs cells slots mc ms (F0 m pc ls st0) rest (QcK D ad kd N A1 P a) A1) (hS : va_S A0 s.heap H locs) (hA : ∀ q, A1 q → A0 q)
    (kk : ∀ (r : Option Value) (fi' : FI) (fr' : FR) (ai' : FI) (ar' : FR) (N' : Nat) (ad' cs' kd' : Nat → Nat) (H1 : Heap) (locs1 : List Loc), P r fi' fr' ai' ar' N' → EX ad kd N ad' kd' N' → HR D s A0 H1 ad' cs' kd' fi' fr' ai' ar' N' → (∀ w, r = some w → vl kd' N' w) → va_S A0 s.heap H1 locs1 → W p l e R s m args below meth c H1 locs1 (cells + mc) (slots + ms) Q (F0 m (pc + 3) ls ((r.map (cv ad')).toList ++ rest))) : W p l e R s m args below meth c H locs cells slots Q (F0 m pc ls st0) := by
  intro T hT X
  obtain ⟨v, st₀, t, T', L, h0, X', hL, e1, e2, ⟨⟨r, fi', fr', ai', ar', N', ad', cs', kd', hP, hE, hv, hR, hw⟩, hz, hk⟩, st⟩ := hr T hT X
  cases hv
  rw [h0] at hz hk
  have hal : t.vm.Alike s.vm := by rw [← e2]; exact X'.warmed.alike.symm
  obtain ⟨t2, a1, b1⟩ := kk r fi' fr' ai' ar' N' ad' cs' kd' T'.heap (locs ++ L) hP hE (HR_A hA (HR_mv hal (by rw [e1]; exact hR))) hw
    ⟨Nat.le_trans hS.1 (by rw [e1]; exact hz), fun q h1 h2 => by rw [e1, hk q (Nat.lt_of_lt_of_le h1 hS.1) (fun z => h2 (hA q z))]; exact hS.2.1 q h1 h2, fun q hq => by
      rcases List.mem_append.mp hq with h | h
      · exact hS.2.2 q h
      · exact hA _ (hL q h)⟩ T' rfl X'
  exact ⟨t2, st t2 a1, b1⟩
/-- what a callee's tables say; n: how many parameters -/
def MOK (M : MD) (n : Nat) : Prop := plainName M.1.cls = true ∧ M.2.2.2.2.1 = 0 ∧ M.2.2.1 ≤ 13 ∧ (M.1.cls ≠ "java/lang/invoke/MethodHandle" ∧ M.1.cls ≠ "java/lang/invoke/VarHandle" ∧ (parseMethodDescriptor M.1.desc).map (fun d => d.parameters.length) = some n) ∧
  Cond.code M.1 M.2.1 M.2.2.1 M.2.2.2.1 ∈ gw ∧ Cond.initialized M.1.cls ∈ gw
theorem gwM {M : MD} {n : Nat} (h : MOK M n) : ∀ w ∈ wsM M, w ∈ gw := fun w hw => by
  rcases List.mem_cons.mp hw with h1 | h1
  · rw [h1]; exact h.2.2.2.2.1
  · exact h1
theorem Bc_blind {D : va_G} {ad cs kd : Nat → Nat} {fi : FI} {fr : FR} {ai : FI} {ar : FR} {N sz : Nat} {as av : List Value} : FrameBlind (va_Pc av (BcK D ad cs kd fi fr ai ar N sz as)) :=
  fun a U g mk q => ⟨q.1, q.2.1, HR_mv (u := U) (U := U.calling g mk a) (Vm.Alike.refl U.vm) q.2.2.1, XN.same (U := U.calling g mk a) rfl q.2.2.2.1, XT.same (s := U) (U := U.calling g mk a) rfl q.2.2.2.2.1, q.2.2.2.2.2⟩
theorem A_sub {D : va_G} {s : State} {A : Nat → Prop} {H H0 : Heap} {locs : List Loc} {ad cs kd : Nat → Nat} {fi : FI} {fr : FR} {ai : FI} {ar : FR} {N : Nat} (hR : HR D s A H ad cs kd fi fr ai ar N) (hS : va_S A H0 H locs) (hA : ∀ q, H0.size ≤ q → A q) : ∀ q, va_A (wsK ad cs kd fi fr ai ar N) H.size q → A q := fun q hq => by
  rcases hq with ⟨k, e, h⟩ | h
  · exact hR.2.2.2.1.2 k (q, e) h
  · exact hA q (Nat.le_trans hS.1 h)
theorem XT_call {A A' : Nat → Prop} {ad : Nat → Nat} {s U : State} {H : Heap} {locs : List Loc} (hW : s.WarmedH U.vm) (hS : va_S A s.heap H locs) (hU : U.heap = H) (hA : ∀ q, A' q → A q) (h : XT A ad s s.heap) : XT A' ad U U.heap := by
  rw [hU]
  obtain ⟨h1, h2, h3, h4, h5, h6, h7, h8, h9, h10⟩ := h
  exact ⟨vk_R.warm hW h1, va_Nw.warmF hW h2, ((h3.kept hS.2.1).narrow hA).moved hW.alike, ((h4.kept hS.2.1).narrow hA).moved hW.alike, ((h5.kept hS.2.1).narrow hA).moved hW.alike, ((h6.kept hS.2.1).narrow hA).moved hW.alike, ((h7.kept hS.2.1).narrow hA).moved hW.alike, ((h8.kept hS.2.1).narrow hA).moved hW.alike, ((h9.kept hS.2.1).narrow hA).moved hW.alike, h10.elim (fun q => Or.inl (((q.kept hS.2.1).narrow hA).moved hW.alike)) (fun q => Or.inr (((q.kept hS.2.1).narrow hA).moved hW.alike))⟩
theorem Bc_call {D : va_G} {s U : State} {A : Nat → Prop} {H : Heap} {locs : List Loc} {ad cs kd : Nat → Nat} {fi : FI} {fr : FR} {ai : FI} {ar : FR} {N : Nat} {as : List Value} (hR : HR D s A H ad cs kd fi fr ai ar N) (hS : va_S A s.heap H locs) (hA : ∀ q, s.heap.size ≤ q → A q) (hN : XN s) (hT : XT A ad s s.heap) (hv : ∀ v ∈ as, vl kd N v) (hU : U.heap = H) (hW : s.WarmedH U.vm) : BcK D ad cs kd fi fr ai ar N H.size as U :=
  ⟨by rw [hU], by rw [hU]; exact HR_A (fun _ _ => trivial) (HR_mv hW.alike hR), XN.warm hW hN, XT_call hW hS hU (A_sub hR hS hA) hT, hv⟩
theorem cat_cv {ad : Nat → Nat} (st : List Value) : ((st.map (cv ad)).map fun v => v.category) = st.map fun v => v.category := by
  rw [List.map_map]
  exact List.map_congr_left (fun v _ => cv_cat ad v)
theorem EV_mono {M : MD} {d k z pc : Nat} {ls : List (Option Value)} {st : List Value} {fi : FI} {fr : FR} {ai : FI} {ar : FR} {N : Nat} {P Q : EQ} (h : EV M d k z pc ls st fi fr ai ar N P) (g : ∀ r fi fr ai ar N, P r fi fr ai ar N → Q r fi fr ai ar N) : EV M d k z pc ls st fi fr ai ar N Q := by
  intro p l e R s m args below meth c A D ad0 kd0 N0 Q' H locs cells slots ad cs kd lr C T h1 h2 hS hR hE hX hT hv hl
  exact h p l e R s m args below meth c A D ad0 kd0 N0 Q' H locs cells slots ad cs kd lr C (fun v fi fr ai ar N ad cs kd H locs cells slots pc lr hq => T v fi fr ai ar N ad cs kd H locs cells slots pc lr (g _ _ _ _ _ _ hq)) h1 h2 hS hR hE hX hT hv hl
theorem e_callV {M : MD} {d k z pc : Nat} {ls : List (Option Value)} {st st0 : List Value} {fi : FI} {fr : FR} {ai : FI} {ar : FR} {N : Nat} {Q : EQ} {M' : MD} {d' k' z' i n κ o : Nat} {As : List Value} {P : EQ} {k2 z2 : Nat} (hd : decode M.2.1 pc = .ok (.invokevirtual i, 3)) (hm : Cond.methodLink M.1.cls i M'.1 ∈ gw) (ok : MOK M' n) (h12 : κ < 12) (hcl : (cK κ).1 = M'.1.cls) (hi : Cond.instanceMethod M'.1 ∈ gw) (hsel : Cond.selects M'.1.cls M'.1 M'.1 ∈ gw) (hc : CP M' d' k' z' (.ref (rf κ o) :: As) fi fr ai ar N P) (hst : st0 = As.reverse ++ .ref (rf κ o) :: st) (hn : As.length = n) (hen : (enS (.ref (rf κ o) :: As)).length ≤ M'.2.2.1) (hdd : d' < d) (hb : k' + k2 ≤ k ∧ z' + z2 ≤ z) (hcat : (st.map fun v => v.category).sum ≤ 8)
    (kk : ∀ r fi' fr' ai' ar' N', P r fi' fr' ai' ar' N' → EV M d k2 z2 (pc + 3) ls (r.toList ++ st) fi' fr' ai' ar' N' Q) : EV M d k z pc ls st0 fi fr ai ar N Q := by
  intro p l e R s m args below meth c A D ad0 kd0 N0 Q' H locs cells slots ad cs kd lr C T h1 h2 hS hR hE hX hT hv hl
  subst hst
  have hvA : ∀ v ∈ (.ref (rf κ o) :: As), vl kd N v := fun v hm => hv v (by simp only [List.mem_append, List.mem_reverse, List.mem_cons] at hm ⊢; exact hm.elim (fun h => Or.inr (Or.inl h)) (fun h => Or.inl h))
  have hvS : ∀ v ∈ st, vl kd N v := fun v hm => hv v (by simp only [List.mem_append, List.mem_cons]; exact Or.inr (Or.inr hm))
  have hM := met_CT hc ok.1 ok.2.1 hen l D ad cs kd H.size
  have hAs := A_sub hR hS C.2.2.2.2.2.2.2.2.1
  have hfit : (rmK d' k' z').frames + 1 ≤ R.frames ∧ 8 + (M'.2.2.1 + 11) + (rmK d' k' z').locals ≤ R.locals := by
    have g1 := C.2.2.2.2.2.2.2.2.2.1
    have g2 := C.2.2.2.2.2.2.2.2.2.2.1
    have g3 := ok.2.2.1
    refine ⟨?_, ?_⟩
    · show d' + 1 ≤ R.frames
      omega
    · show 8 + (M'.2.2.1 + 11) + (32 * d' + 40) ≤ R.locals
      omega
  have hBc := fun (U : State) (hU : U.heap = H) (hW : s.WarmedH U.vm) => Bc_call hR hS C.2.2.2.2.2.2.2.2.1 C.2.2.2.2.2.2.2.2.2.2.2 hT hvA hU hW
  refine run_after (va_runV (As := As.map (cv ad)) (rest := st.map (cv ad)) (b := ad (rf κ o)) ⟨C.1, C.2.1, C.2.2.1, C.2.2.2.2.1, C.2.2.2.2.2.1⟩ hM (cwV n C.2.2.2.2.2.1 (gw_good (fun w hw => by
      rcases List.mem_append.mp hw with h | h
      · simp only [List.mem_cons, List.mem_nil_iff, or_false] at h
        rcases h with rfl | rfl | rfl | rfl
        · exact hm
        · exact hi
        · exact hsel
        · exact ok.2.2.2.2.2
      · exact gwM ok w h)) rfl rfl rfl ⟨rfl, ok.2.2.2.1⟩ hfit) ⟨Bc_blind, (by
      obtain ⟨hno, hko⟩ := vl_rf (κ := κ) (n := o) (by omega) (hvA _ List.mem_cons_self)
      have hg := wsK_get (ad := ad) (cs := cs) (kd := kd) (fi := fi) (fr := fr) (ai := ai) (ar := ar) hno
      rw [hko, ceK_o h12] at hg
      have := va_recv (HR_K hR) hR.2.2.1 (cK_get h12) hg
      rw [hcl] at this
      exact this), fun U hU hW => ⟨rfl, hBc U hU hW⟩⟩ rfl (by rw [List.length_map]; exact hn) hl.1 (by show List.map (cv ad) (As.reverse ++ .ref (rf κ o) :: st) = (As.map (cv ad)).reverse ++ .ref (ad (rf κ o)) :: st.map (cv ad); rw [List.map_append, List.map_reverse]; rfl) (lv_room (by rw [cat_cv]; exact hcat)) hd ⟨by omega, by omega⟩) hS hAs (fun r fi' fr' ai' ar' N' ad1 cs1 kd1 H1 locs1 hP1 hE1 hR1 hw1 hS1 => ?_)
  have hg := kk r fi' fr' ai' ar' N' hP1 p l e R s m args below meth c A D ad0 kd0 N0 Q' H1 locs1 (cells + k') (slots + z') ad1 cs1 kd1 lr C T (by omega) (by omega) hS1 hR1 (EX_tr hE hE1) (fun hx => by rw [EX_60 hE1 (a := 60) (by decide)]; exact hX hx) (XT_ad (fun a ha => EX_60 hE1 ha) hT)
    (fun v hm => by
      rcases List.mem_append.mp hm with h | h
      · exact hw1 v (by cases r with
          | none => cases h
          | some w => rw [List.mem_singleton.mp h])
      · exact EX_vl hE1 (hvS v h)) (LR_up hE1 hl)
  rw [List.map_append, map_cv hE1 hvS] at hg
  cases r <;> exact hg
theorem e_callS {M : MD} {d k z pc : Nat} {ls : List (Option Value)} {st st0 : List Value} {fi : FI} {fr : FR} {ai : FI} {ar : FR} {N : Nat} {Q : EQ} {M' : MD} {d' k' z' i n : Nat} {As : List Value} {P : EQ} {k2 z2 : Nat} (hd : decode M.2.1 pc = .ok (.invokestatic i, 3)) (hm : Cond.methodLink M.1.cls i M'.1 ∈ gw) (ok : MOK M' n) (hoo : M'.1.cls = M.1.cls) (hi : Cond.static M'.1 ∈ gw) (hc : CP M' d' k' z' (As) fi fr ai ar N P) (hst : st0 = As.reverse ++ st) (hn : As.length = n) (hen : (enS (As)).length ≤ M'.2.2.1) (hdd : d' < d) (hb : k' + k2 ≤ k ∧ z' + z2 ≤ z) (hcat : (st.map fun v => v.category).sum ≤ 8)
    (kk : ∀ r fi' fr' ai' ar' N', P r fi' fr' ai' ar' N' → EV M d k2 z2 (pc + 3) ls (r.toList ++ st) fi' fr' ai' ar' N' Q) : EV M d k z pc ls st0 fi fr ai ar N Q := by
  intro p l e R s m args below meth c A D ad0 kd0 N0 Q' H locs cells slots ad cs kd lr C T h1 h2 hS hR hE hX hT hv hl
  subst hst
  have hvA : ∀ v ∈ (As), vl kd N v := fun v hm => hv v (by simp only [List.mem_append, List.mem_reverse, List.mem_cons] at hm ⊢; exact Or.inl hm)
  have hvS : ∀ v ∈ st, vl kd N v := fun v hm => hv v (by simp only [List.mem_append, List.mem_cons]; exact Or.inr hm)
  have hM := met_CT hc ok.1 ok.2.1 hen l D ad cs kd H.size
  have hAs := A_sub hR hS C.2.2.2.2.2.2.2.2.1
  have hfit : (rmK d' k' z').frames + 1 ≤ R.frames ∧ 8 + (M'.2.2.1 + 11) + (rmK d' k' z').locals ≤ R.locals := by
    have g1 := C.2.2.2.2.2.2.2.2.2.1
    have g2 := C.2.2.2.2.2.2.2.2.2.2.1
    have g3 := ok.2.2.1
    refine ⟨?_, ?_⟩
    · show d' + 1 ≤ R.frames
      omega
    · show 8 + (M'.2.2.1 + 11) + (32 * d' + 40) ≤ R.locals
      omega
  have hBc := fun (U : State) (hU : U.heap = H) (hW : s.WarmedH U.vm) => Bc_call hR hS C.2.2.2.2.2.2.2.2.1 C.2.2.2.2.2.2.2.2.2.2.2 hT hvA hU hW
  refine run_after (va_runS (As := As.map (cv ad)) (rest := st.map (cv ad)) ⟨C.1, C.2.1, C.2.2.1, C.2.2.2.2.1, C.2.2.2.2.2.1⟩ hM (cwS n C.2.2.2.2.2.1 (gw_good (fun w hw => by
      rcases List.mem_append.mp hw with h | h
      · simp only [List.mem_cons, List.mem_nil_iff, or_false] at h
        rcases h with rfl | rfl | rfl
        · exact hm
        · exact hi
        · rw [← hoo]; exact ok.2.2.2.2.2
      · exact gwM ok w h)) rfl rfl rfl ⟨hoo, ok.2.2.2.1⟩ hfit) ⟨Bc_blind, fun U hU hW => ⟨rfl, hBc U hU hW⟩⟩ rfl (by rw [List.length_map]; exact hn) hl.1 (by show List.map (cv ad) (As.reverse ++ st) = (As.map (cv ad)).reverse ++ st.map (cv ad); rw [List.map_append, List.map_reverse]) (lv_room (by rw [cat_cv]; exact hcat)) hd ⟨by omega, by omega⟩) hS hAs (fun r fi' fr' ai' ar' N' ad1 cs1 kd1 H1 locs1 hP1 hE1 hR1 hw1 hS1 => ?_)
  have hg := kk r fi' fr' ai' ar' N' hP1 p l e R s m args below meth c A D ad0 kd0 N0 Q' H1 locs1 (cells + k') (slots + z') ad1 cs1 kd1 lr C T (by omega) (by omega) hS1 hR1 (EX_tr hE hE1) (fun hx => by rw [EX_60 hE1 (a := 60) (by decide)]; exact hX hx) (XT_ad (fun a ha => EX_60 hE1 ha) hT)
    (fun v hm => by
      rcases List.mem_append.mp hm with h | h
      · exact hw1 v (by cases r with
          | none => cases h
          | some w => rw [List.mem_singleton.mp h])
      · exact EX_vl hE1 (hvS v h)) (LR_up hE1 hl)
  rw [List.map_append, map_cv hE1 hvS] at hg
  cases r <;> exact hg
theorem e_callSN {M : MD} {d k z pc : Nat} {ls : List (Option Value)} {st st0 : List Value} {fi : FI} {fr : FR} {ai : FI} {ar : FR} {N : Nat} {Q : EQ} {M' : MD} {d' k' z' i n : Nat} {As : List Value} {P : EQ} {k2 z2 : Nat} (hd : decode M.2.1 pc = .ok (.invokestatic i, 3)) {host : String} (hm : (M.1.cls, i, M'.1, host) ∈ nestM) (ok : MOK M' n) (hi : Cond.static M'.1 ∈ gw) (hc : CP M' d' k' z' (As) fi fr ai ar N P) (hst : st0 = As.reverse ++ st) (hn : As.length = n) (hen : (enS (As)).length ≤ M'.2.2.1) (hdd : d' < d) (hb : k' + k2 ≤ k ∧ z' + z2 ≤ z) (hcat : (st.map fun v => v.category).sum ≤ 8)
    (kk : ∀ r fi' fr' ai' ar' N', P r fi' fr' ai' ar' N' → EV M d k2 z2 (pc + 3) ls (r.toList ++ st) fi' fr' ai' ar' N' Q) : EV M d k z pc ls st0 fi fr ai ar N Q := by
  intro p l e R s m args below meth c A D ad0 kd0 N0 Q' H locs cells slots ad cs kd lr C T h1 h2 hS hR hE hX hT hv hl
  subst hst
  have hvA : ∀ v ∈ (As), vl kd N v := fun v hm => hv v (by simp only [List.mem_append, List.mem_reverse, List.mem_cons] at hm ⊢; exact Or.inl hm)
  have hvS : ∀ v ∈ st, vl kd N v := fun v hm => hv v (by simp only [List.mem_append, List.mem_cons]; exact Or.inr hm)
  have hM := met_CT hc ok.1 ok.2.1 hen l D ad cs kd H.size
  have hAs := A_sub hR hS C.2.2.2.2.2.2.2.2.1
  have hfit : (rmK d' k' z').frames + 1 ≤ R.frames ∧ 8 + (M'.2.2.1 + 11) + (rmK d' k' z').locals ≤ R.locals := by
    have g1 := C.2.2.2.2.2.2.2.2.2.1
    have g2 := C.2.2.2.2.2.2.2.2.2.2.1
    have g3 := ok.2.2.1
    refine ⟨?_, ?_⟩
    · show d' + 1 ≤ R.frames
      omega
    · show 8 + (M'.2.2.1 + 11) + (32 * d' + 40) ≤ R.locals
      omega
  have hBc := fun (U : State) (hU : U.heap = H) (hW : s.WarmedH U.vm) => Bc_call hR hS C.2.2.2.2.2.2.2.2.1 C.2.2.2.2.2.2.2.2.2.2.2 hT hvA hU hW
  refine run_after (va_runSN (As := As.map (cv ad)) (rest := st.map (cv ad)) ⟨C.1, C.2.1, C.2.2.1, C.2.2.2.2.1, C.2.2.2.2.2.1⟩ hM ⟨va_cnB n C.2.2.2.2.2.1 (gw_good (gwM ok)) rfl rfl rfl (C.2.2.2.2.2.2.2.2.2.2.2.1 _ hm) (C.2.2.2.2.2.1 _ ok.2.2.2.2.2) ok.2.2.2.1 hfit, C.2.2.2.2.2.1 _ hi, trivial⟩ ⟨Bc_blind, fun U hU hW => ⟨rfl, hBc U hU hW⟩⟩ rfl (by rw [List.length_map]; exact hn) hl.1 (by show List.map (cv ad) (As.reverse ++ st) = (As.map (cv ad)).reverse ++ st.map (cv ad); rw [List.map_append, List.map_reverse]) (lv_room (by rw [cat_cv]; exact hcat)) hd ⟨by omega, by omega⟩) hS hAs (fun r fi' fr' ai' ar' N' ad1 cs1 kd1 H1 locs1 hP1 hE1 hR1 hw1 hS1 => ?_)
  have hg := kk r fi' fr' ai' ar' N' hP1 p l e R s m args below meth c A D ad0 kd0 N0 Q' H1 locs1 (cells + k') (slots + z') ad1 cs1 kd1 lr C T (by omega) (by omega) hS1 hR1 (EX_tr hE hE1) (fun hx => by rw [EX_60 hE1 (a := 60) (by decide)]; exact hX hx) (XT_ad (fun a ha => EX_60 hE1 ha) hT)
    (fun v hm => by
      rcases List.mem_append.mp hm with h | h
      · exact hw1 v (by cases r with
          | none => cases h
          | some w => rw [List.mem_singleton.mp h])
      · exact EX_vl hE1 (hvS v h)) (LR_up hE1 hl)
  rw [List.map_append, map_cv hE1 hvS] at hg
  cases r <;> exact hg
theorem e_callI {M : MD} {d k z pc : Nat} {ls : List (Option Value)} {st st0 : List Value} {fi : FI} {fr : FR} {ai : FI} {ar : FR} {N : Nat} {Q : EQ} {M' : MD} {d' k' z' i n o : Nat} {As : List Value} {P : EQ} {k2 z2 : Nat} (hd : decode M.2.1 pc = .ok (.invokespecial i, 3)) (hm : Cond.methodLink M.1.cls i M'.1 ∈ gw) (ok : MOK M' n) (hret : M'.2.2.2.1 = none) (hni : M'.1.name = "<init>") (hi : Cond.instanceMethod M'.1 ∈ gw) (hc : CP M' d' k' z' (.ref o :: As) fi fr ai ar N P) (hst : st0 = As.reverse ++ .ref o :: st) (hn : As.length = n) (hen : (enS (.ref o :: As)).length ≤ M'.2.2.1) (hdd : d' < d) (hb : k' + k2 ≤ k ∧ z' + z2 ≤ z) (hcat : (st.map fun v => v.category).sum ≤ 8)
    (kk : ∀ r fi' fr' ai' ar' N', P r fi' fr' ai' ar' N' → EV M d k2 z2 (pc + 3) ls (r.toList ++ st) fi' fr' ai' ar' N' Q) : EV M d k z pc ls st0 fi fr ai ar N Q := by
  intro p l e R s m args below meth c A D ad0 kd0 N0 Q' H locs cells slots ad cs kd lr C T h1 h2 hS hR hE hX hT hv hl
  subst hst
  have hvA : ∀ v ∈ (.ref o :: As), vl kd N v := fun v hm => hv v (by simp only [List.mem_append, List.mem_reverse, List.mem_cons] at hm ⊢; exact hm.elim (fun h => Or.inr (Or.inl h)) (fun h => Or.inl h))
  have hvS : ∀ v ∈ st, vl kd N v := fun v hm => hv v (by simp only [List.mem_append, List.mem_cons]; exact Or.inr (Or.inr hm))
  have hM := met_CT hc ok.1 ok.2.1 hen l D ad cs kd H.size
  have hAs := A_sub hR hS C.2.2.2.2.2.2.2.2.1
  have hfit : (rmK d' k' z').frames + 1 ≤ R.frames ∧ 8 + (M'.2.2.1 + 11) + (rmK d' k' z').locals ≤ R.locals := by
    have g1 := C.2.2.2.2.2.2.2.2.2.1
    have g2 := C.2.2.2.2.2.2.2.2.2.2.1
    have g3 := ok.2.2.1
    refine ⟨?_, ?_⟩
    · show d' + 1 ≤ R.frames
      omega
    · show 8 + (M'.2.2.1 + 11) + (32 * d' + 40) ≤ R.locals
      omega
  have hBc := fun (U : State) (hU : U.heap = H) (hW : s.WarmedH U.vm) => Bc_call hR hS C.2.2.2.2.2.2.2.2.1 C.2.2.2.2.2.2.2.2.2.2.2 hT hvA hU hW
  refine run_after (va_runI (As := As.map (cv ad)) (rest := st.map (cv ad)) (b := ad o) ⟨C.1, C.2.1, C.2.2.1, C.2.2.2.2.1, C.2.2.2.2.2.1⟩ hM (cwI n C.2.2.2.2.2.1 (gw_good (gwM ok)) (by rw [← hret]) rfl rfl (C.2.2.2.2.2.1 _ ok.2.2.2.2.2) (C.2.2.2.2.2.1 _ hm) (C.2.2.2.2.2.1 _ hi) hni ok.2.2.2.1 hfit) ⟨Bc_blind, fun U hU hW => ⟨rfl, hBc U hU hW⟩⟩ rfl (by rw [List.length_map]; exact hn) hl.1 (by show List.map (cv ad) (As.reverse ++ .ref o :: st) = (As.map (cv ad)).reverse ++ .ref (ad o) :: st.map (cv ad); rw [List.map_append, List.map_reverse]; rfl) (lv_room (by rw [cat_cv]; exact hcat)) hd ⟨by omega, by omega⟩) hS hAs (fun r fi' fr' ai' ar' N' ad1 cs1 kd1 H1 locs1 hP1 hE1 hR1 hw1 hS1 => ?_)
  have hg := kk r fi' fr' ai' ar' N' hP1 p l e R s m args below meth c A D ad0 kd0 N0 Q' H1 locs1 (cells + k') (slots + z') ad1 cs1 kd1 lr C T (by omega) (by omega) hS1 hR1 (EX_tr hE hE1) (fun hx => by rw [EX_60 hE1 (a := 60) (by decide)]; exact hX hx) (XT_ad (fun a ha => EX_60 hE1 ha) hT)
    (fun v hm => by
      rcases List.mem_append.mp hm with h | h
      · exact hw1 v (by cases r with
          | none => cases h
          | some w => rw [List.mem_singleton.mp h])
      · exact EX_vl hE1 (hvS v h)) (LR_up hE1 hl)
  rw [List.map_append, map_cv hE1 hvS] at hg
  cases r <;> exact hg
theorem e_callIN {M : MD} {d k z pc : Nat} {ls : List (Option Value)} {st st0 : List Value} {fi : FI} {fr : FR} {ai : FI} {ar : FR} {N : Nat} {Q : EQ} {M' : MD} {d' k' z' i n o : Nat} {As : List Value} {P : EQ} {k2 z2 : Nat} (hd : decode M.2.1 pc = .ok (.invokespecial i, 3)) {host : String} (hm : (M.1.cls, i, M'.1, host) ∈ nestM) (ok : MOK M' n) (hret : M'.2.2.2.1 = none) (hni : M'.1.name = "<init>") (hi : Cond.instanceMethod M'.1 ∈ gw) (hc : CP M' d' k' z' (.ref o :: As) fi fr ai ar N P) (hst : st0 = As.reverse ++ .ref o :: st) (hn : As.length = n) (hen : (enS (.ref o :: As)).length ≤ M'.2.2.1) (hdd : d' < d) (hb : k' + k2 ≤ k ∧ z' + z2 ≤ z) (hcat : (st.map fun v => v.category).sum ≤ 8)
    (kk : ∀ r fi' fr' ai' ar' N', P r fi' fr' ai' ar' N' → EV M d k2 z2 (pc + 3) ls (r.toList ++ st) fi' fr' ai' ar' N' Q) : EV M d k z pc ls st0 fi fr ai ar N Q := by
  intro p l e R s m args below meth c A D ad0 kd0 N0 Q' H locs cells slots ad cs kd lr C T h1 h2 hS hR hE hX hT hv hl
  subst hst
  have hvA : ∀ v ∈ (.ref o :: As), vl kd N v := fun v hm => hv v (by simp only [List.mem_append, List.mem_reverse, List.mem_cons] at hm ⊢; exact hm.elim (fun h => Or.inr (Or.inl h)) (fun h => Or.inl h))
  have hvS : ∀ v ∈ st, vl kd N v := fun v hm => hv v (by simp only [List.mem_append, List.mem_cons]; exact Or.inr (Or.inr hm))
  have hM := met_CT hc ok.1 ok.2.1 hen l D ad cs kd H.size
  have hAs := A_sub hR hS C.2.2.2.2.2.2.2.2.1
  have hfit : (rmK d' k' z').frames + 1 ≤ R.frames ∧ 8 + (M'.2.2.1 + 11) + (rmK d' k' z').locals ≤ R.locals := by
    have g1 := C.2.2.2.2.2.2.2.2.2.1
    have g2 := C.2.2.2.2.2.2.2.2.2.2.1
    have g3 := ok.2.2.1
    refine ⟨?_, ?_⟩
    · show d' + 1 ≤ R.frames
      omega
    · show 8 + (M'.2.2.1 + 11) + (32 * d' + 40) ≤ R.locals
      omega
  have hBc := fun (U : State) (hU : U.heap = H) (hW : s.WarmedH U.vm) => Bc_call hR hS C.2.2.2.2.2.2.2.2.1 C.2.2.2.2.2.2.2.2.2.2.2 hT hvA hU hW
  refine run_after (va_runIN (As := As.map (cv ad)) (rest := st.map (cv ad)) (b := ad o) ⟨C.1, C.2.1, C.2.2.1, C.2.2.2.2.1, C.2.2.2.2.2.1⟩ hM ⟨va_cnB n C.2.2.2.2.2.1 (gw_good (gwM ok)) (by rw [← hret]) rfl rfl (C.2.2.2.2.2.2.2.2.2.2.2.1 _ hm) (C.2.2.2.2.2.1 _ ok.2.2.2.2.2) ok.2.2.2.1 hfit, hni, C.2.2.2.2.2.1 _ hi⟩ ⟨Bc_blind, fun U hU hW => ⟨rfl, hBc U hU hW⟩⟩ rfl (by rw [List.length_map]; exact hn) hl.1 (by show List.map (cv ad) (As.reverse ++ .ref o :: st) = (As.map (cv ad)).reverse ++ .ref (ad o) :: st.map (cv ad); rw [List.map_append, List.map_reverse]; rfl) (lv_room (by rw [cat_cv]; exact hcat)) hd ⟨by omega, by omega⟩) hS hAs (fun r fi' fr' ai' ar' N' ad1 cs1 kd1 H1 locs1 hP1 hE1 hR1 hw1 hS1 => ?_)
  have hg := kk r fi' fr' ai' ar' N' hP1 p l e R s m args below meth c A D ad0 kd0 N0 Q' H1 locs1 (cells + k') (slots + z') ad1 cs1 kd1 lr C T (by omega) (by omega) hS1 hR1 (EX_tr hE hE1) (fun hx => by rw [EX_60 hE1 (a := 60) (by decide)]; exact hX hx) (XT_ad (fun a ha => EX_60 hE1 ha) hT)
    (fun v hm => by
      rcases List.mem_append.mp hm with h | h
      · exact hw1 v (by cases r with
          | none => cases h
          | some w => rw [List.mem_singleton.mp h])
      · exact EX_vl hE1 (hvS v h)) (LR_up hE1 hl)
  rw [List.map_append, map_cv hE1 hvS] at hg
  cases r <;> exact hg
