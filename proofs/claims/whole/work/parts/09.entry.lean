/-! THE CLAIM OUT OF ONE WALK OF THE LAW'S BODY. Your part is whole_start (and what it stands on); all else here is the same for every law, but numbers. -/
def R_law : String := "SpanMapLaw"
def lw_P (b : Addr) (xs : List Int32) (args : Array Value) (s : State) : Prop := args = #[.ref b] ∧ s.IntsAt b xs ∧ xs.length ≤ 3072 ∧ (Jvm.Cond.and given_1 narrow_1).before args s = true
def lw_Q (_ : Array Value) (s : State) (o : Outcome) (t : State) : Prop := o = .returned (some (.int 1)) ∧ Framed s o t [] room_1.cells room_1.slots
def lw_Z (below : List Frame) (a : Array Value) (s : State) : State → Prop := fun t => ∃ o, t.status = .running ∧ Ended t below o ∧ lw_Q a s o t
/-- the law's own end, with 1 on the stack, nothing written that was there before, its room as the claim has it -/
theorem lw_ret {p : Program} {l : Launch} {e : Env} {s : State} {m : MethodId} {below : List Frame} {meth : Method} {c : Code} {b : Nat} (hx : p.tables.exec = Jvm.exec) (hb : c.code = code) (hr : meth.sig.returnType = ret) (hlocks : meth.locks = false) {pc : Nat} {H : Heap} {ls : Array Slot} (hdg : decode code pc = .ok (.ireturn, 1)) : W p l e room_1 s m #[Value.ref b] below meth c H [] room_1.cells room_1.slots (lw_Z below #[Value.ref b] s) (F0 m pc ls [.int 1]) := by
  intro T hT X
  obtain ⟨fs, hret, hrun, hended, hW, hframe⟩ := X.leave (v := some (.int 1)) (hlocks := hlocks) (fun h => by rw [hr] at h; cases h)
  have hmeth' : T.vm.method? m = some meth := X.method'
  refine ⟨T.setFrames fs, ?_, .returned (some (.int 1)), hrun, hended, rfl, ⟨_, rfl⟩, hW, hframe⟩
  jvm_step X.here [X.here.top, hx, hb, hdg, hmeth', hr, ret, narrow_b1]
  (try refine ⟨rfl, ?_⟩); (try refine ⟨rfl, ?_⟩)
  first | (intro acts; rw [hret _ acts rfl rfl rfl]) | rw [hret _ _ rfl rfl rfl]
  exact Steps.refl _
/-- what holds at the law's entry: the machine, the code, the tables' words (any of lw_tbl by 'hts w (by decide +kernel)'), the script of L ints xs at the cell b, what the Statement gives of the start (any of its parts by flat_of_before) -/
def lw_At (p : Program) (s : State) (m : MethodId) (meth : Method) (c : Code) (b L : Nat) (xs : Nat → Int32) : Prop :=
  p.tables.exec = Jvm.exec ∧ c.code = code ∧ meth.sig.returnType = ret ∧ c.maxLocals = 4 ∧ s.vm.findClass R_law = some m.cls ∧ (∀ w ∈ lw_tbl, w.before #[Value.ref b] s = true) ∧ va_X b L xs s s.heap ∧ b < s.heap.size ∧ meth.locks = false ∧ (Jvm.Cond.and given_1 narrow_1).before #[Value.ref b] s = true
def mL (L : Nat) (xs : Nat → Int32) : MD := (x, code, 4, ret, L + 1, xs)
theorem inst_all : ∀ κ, κ < 12 → Cond.instantiable (cK κ).1 (cK κ).2.2 ∈ lw_tbl := by decide +kernel
theorem nest_all : nestM.all (fun q => decide (Cond.methodLinkNest q.1 q.2.1 q.2.2.1 q.2.2.2 ∈ lw_tbl)) = true := by decide +kernel
theorem ao_all : aoL.all (fun C => decide (Cond.arrayOver (.object C) ∈ lw_tbl)) = true := by decide +kernel
theorem XN_start {s : State} {args : Array Value} (hts : ∀ w ∈ lw_tbl, w.before args s = true) : XN s :=
  ⟨fun q hq => va_Nw.of rfl (hts _ (of_decide_eq_true (List.all_eq_true.mp nest_all q hq))), fun C hC => va_AO.of (hts _ (of_decide_eq_true (List.all_eq_true.mp ao_all C hC)))⟩
theorem known_all {s : State} {args : Array Value} (hts : ∀ w ∈ lw_tbl, w.before args s = true) : ∃ D : va_G, ∀ (c : Nat) (q : vw_C), vwCl[c]? = some q → u_Kn s q.1 q.2.1 q.2.2 (D.1 c) (D.2 c) := by
  have h : ∀ κ, ∃ (y : ClassId × (Nat → Nat)), κ < 12 → u_Kn s (cK κ).1 (cK κ).2.1 (cK κ).2.2 y.1 y.2 := by
    intro κ
    by_cases hκ : κ < 12
    · obtain ⟨c, i, g⟩ := u_known (n := (cK κ).2.2) hts (fun w hw => (List.mem_filter.mp (cK_in hκ w hw)).1) (hts _ (inst_all κ hκ))
      exact ⟨(c, i), fun _ => g⟩
    · exact ⟨(0, fun _ => 0), fun q => absurd q hκ⟩
  refine ⟨(fun κ => (Classical.choose (h κ)).1, fun κ => (Classical.choose (h κ)).2), fun c q hq => ?_⟩
  have hc : c < 12 := (List.getElem?_eq_some_iff.mp hq).1
  rw [cK_get hc] at hq
  obtain rfl := Option.some.inj hq
  exact Classical.choose_spec (h c) hc
def adS (b k1 v1 t q a : Nat) : Nat := if a = 61 then k1 else if a = 62 then v1 else if a = 63 then t else if a = 124 then q else b
theorem gv_nar {args : Array Value} {s : State} (hgv : (Jvm.Cond.and given_1 narrow_1).before args s = true) : ∀ c ∈ flatC narrow_1, c.before args s = true := fun c hc => flat_of_before _ hgv c (List.mem_append_right _ hc)
theorem nv_s : ∀ j, j < 81 → Cond.eq (.elem (.field (.string "SpanMap$Script" 69) "java/lang/String" "value" "[B") (.int (Int32.ofNat j))) (.int (vbT.getD j 0)) ∈ flatC narrow_1 := by decide +kernel
theorem nv_n : ∀ j, j < 15 → Cond.eq (.elem (.static "SpanMap" "VERB_NUMBERS" "[I") (.int (Int32.ofNat j))) (.int (vnT.getD j 0)) ∈ flatC narrow_1 := by decide +kernel
theorem XT_start {args : Array Value} {s : State} {A : Nat → Prop} (hts : ∀ w ∈ lw_tbl, w.before args s = true) (hgv : (Jvm.Cond.and given_1 narrow_1).before args s = true) (hA : ∀ a : Nat, a < s.heap.size → ¬ A a) : ∃ k1 v1 t q : Nat, ∀ b, XT A (adS b k1 v1 t q) s s.heap := by
  have tw : ∀ {i : Nat} {w : Cond}, tables_1[i]? = some w → w.before args s = true := fun h => hts _ (List.mem_append_right _ (List.mem_of_getElem? h))
  have nv := gv_nar hgv
  have z0 : ∀ {i : Nat}, i < 1 → i = 0 := fun h => Nat.lt_one_iff.mp h
  obtain ⟨adK, adV, hS, hE⟩ := vk_Sof (N := 1) (tm := fun _ => .string "SpanMap$Script" 69) (len := [81]) (byt := [vbT]) (A := A) (args := args) (s := s)
    (fun i hi => by rw [z0 hi]; exact Nat.lt_of_lt_of_le (show 81 < 100 by decide) (by decide))
    (fun i _ => nv _ (by decide +kernel)) (fun i _ => nv _ (by decide +kernel)) (fun i _ => nv _ (by decide +kernel)) (fun i hi => by rw [z0 hi]; exact nv _ (by decide +kernel))
    (fun i hi j hj => by rw [z0 hi] at hj ⊢; exact nv _ (nv_s j hj)) (fun i j hi hj hij => absurd ((z0 hi).trans (z0 hj).symm) hij) hA
  have h0 := hS.1 0 (by decide)
  obtain ⟨t, ht, hT⟩ := va_Tof (tm := .static "SpanMap" "VERB_NUMBERS" "[I") (ty := .int) (N := 15) (f := fun j => .int (vnT.getD j 0)) (A := A) (args := args) (s := s) (by decide) (nv _ (by decide +kernel)) (va_eqt (nv _ (by decide +kernel))) (fun j hj => va_eqt (nv _ (nv_n j hj))) hA
  have hZ := va_Zref (C := "SpanMap") (n := "VERB_NUMBERS") (d := "[I") (A := A) (tw (i := 861) (by decide +kernel)) (tw (i := 1) (by decide +kernel)) ht hA
  have hC := va_Zof (C := "java/lang/String") (n := "COMPACT_STRINGS") (d := "Z") (v := .int 1) (A := A) (tw (i := 817) (by decide +kernel)) (tw (i := 15) (by decide +kernel)) (va_eqi (nv _ (by decide +kernel))) hA
  have hR := vk_R.of (own := "SpanMap$Script") (k := 69) (tx := vbX) (tw (i := 807) (by decide +kernel)) (hE 0 (by decide))
  have hF := va_Nw.of (w := .fieldLinkNest "SpanMap$Script" 52 "SpanMap" "VERB_NUMBERS" "[I" "SpanMap") rfl (tw (i := 860) (by decide +kernel))
  have hQ := va_Zqof (C := "jdk/internal/util/Preconditions") (n := "SIOOBE_FORMATTER") (d := "Ljava/util/function/BiFunction;") (A := A) (tw (i := 833) (by decide +kernel)) (tw (i := 17) (by decide +kernel)) (nv _ (by decide +kernel)) hA
  rcases hQ with hQ | ⟨q, hQ⟩
  · exact ⟨adK 0, adV 0, t, 0, fun b => ⟨hR, hF, h0.1, h0.2.1, h0.2.2.1, h0.2.2.2, hC, hZ, hT, Or.inl hQ⟩⟩
  · exact ⟨adK 0, adV 0, t, q, fun b => ⟨hR, hF, h0.1, h0.2.1, h0.2.2.1, h0.2.2.2, hC, hZ, hT, Or.inr hQ⟩⟩
theorem start_of_EV {p : Program} {e : Env} {s : State} {m : MethodId} {below : List Frame} {meth : Method} {c : Code} (l : Launch) {b L : Nat} {xs : Nat → Int32} (C0 : lw_At p s m meth c b L xs)
    (h : EV (mL L xs) 11 room_1.cells room_1.slots 0 [some (.ref 60), none, none, none] [] (fun _ _ => 0) (fun _ _ => none) (fun _ _ => 0) (fun _ _ => none) 0 (fun v _ _ _ _ _ => v = some (.int 1))) :
    W p l e room_1 s m #[Value.ref b] below meth c s.heap [] 0 0 (lw_Z below #[Value.ref b] s) (entryFrame m ([Value.ref b] : List Value).toArray 4) := by
  obtain ⟨hx, hb, hr, hml, hown, hts, hX, hbl, hlocks, hgv⟩ := id C0
  obtain ⟨D, hD⟩ := known_all hts
  obtain ⟨k1, v1, tt, qq, hXT⟩ := XT_start (A := fun q => s.heap.size ≤ q) hts hgv (fun a ha => Nat.not_le.mpr ha)
  rw [lg_entry_eq]
  have hLR : LR (adS b k1 v1 tt qq) (fun _ => 0) 0 4 ((lg_sl ([Value.ref b]) ++ List.replicate (4 - (lg_sl ([Value.ref b])).length) Slot.unset).toArray) [some (.ref 60), none, none, none] :=
    LR_en (ad := adS b k1 v1 tt qq) (kd := fun _ => 0) (N := 0) (n := 4) (vs := [.ref 60]) (by decide) (fun v hv => by rw [List.mem_singleton.mp hv]; exact Or.inl (by decide))
  refine h p l e room_1 s m #[Value.ref b] below meth c (fun q => s.heap.size ≤ q) D (adS b k1 v1 tt qq) (fun _ => 0) 0 (lw_Z below #[Value.ref b] s) s.heap [] 0 0 (adS b k1 v1 tt qq) (fun _ => 0) (fun _ => 0) _
    ⟨hx, hb, hml, hr, hown, fun w hw => hts w (List.mem_filter.mp hw).1, hlocks, fun hh => absurd (show x.name = "<init>" from hh) (by decide), fun _ h => h, Nat.le_of_ble_eq_true rfl, Nat.le_of_ble_eq_true rfl, XN_start hts⟩ ?_ (Nat.le_of_ble_eq_true rfl) (Nat.le_of_ble_eq_true rfl) va_S.rf ?_ EX_rf (fun _ => ⟨hX, hbl, Nat.not_le.mpr hbl⟩) (hXT b) (fun v hv => by cases hv) hLR
  · intro v fi fr ai ar N ad cs kd H locs cells slots pc lr hq hR hE hS hc hs hv hret
    subst hq
    refine va_forget hS.2.2 (W.widen (k := room_1.cells) (n := room_1.slots) hc hs ?_)
    exact lw_ret hx hb hr hlocks hret.1
  · refine ⟨hD, fun n hn => absurd hn (Nat.not_lt_zero n), fun k q hk => by simp [wsK] at hk, ⟨fun i j p q hp => by simp [wsK] at hp, fun k q hk => by simp [wsK] at hk⟩, fun n hn => absurd hn (Nat.not_lt_zero n), fun f a b hb => (nomatch hb), fun a i b hb => (nomatch hb), fun a _ => ⟨fun _ => ⟨rfl, rfl⟩, fun _ => ⟨rfl, rfl⟩⟩⟩
