/-! THE CLAIM OUT OF ONE WALK OF THE LAW'S BODY. Your part is whole_start (and what it stands on); all else here is the same for every law, but numbers. -/
def R_law : String := "SpanMapLaw"
def lw_P (b : Addr) (xs : List Int32) (args : Array Value) (s : State) : Prop := args = #[.ref b] ∧ s.IntsAt b xs ∧ xs.length ≤ 3072 ∧ (Jvm.Cond.and given_1 narrow_1).before args s = true
def lw_Q (_ : Array Value) (s : State) (o : Outcome) (t : State) : Prop := o = .returned (some (.int 1)) ∧ Framed s o t [] 212554 8464588
def lw_Z (below : List Frame) (a : Array Value) (s : State) : State → Prop := fun t => ∃ o, t.status = .running ∧ Ended t below o ∧ lw_Q a s o t
/-- the law's own end, with 1 on the stack, nothing written that was there before, its room as the claim has it -/
theorem lw_ret {p : Program} {l : Launch} {e : Env} {s : State} {m : MethodId} {below : List Frame} {meth : Method} {c : Code} {b : Nat} (hx : p.tables.exec = Jvm.exec) (hb : c.code = code) (hr : meth.sig.returnType = ret) (hlocks : meth.locks = false) {pc : Nat} {H : Heap} {ls : Array Slot} (hdg : decode code pc = .ok (.ireturn, 1)) : W p l e room_1 s m #[Value.ref b] below meth c H [] 212554 8464588 (lw_Z below #[Value.ref b] s) (F0 m pc ls [.int 1]) := by
  intro T hT X
  obtain ⟨fs, hret, hrun, hended, hW, hframe⟩ := X.leave (v := some (.int 1)) (hlocks := hlocks) (fun h => by rw [hr] at h; cases h)
  have hmeth' : T.vm.method? m = some meth := X.method'
  refine ⟨T.setFrames fs, ?_, .returned (some (.int 1)), hrun, hended, rfl, ⟨_, rfl⟩, hW, hframe⟩
  jvm_step X.here [X.here.top, hx, hb, hdg, hmeth', hr, ret, narrow_b1]
  (try refine ⟨rfl, ?_⟩); (try refine ⟨rfl, ?_⟩)
  first | (intro acts; rw [hret _ acts rfl rfl rfl]) | rw [hret _ _ rfl rfl rfl]
  exact Steps.refl _
/-- what holds at the law's entry: the machine, the code, the tables' words (any of lw_tbl by 'hts w (by decide +kernel)'), the script of L ints xs at the cell b, what the Statement gives of the start (any of its parts by flat_of_before) -/
def lw_At (p : Program) (s : State) (m : MethodId) (meth : Method) (c : Code) (b L : Nat) (xs : Nat → Int32) : Prop :=
  p.tables.exec = Jvm.exec ∧ c.code = code ∧ meth.sig.returnType = ret ∧ c.maxLocals = 4 ∧ s.vm.findClass R_law = some m.cls ∧ (∀ w ∈ lw_tbl, w.before #[Value.ref b] s = true) ∧ va_X b L xs s s.heap ∧ b < s.heap.size ∧ meth.locks = false ∧ (Jvm.Cond.and given_1 narrow_1).before #[Value.ref b] s = true
def mL (L : Nat) (xs : Nat → Int32) : MD := (x, code, 4, ret, L + 1, xs)
theorem inst_all : ∀ κ, κ < 12 → Cond.instantiable (cK κ).1 (cK κ).2.2 ∈ lw_tbl := by decide +kernel
theorem nest_all : nestM.all (fun q => decide (Cond.methodLinkNest q.1 q.2.1 q.2.2.1 q.2.2.2 ∈ lw_tbl)) = true := by decide +kernel
theorem ao_all : aoL.all (fun C => decide (Cond.arrayOver (.object C) ∈ lw_tbl)) = true := by decide +kernel
theorem XN_start {s : State} {args : Array Value} (hts : ∀ w ∈ lw_tbl, w.before args s = true) : XN s :=
  ⟨fun q hq => va_Nw.of rfl (hts _ (of_decide_eq_true (List.all_eq_true.mp nest_all q hq))), fun C hC => va_AO.of (hts _ (of_decide_eq_true (List.all_eq_true.mp ao_all C hC)))⟩
theorem known_all {s : State} {args : Array Value} (hts : ∀ w ∈ lw_tbl, w.before args s = true) : ∃ D : va_G, ∀ (c : Nat) (q : vw_C), vwCl[c]? = some q → u_Kn s q.1 q.2.1 q.2.2 (D.1 c) (D.2 c) := by
  have h : ∀ κ, ∃ (y : ClassId × (Nat → Nat)), κ < 12 → u_Kn s (cK κ).1 (cK κ).2.1 (cK κ).2.2 y.1 y.2 := by
    intro κ
    by_cases hκ : κ < 12
    · obtain ⟨c, i, g⟩ := u_known (n := (cK κ).2.2) hts (fun w hw => (List.mem_filter.mp (cK_in hκ w hw)).1) (hts _ (inst_all κ hκ))
      exact ⟨(c, i), fun _ => g⟩
    · exact ⟨(0, fun _ => 0), fun q => absurd q hκ⟩
  refine ⟨(fun κ => (Classical.choose (h κ)).1, fun κ => (Classical.choose (h κ)).2), fun c q hq => ?_⟩
  have hc : c < 12 := (List.getElem?_eq_some_iff.mp hq).1
  rw [cK_get hc] at hq
  obtain rfl := Option.some.inj hq
  exact Classical.choose_spec (h c) hc
theorem start_of_EV {p : Program} {e : Env} {s : State} {m : MethodId} {below : List Frame} {meth : Method} {c : Code} (l : Launch) {b L : Nat} {xs : Nat → Int32} (C0 : lw_At p s m meth c b L xs)
    (h : EV (mL L xs) 11 212554 8464588 0 [some (.ref 60), none, none, none] [] (fun _ _ => 0) (fun _ _ => none) (fun _ _ => 0) (fun _ _ => none) 0 (fun v _ _ _ _ _ => v = some (.int 1))) :
    W p l e room_1 s m #[Value.ref b] below meth c s.heap [] 0 0 (lw_Z below #[Value.ref b] s) (entryFrame m ([Value.ref b] : List Value).toArray 4) := by
  obtain ⟨hx, hb, hr, hml, hown, hts, hX, hbl, hlocks, hgv⟩ := id C0
  obtain ⟨D, hD⟩ := known_all hts
  rw [lg_entry_eq]
  have hLR : LR (fun _ => b) (fun _ => 0) 0 4 ((lg_sl ([Value.ref b]) ++ List.replicate (4 - (lg_sl ([Value.ref b])).length) Slot.unset).toArray) [some (.ref 60), none, none, none] :=
    LR_en (ad := fun _ => b) (kd := fun _ => 0) (N := 0) (n := 4) (vs := [.ref 60]) (by decide) (fun v hv => by rw [List.mem_singleton.mp hv]; exact Or.inl (by decide))
  refine h p l e room_1 s m #[Value.ref b] below meth c (fun q => s.heap.size ≤ q) D (fun _ => b) (fun _ => 0) 0 (lw_Z below #[Value.ref b] s) s.heap [] 0 0 (fun _ => b) (fun _ => 0) (fun _ => 0) _
    ⟨hx, hb, hml, hr, hown, fun w hw => hts w (List.mem_filter.mp hw).1, hlocks, fun hh => absurd (show x.name = "<init>" from hh) (by decide), fun _ h => h, Nat.le_of_ble_eq_true rfl, Nat.le_of_ble_eq_true rfl, XN_start hts⟩ ?_ (Nat.le_of_ble_eq_true rfl) (Nat.le_of_ble_eq_true rfl) va_S.rf ?_ EX_rf (fun _ => ⟨hX, hbl, Nat.not_le.mpr hbl⟩) trivial (fun v hv => by cases hv) hLR
  · intro v fi fr ai ar N ad cs kd H locs cells slots pc lr hq hR hE hS hc hs hv hret
    subst hq
    refine va_forget hS.2.2 (W.widen (k := 212554) (n := 8464588) hc hs ?_)
    exact lw_ret hx hb hr hlocks hret.1
  · refine ⟨hD, fun n hn => absurd hn (Nat.not_lt_zero n), fun k q hk => by simp [wsK] at hk, ⟨fun i j p q hp => by simp [wsK] at hp, fun k q hk => by simp [wsK] at hk⟩, fun n hn => absurd hn (Nat.not_lt_zero n), fun f a b hb => (nomatch hb), fun a i b hb => (nomatch hb), fun a _ => ⟨fun _ => ⟨rfl, rfl⟩, fun _ => ⟨rfl, rfl⟩⟩⟩
