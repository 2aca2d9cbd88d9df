abbrev MD : Type := MethodName × ByteArray × Nat × Option FieldType × Nat × (Nat → Int32)
abbrev FI : Type := Nat → Nat → Int32
abbrev FR : Type := Nat → Nat → Option Nat
abbrev EQ : Type := Option Value → FI → FR → FI → FR → Nat → Prop
def gw : List Cond := lw_tbl.filter goodWord
theorem gw_mem {w : Cond} (h : w ∈ lw_tbl) (g : goodWord w = true) : w ∈ gw := List.mem_filter.mpr ⟨h, g⟩
theorem gw_good {ws : List Cond} (h : ∀ w ∈ ws, w ∈ gw) : GoodIn gw ws := fun w hw => ⟨h w hw, good_of_word (List.mem_filter.mp (h w hw)).2⟩
def tyK (κ : Nat) : Nat → FieldType := match κ with
  | 0 => tyX0 | 1 => tyX1 | 2 => tyX2 | 3 => tyX3 | 4 => tyX4 | 5 => tyX5 | 6 => tyX6 | 7 => tyX7 | 8 => tyX8 | 9 => tyX9 | 10 => tyX10 | 11 => tyX11
  | _ => fun _ => .int
def cK (κ : Nat) : vw_C := vwCl.getD κ ("", fun _ => ("", "", "", false), 0)
def isR (ty : FieldType) : Bool := match ty with
  | .object _ => true
  | .array _ => true
  | _ => false
def rf (κ n : Nat) : Nat := 64 * n + κ
def lenK (κ : Nat) : Nat := match κ with
  | 16 => 32 | 17 => 60 | 18 => 6000 | 19 => 1000 | 20 => 6 | 21 => 12 | 22 => 15 | 23 => 6 | 24 => 2048 | 25 => 1001 | 26 => 33 | 27 => 32 | 28 => 7 | 29 => 400 | 30 => 120 | 31 => 40
  | 32 => 8597 | 33 => 51348 | 34 => 12000 | 35 => 400 | 36 => 160 | _ => 0
def elK (κ : Nat) : FieldType := match κ with
  | 20 => .object RX8 | 21 => .object RX4 | 28 => .object RX9 | 27 => .boolean | 29 => .char | 35 => .byte | _ => .int
def fvK (ad : Nat → Nat) (fi : FI) (fr : FR) (κ a k : Nat) : Value := if isR (tyK κ k) then va_rf ((fr (32 * κ + k) a).map ad) else .int (fi (32 * κ + k) a)
def ceK (ad cs : Nat → Nat) (fi : FI) (fr : FR) (ai : FI) (ar : FR) (n κ : Nat) : va_E :=
  if κ < 16 then .inr (κ, (List.range (cK κ).2.2).map (fvK ad fi fr κ (rf κ n)))
  else if isR (elK κ) then .inl (cs n, lenK κ, .inr (.inr (.inr (.inr (fun i => (ar (rf κ n) i).map ad)))))
  else .inl (cs n, lenK κ, .inl (ai (rf κ n)))
def wsK (ad cs kd : Nat → Nat) (fi : FI) (fr : FR) (ai : FI) (ar : FR) (N : Nat) : va_W :=
  (List.range N).map (fun n => (ad (rf (kd n) n), ceK ad cs fi fr ai ar n (kd n)))
def vl (kd : Nat → Nat) (N : Nat) (v : Value) : Prop := match v with
  | .ref a => 60 ≤ a % 64 ∨ (a / 64 < N ∧ kd (a / 64) = a % 64)
  | _ => True
def cv (ad : Nat → Nat) (v : Value) : Value := match v with
  | .ref a => .ref (ad a)
  | v => v
def okK (κ : Nat) : Prop := κ < 12 ∨ (16 ≤ κ ∧ κ < 37)
/-- the machine's heap H, as the state s knows its classes, holds the abstract heap -/
def HR (D : va_G) (s : State) (A : Nat → Prop) (H : Heap) (ad cs kd : Nat → Nat) (fi : FI) (fr : FR) (ai : FI) (ar : FR) (N : Nat) : Prop :=
  (∀ (c : Nat) (q : vw_C), vwCl[c]? = some q → u_Kn s q.1 q.2.1 q.2.2 (D.1 c) (D.2 c)) ∧
  (∀ n, n < N → 16 ≤ kd n → ArrOfT s (cs n) (elK (kd n)) ∧ va_RA s (cs n) (elK (kd n))) ∧
  va_P D vwCl (wsK ad cs kd fi fr ai ar N) H ∧ va_D A (wsK ad cs kd fi fr ai ar N) ∧
  (∀ n, n < N → okK (kd n)) ∧
  (∀ f a b, fr f a = some b → vl kd N (.ref b)) ∧ (∀ a i b, ar a i = some b → vl kd N (.ref b)) ∧
  (∀ a, N ≤ a / 64 → (∀ f, fi f a = 0 ∧ fr f a = none) ∧ ∀ i, ai a i = 0 ∧ ar a i = none)
def nestM : List (String × Nat × MethodName × String) := [("SpanMap$World", 20, yX8_init, "SpanMap"), ("SpanMap$World", 46, yX4_init, "SpanMap"), ("SpanMap", 14, yX3_init, "SpanMap"), ("SpanMap", 17, yX6_init, "SpanMap"), ("SpanMap", 57, yX0_init, "SpanMap"), ("SpanMap", 64, yX7_init, "SpanMap"), ("SpanMap$Asking", 19, yX10_isClient, "SpanMap"), ("SpanMap$Asking", 43, yX10_isKey, "SpanMap"), ("SpanMap$Moving", 31, yX10_isServer, "SpanMap"), ("SpanMap$World", 69, yX10_isServer, "SpanMap")]
def aoL : List String := [RX8, RX4, RX9]
def XN (s : State) : Prop := (∀ q ∈ nestM, va_Nw (.methodLinkNest q.1 q.2.1 q.2.2.1 q.2.2.2) s) ∧ (∀ C ∈ aoL, va_AO C s)
theorem XN.warm {s U : State} (hW : s.WarmedH U.vm) (h : XN s) : XN U := ⟨fun q hq => va_Nw.warmM hW (h.1 q hq), fun C hC => va_AO.moved hW.alike (h.2 C hC)⟩
theorem XN.same {s U : State} (hv : s.vm = U.vm) (h : XN s) : XN U := ⟨fun q hq => va_Nw.same rfl hv (h.1 q hq), fun C hC => va_AO.moved (by rw [hv]; exact Vm.Alike.refl U.vm) (h.2 C hC)⟩
def vbM : List Nat := [102, 101, 116, 99, 104, 32, 114, 101, 97, 100, 32, 119, 114, 105, 116, 101, 32, 115, 112, 108, 105, 116, 32, 109, 105, 100, 100, 108, 101, 32, 106, 111, 105, 110, 32, 109, 111, 118, 101, 32, 115, 116, 101, 112, 32, 102, 97, 105, 108, 32, 100, 111, 119, 110, 32, 117, 112, 32, 114, 101, 99, 111, 118, 101, 114, 32, 103, 105, 118, 101, 32, 97, 103, 101, 32, 99, 104, 117, 110, 107, 32]
def vnM : List Nat := [1, 2, 3, 2, 1, 1, 2, 2, 2, 1, 1, 1, 1, 0, 1]
def vbT : List Int32 := vbM.map nI
def vnT : List Int32 := vnM.map nI
def vbX : String := "fetch read write split middle join move step fail down up recover give age chunk "
/-- the cells beside the world that are only read -/
def XT (A : Nat → Prop) (ad : Nat → Nat) (s : State) (H : Heap) : Prop :=
  vk_R "SpanMap$Script" 69 vbX (ad 61) s ∧ va_Nw (.fieldLinkNest "SpanMap$Script" 52 "SpanMap" "VERB_NUMBERS" "[I" "SpanMap") s ∧
  va_O "java/lang/String" (ad 61) A s H ∧ va_OF "java/lang/String" "code\x72" "B" (.int 0) (ad 61) A s H ∧ va_OF "java/lang/String" "value" "[B" (.ref (ad 62)) (ad 61) A s H ∧ va_T .byte (ad 62) 81 (fun j => .int (vbT.getD j 0)) A s H ∧
  va_Z "java/lang/String" "COMPACT_STRINGS" "Z" (.int 1) A s H ∧ va_Z "SpanMap" "VERB_NUMBERS" "[I" (.ref (ad 63)) A s H ∧ va_T .int (ad 63) 15 (fun j => .int (vnT.getD j 0)) A s H ∧
  (va_Z "jdk/internal/util/Preconditions" "SIOOBE_FORMATTER" "Ljava/util/function/BiFunction;" .null A s H ∨ va_Z "jdk/internal/util/Preconditions" "SIOOBE_FORMATTER" "Ljava/util/function/BiFunction;" (.ref (ad 124)) A s H)
theorem XT.same {A : Nat → Prop} {ad : Nat → Nat} {s U : State} {H : Heap} (hv : s.vm = U.vm) (h : XT A ad s H) : XT A ad U H := by
  have hA : s.vm.Alike U.vm := by rw [hv]; exact Vm.Alike.refl U.vm
  obtain ⟨h1, h2, h3, h4, h5, h6, h7, h8, h9, h10⟩ := h
  exact ⟨vk_R.same hv.symm h1, va_Nw.same rfl hv h2, h3.moved hA, h4.moved hA, h5.moved hA, h6.moved hA, h7.moved hA, h8.moved hA, h9.moved hA, h10.elim (fun q => Or.inl (q.moved hA)) (fun q => Or.inr (q.moved hA))⟩
/-- what stays through a method -/
def CX (p : Program) (l : Launch) (e : Env) (R : Room) (s : State) (m : MethodId) (args : Array Value) (below : List Frame) (meth : Method) (c : Code) (M : MD) (d : Nat) (A : Nat → Prop) : Prop :=
  p.tables.exec = Jvm.exec ∧ c.code = M.2.1 ∧ c.maxLocals = M.2.2.1 ∧ meth.sig.returnType = M.2.2.2.1 ∧ s.vm.findClass M.1.cls = some m.cls ∧ (∀ w ∈ gw, w.before args s = true) ∧ meth.locks = false ∧ (M.1.name = "<init>" → meth.name = "<init>") ∧
  (∀ q, s.heap.size ≤ q → A q) ∧ d ≤ R.frames ∧ 32 * d + 40 ≤ R.locals ∧ XN s
def LR (ad kd : Nat → Nat) (N : Nat) (nL : Nat) (lr : Array Slot) (ls : List (Option Value)) : Prop :=
  lr.size = nL ∧ lv_wf lr ∧ ∀ (i : Nat) (v : Value), ls[i]? = some (some v) → lr[i]? = some (.val (cv ad v)) ∧ vl kd N v
def EX (ad0 kd0 : Nat → Nat) (N0 : Nat) (ad kd : Nat → Nat) (N : Nat) : Prop :=
  N0 ≤ N ∧ (∀ n, n < N0 → kd n = kd0 n) ∧ (∀ a, vl kd0 N0 (.ref a) → ad a = ad0 a)
theorem EX_rf {ad kd : Nat → Nat} {N : Nat} : EX ad kd N ad kd N := ⟨Nat.le_refl _, fun _ _ => rfl, fun _ _ => rfl⟩
theorem vl_up {kd0 kd : Nat → Nat} {N0 N : Nat} (h1 : N0 ≤ N) (h2 : ∀ n, n < N0 → kd n = kd0 n) {v : Value} (h : vl kd0 N0 v) : vl kd N v := by
  cases v with
  | ref a =>
    rcases h with h | ⟨h, h'⟩
    · exact Or.inl h
    · exact Or.inr ⟨Nat.lt_of_lt_of_le h h1, by rw [h2 _ h]; exact h'⟩
  | _ => trivial
theorem EX_vl {ad0 kd0 ad kd : Nat → Nat} {N0 N : Nat} (h : EX ad0 kd0 N0 ad kd N) {v : Value} (hv : vl kd0 N0 v) : vl kd N v := vl_up h.1 h.2.1 hv
theorem EX_cv {ad0 kd0 ad kd : Nat → Nat} {N0 N : Nat} (h : EX ad0 kd0 N0 ad kd N) {v : Value} (hv : vl kd0 N0 v) : cv ad v = cv ad0 v := by
  cases v with
  | ref a => show Value.ref (ad a) = Value.ref (ad0 a); rw [h.2.2 a hv]
  | _ => rfl
theorem EX_tr {ad0 kd0 ad1 kd1 ad2 kd2 : Nat → Nat} {N0 N1 N2 : Nat} (h : EX ad0 kd0 N0 ad1 kd1 N1) (g : EX ad1 kd1 N1 ad2 kd2 N2) : EX ad0 kd0 N0 ad2 kd2 N2 :=
  ⟨Nat.le_trans h.1 g.1, fun n hn => by rw [g.2.1 n (Nat.lt_of_lt_of_le hn h.1), h.2.1 n hn], fun a ha => by rw [g.2.2 a (EX_vl h ha), h.2.2 a ha]⟩
def isRet (M : MD) (pc : Nat) (v : Option Value) : Prop := match v with
  | none => M.2.2.2.1 = none ∧ decode M.2.1 pc = .ok (.return_, 1)
  | some (.int x) => decode M.2.1 pc = .ok (.ireturn, 1) ∧ ∃ ty, M.2.2.2.1 = some ty ∧ narrow ty (.int x) = .int x
  | some (.long _) => M.2.2.2.1 = some .long ∧ decode M.2.1 pc = .ok (.lreturn, 1)
  | _ => False
/-- what is to hold where a method returns -/
def RT (p : Program) (l : Launch) (e : Env) (R : Room) (s : State) (m : MethodId) (args : Array Value) (below : List Frame) (meth : Method) (c : Code) (M : MD) (A : Nat → Prop) (D : va_G) (ad0 kd0 : Nat → Nat) (N0 : Nat) (Q' : State → Prop) (Q : EQ) : Prop :=
  ∀ (v : Option Value) (fi : FI) (fr : FR) (ai : FI) (ar : FR) (N : Nat) (ad cs kd : Nat → Nat) (H : Heap) (locs : List Loc) (cells slots pc : Nat) (lr : Array Slot),
    Q v fi fr ai ar N → HR D s A H ad cs kd fi fr ai ar N → EX ad0 kd0 N0 ad kd N → va_S A s.heap H locs → cells ≤ R.cells → slots ≤ R.slots → (∀ w, v = some w → vl kd N w) → isRet M pc v →
    W p l e R s m args below meth c H locs cells slots Q' (F0 m pc lr (v.toList.map (cv ad)))
def EV (M : MD) (d k z pc : Nat) (ls : List (Option Value)) (st : List Value) (fi : FI) (fr : FR) (ai : FI) (ar : FR) (N : Nat) (Q : EQ) : Prop :=
  ∀ (p : Program) (l : Launch) (e : Env) (R : Room) (s : State) (m : MethodId) (args : Array Value) (below : List Frame) (meth : Method) (c : Code) (A : Nat → Prop) (D : va_G) (ad0 kd0 : Nat → Nat) (N0 : Nat) (Q' : State → Prop)
    (H : Heap) (locs : List Loc) (cells slots : Nat) (ad cs kd : Nat → Nat) (lr : Array Slot),
    CX p l e R s m args below meth c M d A → RT p l e R s m args below meth c M A D ad0 kd0 N0 Q' Q →
    cells + k ≤ R.cells → slots + z ≤ R.slots → va_S A s.heap H locs → HR D s A H ad cs kd fi fr ai ar N → EX ad0 kd0 N0 ad kd N →
    (M.2.2.2.2.1 ≠ 0 → va_X (ad 60) (M.2.2.2.2.1 - 1) M.2.2.2.2.2 s s.heap ∧ ad 60 < s.heap.size ∧ ¬ A (ad 60)) → XT A ad s s.heap →
    (∀ v ∈ st, vl kd N v) → LR ad kd N M.2.2.1 lr ls →
    W p l e R s m args below meth c H locs cells slots Q' (F0 m pc lr (st.map (cv ad)))
