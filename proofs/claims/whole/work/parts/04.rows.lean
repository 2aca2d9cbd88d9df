theorem vl_dr {a : Value} {st : List Value} {P : Value → Prop} (h : ∀ v ∈ a :: st, P v) : ∀ v ∈ st, P v := fun v hv => h v (List.mem_cons_of_mem _ hv)
theorem vl_hd {a : Value} {st : List Value} {P : Value → Prop} (h : ∀ v ∈ a :: st, P v) : P a := h a List.mem_cons_self
theorem vl_pu {a : Value} {st : List Value} {P : Value → Prop} (h : P a) (g : ∀ v ∈ st, P v) : ∀ v ∈ a :: st, P v := List.forall_mem_cons.mpr ⟨h, g⟩
theorem e_iconst {M : MD} {d k z pc : Nat} {ls : List (Option Value)} {st : List Value} {fi : FI} {fr : FR} {ai : FI} {ar : FR} {N : Nat} {Q : EQ} {n : Int} {v : Int32} (hd : decode M.2.1 pc = .ok (.iconst n, 1)) (hw : Int32.ofInt n = v) (kk : EV M d k z (pc + 1) ls (.int v :: st) fi fr ai ar N Q) : EV M d k z pc ls (st) fi fr ai ar N Q := by
  intro p l e R s m args below meth c A D ad0 kd0 N0 Q' H locs cells slots ad cs kd lr C T h1 h2 hS hR hE hX hT hv hl
  show W p l e R s m args below meth c H locs cells slots Q' (F0 m pc lr (st.map (cv ad)))
  refine lv_iconst C.1 C.2.1 hd hw ?_
  exact kk p l e R s m args below meth c A D ad0 kd0 N0 Q' H locs cells slots ad cs kd lr C T h1 h2 hS hR hE hX hT (vl_pu trivial hv) hl
theorem e_bipush {M : MD} {d k z pc : Nat} {ls : List (Option Value)} {st : List Value} {fi : FI} {fr : FR} {ai : FI} {ar : FR} {N : Nat} {Q : EQ} {n : Int} {v : Int32} (hd : decode M.2.1 pc = .ok (.bipush n, 2)) (hw : (Int8.ofInt n).toInt32 = v) (kk : EV M d k z (pc + 2) ls (.int v :: st) fi fr ai ar N Q) : EV M d k z pc ls (st) fi fr ai ar N Q := by
  intro p l e R s m args below meth c A D ad0 kd0 N0 Q' H locs cells slots ad cs kd lr C T h1 h2 hS hR hE hX hT hv hl
  show W p l e R s m args below meth c H locs cells slots Q' (F0 m pc lr (st.map (cv ad)))
  refine lv_bipush C.1 C.2.1 hd hw ?_
  exact kk p l e R s m args below meth c A D ad0 kd0 N0 Q' H locs cells slots ad cs kd lr C T h1 h2 hS hR hE hX hT (vl_pu trivial hv) hl
theorem e_sipush {M : MD} {d k z pc : Nat} {ls : List (Option Value)} {st : List Value} {fi : FI} {fr : FR} {ai : FI} {ar : FR} {N : Nat} {Q : EQ} {n : Int} {v : Int32} (hd : decode M.2.1 pc = .ok (.sipush n, 3)) (hw : (Int16.ofInt n).toInt32 = v) (kk : EV M d k z (pc + 3) ls (.int v :: st) fi fr ai ar N Q) : EV M d k z pc ls (st) fi fr ai ar N Q := by
  intro p l e R s m args below meth c A D ad0 kd0 N0 Q' H locs cells slots ad cs kd lr C T h1 h2 hS hR hE hX hT hv hl
  show W p l e R s m args below meth c H locs cells slots Q' (F0 m pc lr (st.map (cv ad)))
  refine lv_sipush C.1 C.2.1 hd hw ?_
  exact kk p l e R s m args below meth c A D ad0 kd0 N0 Q' H locs cells slots ad cs kd lr C T h1 h2 hS hR hE hX hT (vl_pu trivial hv) hl
theorem e_lconst {M : MD} {d k z pc : Nat} {ls : List (Option Value)} {st : List Value} {fi : FI} {fr : FR} {ai : FI} {ar : FR} {N : Nat} {Q : EQ} {n : Fin 2} {v : Int64} (hd : decode M.2.1 pc = .ok (.lconst n, 1)) (hw : Int64.ofNat n = v) (kk : EV M d k z (pc + 1) ls (.long v :: st) fi fr ai ar N Q) : EV M d k z pc ls (st) fi fr ai ar N Q := by
  intro p l e R s m args below meth c A D ad0 kd0 N0 Q' H locs cells slots ad cs kd lr C T h1 h2 hS hR hE hX hT hv hl
  show W p l e R s m args below meth c H locs cells slots Q' (F0 m pc lr (st.map (cv ad)))
  refine lv_lconst C.1 C.2.1 hd hw ?_
  exact kk p l e R s m args below meth c A D ad0 kd0 N0 Q' H locs cells slots ad cs kd lr C T h1 h2 hS hR hE hX hT (vl_pu trivial hv) hl
theorem e_null {M : MD} {d k z pc : Nat} {ls : List (Option Value)} {st : List Value} {fi : FI} {fr : FR} {ai : FI} {ar : FR} {N : Nat} {Q : EQ}  (hd : decode M.2.1 pc = .ok (.aconst_null, 1))  (kk : EV M d k z (pc + 1) ls (.null :: st) fi fr ai ar N Q) : EV M d k z pc ls (st) fi fr ai ar N Q := by
  intro p l e R s m args below meth c A D ad0 kd0 N0 Q' H locs cells slots ad cs kd lr C T h1 h2 hS hR hE hX hT hv hl
  show W p l e R s m args below meth c H locs cells slots Q' (F0 m pc lr (st.map (cv ad)))
  refine lv_null C.1 C.2.1 hd  ?_
  exact kk p l e R s m args below meth c A D ad0 kd0 N0 Q' H locs cells slots ad cs kd lr C T h1 h2 hS hR hE hX hT (vl_pu trivial hv) hl
theorem e_iadd {M : MD} {d k z pc : Nat} {ls : List (Option Value)} {st : List Value} {fi : FI} {fr : FR} {ai : FI} {ar : FR} {N : Nat} {Q : EQ} {x y : Int32} (hd : decode M.2.1 pc = .ok (.iadd, 1))  (kk : EV M d k z (pc + 1) ls (.int (x + y) :: st) fi fr ai ar N Q) : EV M d k z pc ls (.int y :: .int x :: st) fi fr ai ar N Q := by
  intro p l e R s m args below meth c A D ad0 kd0 N0 Q' H locs cells slots ad cs kd lr C T h1 h2 hS hR hE hX hT hv hl
  show W p l e R s m args below meth c H locs cells slots Q' (F0 m pc lr (.int y :: .int x :: st.map (cv ad)))
  refine lv_iadd C.1 C.2.1 hd  ?_
  exact kk p l e R s m args below meth c A D ad0 kd0 N0 Q' H locs cells slots ad cs kd lr C T h1 h2 hS hR hE hX hT (vl_pu trivial (vl_dr (vl_dr hv))) hl
theorem e_isub {M : MD} {d k z pc : Nat} {ls : List (Option Value)} {st : List Value} {fi : FI} {fr : FR} {ai : FI} {ar : FR} {N : Nat} {Q : EQ} {x y : Int32} (hd : decode M.2.1 pc = .ok (.isub, 1))  (kk : EV M d k z (pc + 1) ls (.int (x - y) :: st) fi fr ai ar N Q) : EV M d k z pc ls (.int y :: .int x :: st) fi fr ai ar N Q := by
  intro p l e R s m args below meth c A D ad0 kd0 N0 Q' H locs cells slots ad cs kd lr C T h1 h2 hS hR hE hX hT hv hl
  show W p l e R s m args below meth c H locs cells slots Q' (F0 m pc lr (.int y :: .int x :: st.map (cv ad)))
  refine lv_isub C.1 C.2.1 hd  ?_
  exact kk p l e R s m args below meth c A D ad0 kd0 N0 Q' H locs cells slots ad cs kd lr C T h1 h2 hS hR hE hX hT (vl_pu trivial (vl_dr (vl_dr hv))) hl
theorem e_imul {M : MD} {d k z pc : Nat} {ls : List (Option Value)} {st : List Value} {fi : FI} {fr : FR} {ai : FI} {ar : FR} {N : Nat} {Q : EQ} {x y : Int32} (hd : decode M.2.1 pc = .ok (.imul, 1))  (kk : EV M d k z (pc + 1) ls (.int (x * y) :: st) fi fr ai ar N Q) : EV M d k z pc ls (.int y :: .int x :: st) fi fr ai ar N Q := by
  intro p l e R s m args below meth c A D ad0 kd0 N0 Q' H locs cells slots ad cs kd lr C T h1 h2 hS hR hE hX hT hv hl
  show W p l e R s m args below meth c H locs cells slots Q' (F0 m pc lr (.int y :: .int x :: st.map (cv ad)))
  refine lv_imul C.1 C.2.1 hd  ?_
  exact kk p l e R s m args below meth c A D ad0 kd0 N0 Q' H locs cells slots ad cs kd lr C T h1 h2 hS hR hE hX hT (vl_pu trivial (vl_dr (vl_dr hv))) hl
theorem e_iand {M : MD} {d k z pc : Nat} {ls : List (Option Value)} {st : List Value} {fi : FI} {fr : FR} {ai : FI} {ar : FR} {N : Nat} {Q : EQ} {x y : Int32} (hd : decode M.2.1 pc = .ok (.iand, 1))  (kk : EV M d k z (pc + 1) ls (.int (x &&& y) :: st) fi fr ai ar N Q) : EV M d k z pc ls (.int y :: .int x :: st) fi fr ai ar N Q := by
  intro p l e R s m args below meth c A D ad0 kd0 N0 Q' H locs cells slots ad cs kd lr C T h1 h2 hS hR hE hX hT hv hl
  show W p l e R s m args below meth c H locs cells slots Q' (F0 m pc lr (.int y :: .int x :: st.map (cv ad)))
  refine lv_iand C.1 C.2.1 hd  ?_
  exact kk p l e R s m args below meth c A D ad0 kd0 N0 Q' H locs cells slots ad cs kd lr C T h1 h2 hS hR hE hX hT (vl_pu trivial (vl_dr (vl_dr hv))) hl
theorem e_ior {M : MD} {d k z pc : Nat} {ls : List (Option Value)} {st : List Value} {fi : FI} {fr : FR} {ai : FI} {ar : FR} {N : Nat} {Q : EQ} {x y : Int32} (hd : decode M.2.1 pc = .ok (.ior, 1))  (kk : EV M d k z (pc + 1) ls (.int (x ||| y) :: st) fi fr ai ar N Q) : EV M d k z pc ls (.int y :: .int x :: st) fi fr ai ar N Q := by
  intro p l e R s m args below meth c A D ad0 kd0 N0 Q' H locs cells slots ad cs kd lr C T h1 h2 hS hR hE hX hT hv hl
  show W p l e R s m args below meth c H locs cells slots Q' (F0 m pc lr (.int y :: .int x :: st.map (cv ad)))
  refine lv_ior C.1 C.2.1 hd  ?_
  exact kk p l e R s m args below meth c A D ad0 kd0 N0 Q' H locs cells slots ad cs kd lr C T h1 h2 hS hR hE hX hT (vl_pu trivial (vl_dr (vl_dr hv))) hl
theorem e_ixor {M : MD} {d k z pc : Nat} {ls : List (Option Value)} {st : List Value} {fi : FI} {fr : FR} {ai : FI} {ar : FR} {N : Nat} {Q : EQ} {x y : Int32} (hd : decode M.2.1 pc = .ok (.ixor, 1))  (kk : EV M d k z (pc + 1) ls (.int (x ^^^ y) :: st) fi fr ai ar N Q) : EV M d k z pc ls (.int y :: .int x :: st) fi fr ai ar N Q := by
  intro p l e R s m args below meth c A D ad0 kd0 N0 Q' H locs cells slots ad cs kd lr C T h1 h2 hS hR hE hX hT hv hl
  show W p l e R s m args below meth c H locs cells slots Q' (F0 m pc lr (.int y :: .int x :: st.map (cv ad)))
  refine lv_ixor C.1 C.2.1 hd  ?_
  exact kk p l e R s m args below meth c A D ad0 kd0 N0 Q' H locs cells slots ad cs kd lr C T h1 h2 hS hR hE hX hT (vl_pu trivial (vl_dr (vl_dr hv))) hl
theorem e_ishl {M : MD} {d k z pc : Nat} {ls : List (Option Value)} {st : List Value} {fi : FI} {fr : FR} {ai : FI} {ar : FR} {N : Nat} {Q : EQ} {x y : Int32} (hd : decode M.2.1 pc = .ok (.ishl, 1))  (kk : EV M d k z (pc + 1) ls (.int (x <<< (y &&& 31)) :: st) fi fr ai ar N Q) : EV M d k z pc ls (.int y :: .int x :: st) fi fr ai ar N Q := by
  intro p l e R s m args below meth c A D ad0 kd0 N0 Q' H locs cells slots ad cs kd lr C T h1 h2 hS hR hE hX hT hv hl
  show W p l e R s m args below meth c H locs cells slots Q' (F0 m pc lr (.int y :: .int x :: st.map (cv ad)))
  refine lv_ishl C.1 C.2.1 hd  ?_
  exact kk p l e R s m args below meth c A D ad0 kd0 N0 Q' H locs cells slots ad cs kd lr C T h1 h2 hS hR hE hX hT (vl_pu trivial (vl_dr (vl_dr hv))) hl
theorem e_ishr {M : MD} {d k z pc : Nat} {ls : List (Option Value)} {st : List Value} {fi : FI} {fr : FR} {ai : FI} {ar : FR} {N : Nat} {Q : EQ} {x y : Int32} (hd : decode M.2.1 pc = .ok (.ishr, 1))  (kk : EV M d k z (pc + 1) ls (.int (x >>> (y &&& 31)) :: st) fi fr ai ar N Q) : EV M d k z pc ls (.int y :: .int x :: st) fi fr ai ar N Q := by
  intro p l e R s m args below meth c A D ad0 kd0 N0 Q' H locs cells slots ad cs kd lr C T h1 h2 hS hR hE hX hT hv hl
  show W p l e R s m args below meth c H locs cells slots Q' (F0 m pc lr (.int y :: .int x :: st.map (cv ad)))
  refine lv_ishr C.1 C.2.1 hd  ?_
  exact kk p l e R s m args below meth c A D ad0 kd0 N0 Q' H locs cells slots ad cs kd lr C T h1 h2 hS hR hE hX hT (vl_pu trivial (vl_dr (vl_dr hv))) hl
theorem e_idiv {M : MD} {d k z pc : Nat} {ls : List (Option Value)} {st : List Value} {fi : FI} {fr : FR} {ai : FI} {ar : FR} {N : Nat} {Q : EQ} {x y : Int32} (hd : decode M.2.1 pc = .ok (.idiv, 1)) (hne : ¬ y = 0) (kk : EV M d k z (pc + 1) ls (.int (x / y) :: st) fi fr ai ar N Q) : EV M d k z pc ls (.int y :: .int x :: st) fi fr ai ar N Q := by
  intro p l e R s m args below meth c A D ad0 kd0 N0 Q' H locs cells slots ad cs kd lr C T h1 h2 hS hR hE hX hT hv hl
  show W p l e R s m args below meth c H locs cells slots Q' (F0 m pc lr (.int y :: .int x :: st.map (cv ad)))
  refine lv_idiv C.1 C.2.1 hd hne ?_
  exact kk p l e R s m args below meth c A D ad0 kd0 N0 Q' H locs cells slots ad cs kd lr C T h1 h2 hS hR hE hX hT (vl_pu trivial (vl_dr (vl_dr hv))) hl
theorem e_irem {M : MD} {d k z pc : Nat} {ls : List (Option Value)} {st : List Value} {fi : FI} {fr : FR} {ai : FI} {ar : FR} {N : Nat} {Q : EQ} {x y : Int32} (hd : decode M.2.1 pc = .ok (.irem, 1)) (hne : ¬ y = 0) (kk : EV M d k z (pc + 1) ls (.int (x - x / y * y) :: st) fi fr ai ar N Q) : EV M d k z pc ls (.int y :: .int x :: st) fi fr ai ar N Q := by
  intro p l e R s m args below meth c A D ad0 kd0 N0 Q' H locs cells slots ad cs kd lr C T h1 h2 hS hR hE hX hT hv hl
  show W p l e R s m args below meth c H locs cells slots Q' (F0 m pc lr (.int y :: .int x :: st.map (cv ad)))
  refine lv_irem C.1 C.2.1 hd hne ?_
  exact kk p l e R s m args below meth c A D ad0 kd0 N0 Q' H locs cells slots ad cs kd lr C T h1 h2 hS hR hE hX hT (vl_pu trivial (vl_dr (vl_dr hv))) hl
theorem e_iushr {M : MD} {d k z pc : Nat} {ls : List (Option Value)} {st : List Value} {fi : FI} {fr : FR} {ai : FI} {ar : FR} {N : Nat} {Q : EQ} {x y : Int32} (hd : decode M.2.1 pc = .ok (.iushr, 1))  (kk : EV M d k z (pc + 1) ls (.int ((x.toUInt32 >>> (y.toUInt32 &&& Int32.toUInt32 31)).toInt32) :: st) fi fr ai ar N Q) : EV M d k z pc ls (.int y :: .int x :: st) fi fr ai ar N Q := by
  intro p l e R s m args below meth c A D ad0 kd0 N0 Q' H locs cells slots ad cs kd lr C T h1 h2 hS hR hE hX hT hv hl
  show W p l e R s m args below meth c H locs cells slots Q' (F0 m pc lr (.int y :: .int x :: st.map (cv ad)))
  refine lv_iushr C.1 C.2.1 hd rfl ?_
  exact kk p l e R s m args below meth c A D ad0 kd0 N0 Q' H locs cells slots ad cs kd lr C T h1 h2 hS hR hE hX hT (vl_pu trivial (vl_dr (vl_dr hv))) hl
theorem e_ineg {M : MD} {d k z pc : Nat} {ls : List (Option Value)} {st : List Value} {fi : FI} {fr : FR} {ai : FI} {ar : FR} {N : Nat} {Q : EQ} {x : Int32} (hd : decode M.2.1 pc = .ok (.ineg, 1))  (kk : EV M d k z (pc + 1) ls (.int (0 - x) :: st) fi fr ai ar N Q) : EV M d k z pc ls (.int x :: st) fi fr ai ar N Q := by
  intro p l e R s m args below meth c A D ad0 kd0 N0 Q' H locs cells slots ad cs kd lr C T h1 h2 hS hR hE hX hT hv hl
  show W p l e R s m args below meth c H locs cells slots Q' (F0 m pc lr (.int x :: st.map (cv ad)))
  refine lv_ineg C.1 C.2.1 hd  ?_
  exact kk p l e R s m args below meth c A D ad0 kd0 N0 Q' H locs cells slots ad cs kd lr C T h1 h2 hS hR hE hX hT (vl_pu trivial (vl_dr hv)) hl
theorem e_ladd {M : MD} {d k z pc : Nat} {ls : List (Option Value)} {st : List Value} {fi : FI} {fr : FR} {ai : FI} {ar : FR} {N : Nat} {Q : EQ} {x y : Int64} (hd : decode M.2.1 pc = .ok (.ladd, 1))  (kk : EV M d k z (pc + 1) ls (.long (x + y) :: st) fi fr ai ar N Q) : EV M d k z pc ls (.long y :: .long x :: st) fi fr ai ar N Q := by
  intro p l e R s m args below meth c A D ad0 kd0 N0 Q' H locs cells slots ad cs kd lr C T h1 h2 hS hR hE hX hT hv hl
  show W p l e R s m args below meth c H locs cells slots Q' (F0 m pc lr (.long y :: .long x :: st.map (cv ad)))
  refine lv_ladd C.1 C.2.1 hd  ?_
  exact kk p l e R s m args below meth c A D ad0 kd0 N0 Q' H locs cells slots ad cs kd lr C T h1 h2 hS hR hE hX hT (vl_pu trivial (vl_dr (vl_dr hv))) hl
theorem e_lsub {M : MD} {d k z pc : Nat} {ls : List (Option Value)} {st : List Value} {fi : FI} {fr : FR} {ai : FI} {ar : FR} {N : Nat} {Q : EQ} {x y : Int64} (hd : decode M.2.1 pc = .ok (.lsub, 1))  (kk : EV M d k z (pc + 1) ls (.long (x - y) :: st) fi fr ai ar N Q) : EV M d k z pc ls (.long y :: .long x :: st) fi fr ai ar N Q := by
  intro p l e R s m args below meth c A D ad0 kd0 N0 Q' H locs cells slots ad cs kd lr C T h1 h2 hS hR hE hX hT hv hl
  show W p l e R s m args below meth c H locs cells slots Q' (F0 m pc lr (.long y :: .long x :: st.map (cv ad)))
  refine lv_lsub C.1 C.2.1 hd  ?_
  exact kk p l e R s m args below meth c A D ad0 kd0 N0 Q' H locs cells slots ad cs kd lr C T h1 h2 hS hR hE hX hT (vl_pu trivial (vl_dr (vl_dr hv))) hl
theorem e_lmul {M : MD} {d k z pc : Nat} {ls : List (Option Value)} {st : List Value} {fi : FI} {fr : FR} {ai : FI} {ar : FR} {N : Nat} {Q : EQ} {x y : Int64} (hd : decode M.2.1 pc = .ok (.lmul, 1))  (kk : EV M d k z (pc + 1) ls (.long (x * y) :: st) fi fr ai ar N Q) : EV M d k z pc ls (.long y :: .long x :: st) fi fr ai ar N Q := by
  intro p l e R s m args below meth c A D ad0 kd0 N0 Q' H locs cells slots ad cs kd lr C T h1 h2 hS hR hE hX hT hv hl
  show W p l e R s m args below meth c H locs cells slots Q' (F0 m pc lr (.long y :: .long x :: st.map (cv ad)))
  refine lv_lmul C.1 C.2.1 hd  ?_
  exact kk p l e R s m args below meth c A D ad0 kd0 N0 Q' H locs cells slots ad cs kd lr C T h1 h2 hS hR hE hX hT (vl_pu trivial (vl_dr (vl_dr hv))) hl
theorem e_lneg {M : MD} {d k z pc : Nat} {ls : List (Option Value)} {st : List Value} {fi : FI} {fr : FR} {ai : FI} {ar : FR} {N : Nat} {Q : EQ} {x : Int64} (hd : decode M.2.1 pc = .ok (.lneg, 1))  (kk : EV M d k z (pc + 1) ls (.long (0 - x) :: st) fi fr ai ar N Q) : EV M d k z pc ls (.long x :: st) fi fr ai ar N Q := by
  intro p l e R s m args below meth c A D ad0 kd0 N0 Q' H locs cells slots ad cs kd lr C T h1 h2 hS hR hE hX hT hv hl
  show W p l e R s m args below meth c H locs cells slots Q' (F0 m pc lr (.long x :: st.map (cv ad)))
  refine lv_lneg C.1 C.2.1 hd  ?_
  exact kk p l e R s m args below meth c A D ad0 kd0 N0 Q' H locs cells slots ad cs kd lr C T h1 h2 hS hR hE hX hT (vl_pu trivial (vl_dr hv)) hl
theorem e_lcmp {M : MD} {d k z pc : Nat} {ls : List (Option Value)} {st : List Value} {fi : FI} {fr : FR} {ai : FI} {ar : FR} {N : Nat} {Q : EQ} {x y : Int64} (hd : decode M.2.1 pc = .ok (.lcmp, 1))  (kk : EV M d k z (pc + 1) ls (.int (lg_cmp x y) :: st) fi fr ai ar N Q) : EV M d k z pc ls (.long y :: .long x :: st) fi fr ai ar N Q := by
  intro p l e R s m args below meth c A D ad0 kd0 N0 Q' H locs cells slots ad cs kd lr C T h1 h2 hS hR hE hX hT hv hl
  show W p l e R s m args below meth c H locs cells slots Q' (F0 m pc lr (.long y :: .long x :: st.map (cv ad)))
  refine W.lcmp C.1 C.2.1 hd  ?_
  exact kk p l e R s m args below meth c A D ad0 kd0 N0 Q' H locs cells slots ad cs kd lr C T h1 h2 hS hR hE hX hT (vl_pu trivial (vl_dr (vl_dr hv))) hl
theorem e_i2l {M : MD} {d k z pc : Nat} {ls : List (Option Value)} {st : List Value} {fi : FI} {fr : FR} {ai : FI} {ar : FR} {N : Nat} {Q : EQ} {x : Int32} (hd : decode M.2.1 pc = .ok (.i2l, 1))  (kk : EV M d k z (pc + 1) ls (.long x.toInt64 :: st) fi fr ai ar N Q) : EV M d k z pc ls (.int x :: st) fi fr ai ar N Q := by
  intro p l e R s m args below meth c A D ad0 kd0 N0 Q' H locs cells slots ad cs kd lr C T h1 h2 hS hR hE hX hT hv hl
  show W p l e R s m args below meth c H locs cells slots Q' (F0 m pc lr (.int x :: st.map (cv ad)))
  refine lv_i2l C.1 C.2.1 hd rfl ?_
  exact kk p l e R s m args below meth c A D ad0 kd0 N0 Q' H locs cells slots ad cs kd lr C T h1 h2 hS hR hE hX hT (vl_pu trivial (vl_dr hv)) hl
theorem e_i2b {M : MD} {d k z pc : Nat} {ls : List (Option Value)} {st : List Value} {fi : FI} {fr : FR} {ai : FI} {ar : FR} {N : Nat} {Q : EQ} {x : Int32} (hd : decode M.2.1 pc = .ok (.i2b, 1))  (kk : EV M d k z (pc + 1) ls (.int x.toInt8.toInt32 :: st) fi fr ai ar N Q) : EV M d k z pc ls (.int x :: st) fi fr ai ar N Q := by
  intro p l e R s m args below meth c A D ad0 kd0 N0 Q' H locs cells slots ad cs kd lr C T h1 h2 hS hR hE hX hT hv hl
  show W p l e R s m args below meth c H locs cells slots Q' (F0 m pc lr (.int x :: st.map (cv ad)))
  refine lv_i2b C.1 C.2.1 hd rfl ?_
  exact kk p l e R s m args below meth c A D ad0 kd0 N0 Q' H locs cells slots ad cs kd lr C T h1 h2 hS hR hE hX hT (vl_pu trivial (vl_dr hv)) hl
theorem e_i2c {M : MD} {d k z pc : Nat} {ls : List (Option Value)} {st : List Value} {fi : FI} {fr : FR} {ai : FI} {ar : FR} {N : Nat} {Q : EQ} {x : Int32} (hd : decode M.2.1 pc = .ok (.i2c, 1))  (kk : EV M d k z (pc + 1) ls (.int (x.toUInt32 % 65536).toInt32 :: st) fi fr ai ar N Q) : EV M d k z pc ls (.int x :: st) fi fr ai ar N Q := by
  intro p l e R s m args below meth c A D ad0 kd0 N0 Q' H locs cells slots ad cs kd lr C T h1 h2 hS hR hE hX hT hv hl
  show W p l e R s m args below meth c H locs cells slots Q' (F0 m pc lr (.int x :: st.map (cv ad)))
  refine lv_i2c C.1 C.2.1 hd rfl ?_
  exact kk p l e R s m args below meth c A D ad0 kd0 N0 Q' H locs cells slots ad cs kd lr C T h1 h2 hS hR hE hX hT (vl_pu trivial (vl_dr hv)) hl
theorem cv_cat (ad : Nat → Nat) (v : Value) : (cv ad v).category = v.category := by cases v <;> rfl
theorem e_dup {M : MD} {d k z pc : Nat} {ls : List (Option Value)} {st : List Value} {fi : FI} {fr : FR} {ai : FI} {ar : FR} {N : Nat} {Q : EQ} {va : Value} (hd : decode M.2.1 pc = .ok (.dup, 1)) (hc : va.category = 1) (kk : EV M d k z (pc + 1) ls (va :: va :: st) fi fr ai ar N Q) : EV M d k z pc ls (va :: st) fi fr ai ar N Q := by
  intro p l e R s m args below meth c A D ad0 kd0 N0 Q' H locs cells slots ad cs kd lr C T h1 h2 hS hR hE hX hT hv hl
  show W p l e R s m args below meth c H locs cells slots Q' (F0 m pc lr (cv ad (va) :: st.map (cv ad)))
  refine lv_dup C.1 C.2.1 hd ((cv_cat ad va).trans hc) ?_
  exact kk p l e R s m args below meth c A D ad0 kd0 N0 Q' H locs cells slots ad cs kd lr C T h1 h2 hS hR hE hX hT (vl_pu (vl_hd hv) hv) hl
theorem e_pop {M : MD} {d k z pc : Nat} {ls : List (Option Value)} {st : List Value} {fi : FI} {fr : FR} {ai : FI} {ar : FR} {N : Nat} {Q : EQ} {va : Value} (hd : decode M.2.1 pc = .ok (.pop, 1)) (hc : va.category = 1) (kk : EV M d k z (pc + 1) ls (st) fi fr ai ar N Q) : EV M d k z pc ls (va :: st) fi fr ai ar N Q := by
  intro p l e R s m args below meth c A D ad0 kd0 N0 Q' H locs cells slots ad cs kd lr C T h1 h2 hS hR hE hX hT hv hl
  show W p l e R s m args below meth c H locs cells slots Q' (F0 m pc lr (cv ad (va) :: st.map (cv ad)))
  refine lv_pop C.1 C.2.1 hd ((cv_cat ad va).trans hc) ?_
  exact kk p l e R s m args below meth c A D ad0 kd0 N0 Q' H locs cells slots ad cs kd lr C T h1 h2 hS hR hE hX hT (vl_dr hv) hl
theorem e_dup2 {M : MD} {d k z pc : Nat} {ls : List (Option Value)} {st : List Value} {fi : FI} {fr : FR} {ai : FI} {ar : FR} {N : Nat} {Q : EQ} {va vb : Value} (hd : decode M.2.1 pc = .ok (.dup2, 1)) (hc : va.category = 1) (hc2 : vb.category = 1) (kk : EV M d k z (pc + 1) ls (va :: vb :: va :: vb :: st) fi fr ai ar N Q) : EV M d k z pc ls (va :: vb :: st) fi fr ai ar N Q := by
  intro p l e R s m args below meth c A D ad0 kd0 N0 Q' H locs cells slots ad cs kd lr C T h1 h2 hS hR hE hX hT hv hl
  show W p l e R s m args below meth c H locs cells slots Q' (F0 m pc lr (cv ad (va) :: cv ad (vb) :: st.map (cv ad)))
  refine lv_dup2_11 C.1 C.2.1 hd ((cv_cat ad va).trans hc) ((cv_cat ad vb).trans hc2) ?_
  exact kk p l e R s m args below meth c A D ad0 kd0 N0 Q' H locs cells slots ad cs kd lr C T h1 h2 hS hR hE hX hT (vl_pu (vl_hd hv) (vl_pu (vl_hd (vl_dr hv)) hv)) hl
theorem e_iload_n {M : MD} {d k z pc : Nat} {ls : List (Option Value)} {st : List Value} {fi : FI} {fr : FR} {ai : FI} {ar : FR} {N : Nat} {Q : EQ} {i : Nat} {n : Fin 4} {x : Int32} (hd : decode M.2.1 pc = .ok (.iload_n n, 1)) (hi : (n : Nat) = i) (hx : ls[i]? = some (some (.int x))) (kk : EV M d k z (pc + 1) ls (.int x :: st) fi fr ai ar N Q) : EV M d k z pc ls st fi fr ai ar N Q := by
  intro p l e R s m args below meth c A D ad0 kd0 N0 Q' H locs cells slots ad cs kd lr C T h1 h2 hS hR hE hX hT hv hl
  refine lv_iload_n C.1 C.2.1 hd hi (hl.2.2 i _ hx).1 ?_
  exact kk p l e R s m args below meth c A D ad0 kd0 N0 Q' H locs cells slots ad cs kd lr C T h1 h2 hS hR hE hX hT (vl_pu (hl.2.2 i _ hx).2 hv) hl
theorem e_iload {M : MD} {d k z pc : Nat} {ls : List (Option Value)} {st : List Value} {fi : FI} {fr : FR} {ai : FI} {ar : FR} {N : Nat} {Q : EQ} {i : Nat}  {x : Int32} (hd : decode M.2.1 pc = .ok (.iload i, 2))  (hx : ls[i]? = some (some (.int x))) (kk : EV M d k z (pc + 2) ls (.int x :: st) fi fr ai ar N Q) : EV M d k z pc ls st fi fr ai ar N Q := by
  intro p l e R s m args below meth c A D ad0 kd0 N0 Q' H locs cells slots ad cs kd lr C T h1 h2 hS hR hE hX hT hv hl
  refine lv_iload C.1 C.2.1 hd  (hl.2.2 i _ hx).1 ?_
  exact kk p l e R s m args below meth c A D ad0 kd0 N0 Q' H locs cells slots ad cs kd lr C T h1 h2 hS hR hE hX hT (vl_pu (hl.2.2 i _ hx).2 hv) hl
theorem e_lload_n {M : MD} {d k z pc : Nat} {ls : List (Option Value)} {st : List Value} {fi : FI} {fr : FR} {ai : FI} {ar : FR} {N : Nat} {Q : EQ} {i : Nat} {n : Fin 4} {x : Int64} (hd : decode M.2.1 pc = .ok (.lload_n n, 1)) (hi : (n : Nat) = i) (hx : ls[i]? = some (some (.long x))) (kk : EV M d k z (pc + 1) ls (.long x :: st) fi fr ai ar N Q) : EV M d k z pc ls st fi fr ai ar N Q := by
  intro p l e R s m args below meth c A D ad0 kd0 N0 Q' H locs cells slots ad cs kd lr C T h1 h2 hS hR hE hX hT hv hl
  refine lv_lload_n C.1 C.2.1 hd hi (hl.2.2 i _ hx).1 ?_
  exact kk p l e R s m args below meth c A D ad0 kd0 N0 Q' H locs cells slots ad cs kd lr C T h1 h2 hS hR hE hX hT (vl_pu (hl.2.2 i _ hx).2 hv) hl
theorem e_lload {M : MD} {d k z pc : Nat} {ls : List (Option Value)} {st : List Value} {fi : FI} {fr : FR} {ai : FI} {ar : FR} {N : Nat} {Q : EQ} {i : Nat}  {x : Int64} (hd : decode M.2.1 pc = .ok (.lload i, 2))  (hx : ls[i]? = some (some (.long x))) (kk : EV M d k z (pc + 2) ls (.long x :: st) fi fr ai ar N Q) : EV M d k z pc ls st fi fr ai ar N Q := by
  intro p l e R s m args below meth c A D ad0 kd0 N0 Q' H locs cells slots ad cs kd lr C T h1 h2 hS hR hE hX hT hv hl
  refine lv_lload C.1 C.2.1 hd  (hl.2.2 i _ hx).1 ?_
  exact kk p l e R s m args below meth c A D ad0 kd0 N0 Q' H locs cells slots ad cs kd lr C T h1 h2 hS hR hE hX hT (vl_pu (hl.2.2 i _ hx).2 hv) hl
theorem e_aload_n {M : MD} {d k z pc : Nat} {ls : List (Option Value)} {st : List Value} {fi : FI} {fr : FR} {ai : FI} {ar : FR} {N : Nat} {Q : EQ} {i : Nat} {n : Fin 4} {x : Nat} (hd : decode M.2.1 pc = .ok (.aload_n n, 1)) (hi : (n : Nat) = i) (hx : ls[i]? = some (some (.ref x))) (kk : EV M d k z (pc + 1) ls (.ref x :: st) fi fr ai ar N Q) : EV M d k z pc ls st fi fr ai ar N Q := by
  intro p l e R s m args below meth c A D ad0 kd0 N0 Q' H locs cells slots ad cs kd lr C T h1 h2 hS hR hE hX hT hv hl
  refine lv_aload_n C.1 C.2.1 hd hi (hl.2.2 i _ hx).1 ?_
  exact kk p l e R s m args below meth c A D ad0 kd0 N0 Q' H locs cells slots ad cs kd lr C T h1 h2 hS hR hE hX hT (vl_pu (hl.2.2 i _ hx).2 hv) hl
theorem e_aload {M : MD} {d k z pc : Nat} {ls : List (Option Value)} {st : List Value} {fi : FI} {fr : FR} {ai : FI} {ar : FR} {N : Nat} {Q : EQ} {i : Nat}  {x : Nat} (hd : decode M.2.1 pc = .ok (.aload i, 2))  (hx : ls[i]? = some (some (.ref x))) (kk : EV M d k z (pc + 2) ls (.ref x :: st) fi fr ai ar N Q) : EV M d k z pc ls st fi fr ai ar N Q := by
  intro p l e R s m args below meth c A D ad0 kd0 N0 Q' H locs cells slots ad cs kd lr C T h1 h2 hS hR hE hX hT hv hl
  refine lv_aload C.1 C.2.1 hd  (hl.2.2 i _ hx).1 ?_
  exact kk p l e R s m args below meth c A D ad0 kd0 N0 Q' H locs cells slots ad cs kd lr C T h1 h2 hS hR hE hX hT (vl_pu (hl.2.2 i _ hx).2 hv) hl
def okS (ls : List (Option Value)) (i : Nat) : Bool := match i with
  | 0 => true
  | i + 1 => match ls[i]? with
    | some (some v) => v.category == 1
    | _ => true
def lvO (ad : Nat → Nat) (ls : List (Option Value)) : List (Nat × Value) := (List.range ls.length).filterMap (fun i => match ls[i]? with
  | some (some v) => some (i, cv ad v)
  | _ => none)
theorem lvO_mem {ad : Nat → Nat} {ls : List (Option Value)} {q : Nat × Value} : q ∈ lvO ad ls ↔ ∃ v, ls[q.1]? = some (some v) ∧ q.2 = cv ad v := by
  unfold lvO
  rw [List.mem_filterMap]
  constructor
  · rintro ⟨i, hi, h⟩
    split at h
    · rename_i v hv
      obtain rfl := Option.some.inj h
      exact ⟨v, hv, rfl⟩
    · cases h
  · rintro ⟨v, hv, he⟩
    refine ⟨q.1, ?_, ?_⟩
    · rw [List.mem_range]
      exact (List.getElem?_eq_some_iff.mp hv).1
    · rw [hv]
      show some (q.1, cv ad v) = some q
      rw [← he]
theorem LR_has {ad kd : Nat → Nat} {N nL : Nat} {lr : Array Slot} {ls : List (Option Value)} (h : LR ad kd N nL lr ls) : lv_has lr nL (lvO ad ls) := by
  refine ⟨h.1, h.2.1, fun q hq => ?_⟩
  obtain ⟨v, hv, he⟩ := lvO_mem.mp hq
  rw [he]
  exact (h.2.2 q.1 v hv).1
theorem LR_st1 {ad kd : Nat → Nat} {N nL i : Nat} {lr lr' : Array Slot} {ls : List (Option Value)} {v : Value} (h : LR ad kd N nL lr ls) (hv : vl kd N v) (ok : okS ls i = true)
    (g : lv_has lr' nL ((i, cv ad v) :: (lvO ad ls).filter (fun q => !(q.1 == i) && !(q.1 + 1 == i && q.2.category == 2)))) : LR ad kd N nL lr' (ls.set i (some v)) := by
  refine ⟨g.1, g.2.1, fun j w hj => ?_⟩
  by_cases hij : i = j
  · subst hij
    rw [List.getElem?_set] at hj
    split at hj
    · split at hj
      · obtain rfl := Option.some.inj (Option.some.inj hj)
        exact ⟨g.2.2 _ List.mem_cons_self, hv⟩
      · cases hj
    · omega
  · rw [List.getElem?_set_ne hij] at hj
    refine ⟨g.2.2 (j, cv ad w) (List.mem_cons_of_mem _ ?_), (h.2.2 j w hj).2⟩
    rw [List.mem_filter]
    refine ⟨lvO_mem.mpr ⟨w, hj, rfl⟩, ?_⟩
    have e1 : (j == i) = false := by simp; omega
    rw [e1]
    by_cases h2 : j + 1 = i
    · subst h2
      have : w.category = 1 := by
        simp [okS, hj] at ok
        exact ok
      simp [cv_cat, this]
    · simp [h2]
theorem LR_st2 {ad kd : Nat → Nat} {N nL i : Nat} {lr lr' : Array Slot} {ls : List (Option Value)} {v : Value} (h : LR ad kd N nL lr ls) (hv : vl kd N v) (ok : okS ls i = true)
    (g : lv_has lr' nL ((i, cv ad v) :: (lvO ad ls).filter (fun q => !(q.1 == i) && (!(q.1 == i + 1) && !(q.1 + 1 == i && q.2.category == 2))))) : LR ad kd N nL lr' ((ls.set i (some v)).set (i + 1) none) := by
  refine ⟨g.1, g.2.1, fun j w hj => ?_⟩
  by_cases h3 : i + 1 = j
  · subst h3
    rw [List.getElem?_set] at hj
    split at hj
    · split at hj
      · cases Option.some.inj hj
      · cases hj
    · omega
  rw [List.getElem?_set_ne h3] at hj
  by_cases hij : i = j
  · subst hij
    rw [List.getElem?_set] at hj
    split at hj
    · split at hj
      · obtain rfl := Option.some.inj (Option.some.inj hj)
        exact ⟨g.2.2 _ List.mem_cons_self, hv⟩
      · cases hj
    · omega
  · rw [List.getElem?_set_ne hij] at hj
    refine ⟨g.2.2 (j, cv ad w) (List.mem_cons_of_mem _ ?_), (h.2.2 j w hj).2⟩
    rw [List.mem_filter]
    refine ⟨lvO_mem.mpr ⟨w, hj, rfl⟩, ?_⟩
    have e1 : (j == i) = false := by simp; omega
    have e2 : (j == i + 1) = false := by simp; omega
    rw [e1, e2]
    by_cases h2 : j + 1 = i
    · subst h2
      have : w.category = 1 := by
        simp [okS, hj] at ok
        exact ok
      simp [cv_cat, this]
    · simp [h2]
theorem e_istore_n {M : MD} {d k z pc : Nat} {ls : List (Option Value)} {st : List Value} {fi : FI} {fr : FR} {ai : FI} {ar : FR} {N : Nat} {Q : EQ} {i : Nat} {n : Fin 4} {x : Int32} (hd : decode M.2.1 pc = .ok (.istore_n n, 1)) (hi : (n : Nat) = i) (hn : i < M.2.2.1) (ok : okS ls i = true) (kk : EV M d k z (pc + 1) (ls.set i (some (.int x))) st fi fr ai ar N Q) : EV M d k z pc ls (.int x :: st) fi fr ai ar N Q := by
  intro p l e R s m args below meth c A D ad0 kd0 N0 Q' H locs cells slots ad cs kd lr C T h1 h2 hS hR hE hX hT hv hl
  show W p l e R s m args below meth c H locs cells slots Q' (F0 m pc lr (cv ad (.int x) :: st.map (cv ad)))
  refine lv_istore_n C.1 C.2.1 hd hi (LR_has hl) hn rfl (fun lr' hl' => ?_)
  exact kk p l e R s m args below meth c A D ad0 kd0 N0 Q' H locs cells slots ad cs kd lr' C T h1 h2 hS hR hE hX hT (vl_dr hv) (LR_st1 (v := .int x) hl (vl_hd hv) ok hl')
theorem e_istore {M : MD} {d k z pc : Nat} {ls : List (Option Value)} {st : List Value} {fi : FI} {fr : FR} {ai : FI} {ar : FR} {N : Nat} {Q : EQ} {i : Nat}  {x : Int32} (hd : decode M.2.1 pc = .ok (.istore i, 2))  (hn : i < M.2.2.1) (ok : okS ls i = true) (kk : EV M d k z (pc + 2) (ls.set i (some (.int x))) st fi fr ai ar N Q) : EV M d k z pc ls (.int x :: st) fi fr ai ar N Q := by
  intro p l e R s m args below meth c A D ad0 kd0 N0 Q' H locs cells slots ad cs kd lr C T h1 h2 hS hR hE hX hT hv hl
  show W p l e R s m args below meth c H locs cells slots Q' (F0 m pc lr (cv ad (.int x) :: st.map (cv ad)))
  refine lv_istore C.1 C.2.1 hd  (LR_has hl) hn rfl (fun lr' hl' => ?_)
  exact kk p l e R s m args below meth c A D ad0 kd0 N0 Q' H locs cells slots ad cs kd lr' C T h1 h2 hS hR hE hX hT (vl_dr hv) (LR_st1 (v := .int x) hl (vl_hd hv) ok hl')
theorem e_lstore_n {M : MD} {d k z pc : Nat} {ls : List (Option Value)} {st : List Value} {fi : FI} {fr : FR} {ai : FI} {ar : FR} {N : Nat} {Q : EQ} {i : Nat} {n : Fin 4} {x : Int64} (hd : decode M.2.1 pc = .ok (.lstore_n n, 1)) (hi : (n : Nat) = i) (hn : i + 1 < M.2.2.1) (ok : okS ls i = true) (kk : EV M d k z (pc + 1) ((ls.set i (some (.long x))).set (i + 1) none) st fi fr ai ar N Q) : EV M d k z pc ls (.long x :: st) fi fr ai ar N Q := by
  intro p l e R s m args below meth c A D ad0 kd0 N0 Q' H locs cells slots ad cs kd lr C T h1 h2 hS hR hE hX hT hv hl
  show W p l e R s m args below meth c H locs cells slots Q' (F0 m pc lr (cv ad (.long x) :: st.map (cv ad)))
  refine lv_lstore_n C.1 C.2.1 hd hi (LR_has hl) hn rfl (fun lr' hl' => ?_)
  exact kk p l e R s m args below meth c A D ad0 kd0 N0 Q' H locs cells slots ad cs kd lr' C T h1 h2 hS hR hE hX hT (vl_dr hv) (LR_st2 (v := .long x) hl (vl_hd hv) ok hl')
theorem e_lstore {M : MD} {d k z pc : Nat} {ls : List (Option Value)} {st : List Value} {fi : FI} {fr : FR} {ai : FI} {ar : FR} {N : Nat} {Q : EQ} {i : Nat}  {x : Int64} (hd : decode M.2.1 pc = .ok (.lstore i, 2))  (hn : i + 1 < M.2.2.1) (ok : okS ls i = true) (kk : EV M d k z (pc + 2) ((ls.set i (some (.long x))).set (i + 1) none) st fi fr ai ar N Q) : EV M d k z pc ls (.long x :: st) fi fr ai ar N Q := by
  intro p l e R s m args below meth c A D ad0 kd0 N0 Q' H locs cells slots ad cs kd lr C T h1 h2 hS hR hE hX hT hv hl
  show W p l e R s m args below meth c H locs cells slots Q' (F0 m pc lr (cv ad (.long x) :: st.map (cv ad)))
  refine lv_lstore C.1 C.2.1 hd  (LR_has hl) hn rfl (fun lr' hl' => ?_)
  exact kk p l e R s m args below meth c A D ad0 kd0 N0 Q' H locs cells slots ad cs kd lr' C T h1 h2 hS hR hE hX hT (vl_dr hv) (LR_st2 (v := .long x) hl (vl_hd hv) ok hl')
theorem e_astore_n {M : MD} {d k z pc : Nat} {ls : List (Option Value)} {st : List Value} {fi : FI} {fr : FR} {ai : FI} {ar : FR} {N : Nat} {Q : EQ} {i : Nat} {n : Fin 4} {x : Nat} (hd : decode M.2.1 pc = .ok (.astore_n n, 1)) (hi : (n : Nat) = i) (hn : i < M.2.2.1) (ok : okS ls i = true) (kk : EV M d k z (pc + 1) (ls.set i (some (.ref x))) st fi fr ai ar N Q) : EV M d k z pc ls (.ref x :: st) fi fr ai ar N Q := by
  intro p l e R s m args below meth c A D ad0 kd0 N0 Q' H locs cells slots ad cs kd lr C T h1 h2 hS hR hE hX hT hv hl
  show W p l e R s m args below meth c H locs cells slots Q' (F0 m pc lr (cv ad (.ref x) :: st.map (cv ad)))
  refine lv_astore_n C.1 C.2.1 hd hi (LR_has hl) hn rfl (fun lr' hl' => ?_)
  exact kk p l e R s m args below meth c A D ad0 kd0 N0 Q' H locs cells slots ad cs kd lr' C T h1 h2 hS hR hE hX hT (vl_dr hv) (LR_st1 (v := .ref x) hl (vl_hd hv) ok hl')
theorem e_astore {M : MD} {d k z pc : Nat} {ls : List (Option Value)} {st : List Value} {fi : FI} {fr : FR} {ai : FI} {ar : FR} {N : Nat} {Q : EQ} {i : Nat}  {x : Nat} (hd : decode M.2.1 pc = .ok (.astore i, 2))  (hn : i < M.2.2.1) (ok : okS ls i = true) (kk : EV M d k z (pc + 2) (ls.set i (some (.ref x))) st fi fr ai ar N Q) : EV M d k z pc ls (.ref x :: st) fi fr ai ar N Q := by
  intro p l e R s m args below meth c A D ad0 kd0 N0 Q' H locs cells slots ad cs kd lr C T h1 h2 hS hR hE hX hT hv hl
  show W p l e R s m args below meth c H locs cells slots Q' (F0 m pc lr (cv ad (.ref x) :: st.map (cv ad)))
  refine lv_astore C.1 C.2.1 hd  (LR_has hl) hn rfl (fun lr' hl' => ?_)
  exact kk p l e R s m args below meth c A D ad0 kd0 N0 Q' H locs cells slots ad cs kd lr' C T h1 h2 hS hR hE hX hT (vl_dr hv) (LR_st1 (v := .ref x) hl (vl_hd hv) ok hl')
theorem e_iinc {M : MD} {d k z pc : Nat} {ls : List (Option Value)} {st : List Value} {fi : FI} {fr : FR} {ai : FI} {ar : FR} {N : Nat} {Q : EQ} {i : Nat} {n : Int} {x v : Int32} (hd : decode M.2.1 pc = .ok (.iinc i n, 3)) (hx : ls[i]? = some (some (.int x))) (hw : x + Int32.ofInt n = v) (hn : i < M.2.2.1) (ok : okS ls i = true) (kk : EV M d k z (pc + 3) (ls.set i (some (.int v))) st fi fr ai ar N Q) : EV M d k z pc ls st fi fr ai ar N Q := by
  intro p l e R s m args below meth c A D ad0 kd0 N0 Q' H locs cells slots ad cs kd lr C T h1 h2 hS hR hE hX hT hv hl
  obtain ⟨j, hj⟩ := List.getElem?_of_mem (lvO_mem (q := (i, .int x)).mpr ⟨_, hx, rfl⟩)
  refine lv_iinc C.1 C.2.1 hd (LR_has hl) hj hw hn rfl (fun lr' hl' => ?_)
  exact kk p l e R s m args below meth c A D ad0 kd0 N0 Q' H locs cells slots ad cs kd lr' C T h1 h2 hS hR hE hX hT hv (LR_st1 (v := .int v) hl trivial ok hl')
theorem e_if_eq {M : MD} {d k z pc : Nat} {ls : List (Option Value)} {st : List Value} {fi : FI} {fr : FR} {ai : FI} {ar : FR} {N : Nat} {Q : EQ} {x : Int32} {off : Int} {tgt : Nat} (hd : decode M.2.1 pc = .ok (.ifCond .eq off, 3)) (ht : (pc : Int) + off = (tgt : Int)) (kt : x = 0 → EV M d k z tgt ls st fi fr ai ar N Q) (kf : ¬ x = 0 → EV M d k z (pc + 3) ls st fi fr ai ar N Q) : EV M d k z pc ls (.int x :: st) fi fr ai ar N Q := by
  intro p l e R s m args below meth c A D ad0 kd0 N0 Q' H locs cells slots ad cs kd lr C T h1 h2 hS hR hE hX hT hv hl
  exact lv_if_eq C.1 C.2.1 hd ht (fun hc => kt hc p l e R s m args below meth c A D ad0 kd0 N0 Q' H locs cells slots ad cs kd lr C T h1 h2 hS hR hE hX hT (vl_dr hv) hl) (fun hc => kf hc p l e R s m args below meth c A D ad0 kd0 N0 Q' H locs cells slots ad cs kd lr C T h1 h2 hS hR hE hX hT (vl_dr hv) hl)
theorem e_icmp_eq {M : MD} {d k z pc : Nat} {ls : List (Option Value)} {st : List Value} {fi : FI} {fr : FR} {ai : FI} {ar : FR} {N : Nat} {Q : EQ} {x y : Int32} {off : Int} {tgt : Nat} (hd : decode M.2.1 pc = .ok (.if_icmp .eq off, 3)) (ht : (pc : Int) + off = (tgt : Int)) (kt : x = y → EV M d k z tgt ls st fi fr ai ar N Q) (kf : ¬ x = y → EV M d k z (pc + 3) ls st fi fr ai ar N Q) : EV M d k z pc ls (.int y :: .int x :: st) fi fr ai ar N Q := by
  intro p l e R s m args below meth c A D ad0 kd0 N0 Q' H locs cells slots ad cs kd lr C T h1 h2 hS hR hE hX hT hv hl
  exact lv_icmp_eq C.1 C.2.1 hd ht (fun hc => kt hc p l e R s m args below meth c A D ad0 kd0 N0 Q' H locs cells slots ad cs kd lr C T h1 h2 hS hR hE hX hT (vl_dr (vl_dr hv)) hl) (fun hc => kf hc p l e R s m args below meth c A D ad0 kd0 N0 Q' H locs cells slots ad cs kd lr C T h1 h2 hS hR hE hX hT (vl_dr (vl_dr hv)) hl)
theorem e_if_ne {M : MD} {d k z pc : Nat} {ls : List (Option Value)} {st : List Value} {fi : FI} {fr : FR} {ai : FI} {ar : FR} {N : Nat} {Q : EQ} {x : Int32} {off : Int} {tgt : Nat} (hd : decode M.2.1 pc = .ok (.ifCond .ne off, 3)) (ht : (pc : Int) + off = (tgt : Int)) (kt : ¬ x = 0 → EV M d k z tgt ls st fi fr ai ar N Q) (kf : x = 0 → EV M d k z (pc + 3) ls st fi fr ai ar N Q) : EV M d k z pc ls (.int x :: st) fi fr ai ar N Q := by
  intro p l e R s m args below meth c A D ad0 kd0 N0 Q' H locs cells slots ad cs kd lr C T h1 h2 hS hR hE hX hT hv hl
  exact lv_if_ne C.1 C.2.1 hd ht (fun hc => kt hc p l e R s m args below meth c A D ad0 kd0 N0 Q' H locs cells slots ad cs kd lr C T h1 h2 hS hR hE hX hT (vl_dr hv) hl) (fun hc => kf hc p l e R s m args below meth c A D ad0 kd0 N0 Q' H locs cells slots ad cs kd lr C T h1 h2 hS hR hE hX hT (vl_dr hv) hl)
theorem e_icmp_ne {M : MD} {d k z pc : Nat} {ls : List (Option Value)} {st : List Value} {fi : FI} {fr : FR} {ai : FI} {ar : FR} {N : Nat} {Q : EQ} {x y : Int32} {off : Int} {tgt : Nat} (hd : decode M.2.1 pc = .ok (.if_icmp .ne off, 3)) (ht : (pc : Int) + off = (tgt : Int)) (kt : ¬ x = y → EV M d k z tgt ls st fi fr ai ar N Q) (kf : x = y → EV M d k z (pc + 3) ls st fi fr ai ar N Q) : EV M d k z pc ls (.int y :: .int x :: st) fi fr ai ar N Q := by
  intro p l e R s m args below meth c A D ad0 kd0 N0 Q' H locs cells slots ad cs kd lr C T h1 h2 hS hR hE hX hT hv hl
  exact lv_icmp_ne C.1 C.2.1 hd ht (fun hc => kt hc p l e R s m args below meth c A D ad0 kd0 N0 Q' H locs cells slots ad cs kd lr C T h1 h2 hS hR hE hX hT (vl_dr (vl_dr hv)) hl) (fun hc => kf hc p l e R s m args below meth c A D ad0 kd0 N0 Q' H locs cells slots ad cs kd lr C T h1 h2 hS hR hE hX hT (vl_dr (vl_dr hv)) hl)
theorem e_if_lt {M : MD} {d k z pc : Nat} {ls : List (Option Value)} {st : List Value} {fi : FI} {fr : FR} {ai : FI} {ar : FR} {N : Nat} {Q : EQ} {x : Int32} {off : Int} {tgt : Nat} (hd : decode M.2.1 pc = .ok (.ifCond .lt off, 3)) (ht : (pc : Int) + off = (tgt : Int)) (kt : x < 0 → EV M d k z tgt ls st fi fr ai ar N Q) (kf : ¬ x < 0 → EV M d k z (pc + 3) ls st fi fr ai ar N Q) : EV M d k z pc ls (.int x :: st) fi fr ai ar N Q := by
  intro p l e R s m args below meth c A D ad0 kd0 N0 Q' H locs cells slots ad cs kd lr C T h1 h2 hS hR hE hX hT hv hl
  exact lv_if_lt C.1 C.2.1 hd ht (fun hc => kt hc p l e R s m args below meth c A D ad0 kd0 N0 Q' H locs cells slots ad cs kd lr C T h1 h2 hS hR hE hX hT (vl_dr hv) hl) (fun hc => kf hc p l e R s m args below meth c A D ad0 kd0 N0 Q' H locs cells slots ad cs kd lr C T h1 h2 hS hR hE hX hT (vl_dr hv) hl)
theorem e_icmp_lt {M : MD} {d k z pc : Nat} {ls : List (Option Value)} {st : List Value} {fi : FI} {fr : FR} {ai : FI} {ar : FR} {N : Nat} {Q : EQ} {x y : Int32} {off : Int} {tgt : Nat} (hd : decode M.2.1 pc = .ok (.if_icmp .lt off, 3)) (ht : (pc : Int) + off = (tgt : Int)) (kt : x < y → EV M d k z tgt ls st fi fr ai ar N Q) (kf : ¬ x < y → EV M d k z (pc + 3) ls st fi fr ai ar N Q) : EV M d k z pc ls (.int y :: .int x :: st) fi fr ai ar N Q := by
  intro p l e R s m args below meth c A D ad0 kd0 N0 Q' H locs cells slots ad cs kd lr C T h1 h2 hS hR hE hX hT hv hl
  exact lv_icmp_lt C.1 C.2.1 hd ht (fun hc => kt hc p l e R s m args below meth c A D ad0 kd0 N0 Q' H locs cells slots ad cs kd lr C T h1 h2 hS hR hE hX hT (vl_dr (vl_dr hv)) hl) (fun hc => kf hc p l e R s m args below meth c A D ad0 kd0 N0 Q' H locs cells slots ad cs kd lr C T h1 h2 hS hR hE hX hT (vl_dr (vl_dr hv)) hl)
theorem e_if_ge {M : MD} {d k z pc : Nat} {ls : List (Option Value)} {st : List Value} {fi : FI} {fr : FR} {ai : FI} {ar : FR} {N : Nat} {Q : EQ} {x : Int32} {off : Int} {tgt : Nat} (hd : decode M.2.1 pc = .ok (.ifCond .ge off, 3)) (ht : (pc : Int) + off = (tgt : Int)) (kt : 0 ≤ x → EV M d k z tgt ls st fi fr ai ar N Q) (kf : ¬ 0 ≤ x → EV M d k z (pc + 3) ls st fi fr ai ar N Q) : EV M d k z pc ls (.int x :: st) fi fr ai ar N Q := by
  intro p l e R s m args below meth c A D ad0 kd0 N0 Q' H locs cells slots ad cs kd lr C T h1 h2 hS hR hE hX hT hv hl
  exact lv_if_ge C.1 C.2.1 hd ht (fun hc => kt hc p l e R s m args below meth c A D ad0 kd0 N0 Q' H locs cells slots ad cs kd lr C T h1 h2 hS hR hE hX hT (vl_dr hv) hl) (fun hc => kf hc p l e R s m args below meth c A D ad0 kd0 N0 Q' H locs cells slots ad cs kd lr C T h1 h2 hS hR hE hX hT (vl_dr hv) hl)
theorem e_icmp_ge {M : MD} {d k z pc : Nat} {ls : List (Option Value)} {st : List Value} {fi : FI} {fr : FR} {ai : FI} {ar : FR} {N : Nat} {Q : EQ} {x y : Int32} {off : Int} {tgt : Nat} (hd : decode M.2.1 pc = .ok (.if_icmp .ge off, 3)) (ht : (pc : Int) + off = (tgt : Int)) (kt : y ≤ x → EV M d k z tgt ls st fi fr ai ar N Q) (kf : ¬ y ≤ x → EV M d k z (pc + 3) ls st fi fr ai ar N Q) : EV M d k z pc ls (.int y :: .int x :: st) fi fr ai ar N Q := by
  intro p l e R s m args below meth c A D ad0 kd0 N0 Q' H locs cells slots ad cs kd lr C T h1 h2 hS hR hE hX hT hv hl
  exact lv_icmp_ge C.1 C.2.1 hd ht (fun hc => kt hc p l e R s m args below meth c A D ad0 kd0 N0 Q' H locs cells slots ad cs kd lr C T h1 h2 hS hR hE hX hT (vl_dr (vl_dr hv)) hl) (fun hc => kf hc p l e R s m args below meth c A D ad0 kd0 N0 Q' H locs cells slots ad cs kd lr C T h1 h2 hS hR hE hX hT (vl_dr (vl_dr hv)) hl)
theorem e_if_gt {M : MD} {d k z pc : Nat} {ls : List (Option Value)} {st : List Value} {fi : FI} {fr : FR} {ai : FI} {ar : FR} {N : Nat} {Q : EQ} {x : Int32} {off : Int} {tgt : Nat} (hd : decode M.2.1 pc = .ok (.ifCond .gt off, 3)) (ht : (pc : Int) + off = (tgt : Int)) (kt : 0 < x → EV M d k z tgt ls st fi fr ai ar N Q) (kf : ¬ 0 < x → EV M d k z (pc + 3) ls st fi fr ai ar N Q) : EV M d k z pc ls (.int x :: st) fi fr ai ar N Q := by
  intro p l e R s m args below meth c A D ad0 kd0 N0 Q' H locs cells slots ad cs kd lr C T h1 h2 hS hR hE hX hT hv hl
  exact lv_if_gt C.1 C.2.1 hd ht (fun hc => kt hc p l e R s m args below meth c A D ad0 kd0 N0 Q' H locs cells slots ad cs kd lr C T h1 h2 hS hR hE hX hT (vl_dr hv) hl) (fun hc => kf hc p l e R s m args below meth c A D ad0 kd0 N0 Q' H locs cells slots ad cs kd lr C T h1 h2 hS hR hE hX hT (vl_dr hv) hl)
theorem e_icmp_gt {M : MD} {d k z pc : Nat} {ls : List (Option Value)} {st : List Value} {fi : FI} {fr : FR} {ai : FI} {ar : FR} {N : Nat} {Q : EQ} {x y : Int32} {off : Int} {tgt : Nat} (hd : decode M.2.1 pc = .ok (.if_icmp .gt off, 3)) (ht : (pc : Int) + off = (tgt : Int)) (kt : y < x → EV M d k z tgt ls st fi fr ai ar N Q) (kf : ¬ y < x → EV M d k z (pc + 3) ls st fi fr ai ar N Q) : EV M d k z pc ls (.int y :: .int x :: st) fi fr ai ar N Q := by
  intro p l e R s m args below meth c A D ad0 kd0 N0 Q' H locs cells slots ad cs kd lr C T h1 h2 hS hR hE hX hT hv hl
  exact lv_icmp_gt C.1 C.2.1 hd ht (fun hc => kt hc p l e R s m args below meth c A D ad0 kd0 N0 Q' H locs cells slots ad cs kd lr C T h1 h2 hS hR hE hX hT (vl_dr (vl_dr hv)) hl) (fun hc => kf hc p l e R s m args below meth c A D ad0 kd0 N0 Q' H locs cells slots ad cs kd lr C T h1 h2 hS hR hE hX hT (vl_dr (vl_dr hv)) hl)
theorem e_if_le {M : MD} {d k z pc : Nat} {ls : List (Option Value)} {st : List Value} {fi : FI} {fr : FR} {ai : FI} {ar : FR} {N : Nat} {Q : EQ} {x : Int32} {off : Int} {tgt : Nat} (hd : decode M.2.1 pc = .ok (.ifCond .le off, 3)) (ht : (pc : Int) + off = (tgt : Int)) (kt : x ≤ 0 → EV M d k z tgt ls st fi fr ai ar N Q) (kf : ¬ x ≤ 0 → EV M d k z (pc + 3) ls st fi fr ai ar N Q) : EV M d k z pc ls (.int x :: st) fi fr ai ar N Q := by
  intro p l e R s m args below meth c A D ad0 kd0 N0 Q' H locs cells slots ad cs kd lr C T h1 h2 hS hR hE hX hT hv hl
  exact lv_if_le C.1 C.2.1 hd ht (fun hc => kt hc p l e R s m args below meth c A D ad0 kd0 N0 Q' H locs cells slots ad cs kd lr C T h1 h2 hS hR hE hX hT (vl_dr hv) hl) (fun hc => kf hc p l e R s m args below meth c A D ad0 kd0 N0 Q' H locs cells slots ad cs kd lr C T h1 h2 hS hR hE hX hT (vl_dr hv) hl)
theorem e_icmp_le {M : MD} {d k z pc : Nat} {ls : List (Option Value)} {st : List Value} {fi : FI} {fr : FR} {ai : FI} {ar : FR} {N : Nat} {Q : EQ} {x y : Int32} {off : Int} {tgt : Nat} (hd : decode M.2.1 pc = .ok (.if_icmp .le off, 3)) (ht : (pc : Int) + off = (tgt : Int)) (kt : x ≤ y → EV M d k z tgt ls st fi fr ai ar N Q) (kf : ¬ x ≤ y → EV M d k z (pc + 3) ls st fi fr ai ar N Q) : EV M d k z pc ls (.int y :: .int x :: st) fi fr ai ar N Q := by
  intro p l e R s m args below meth c A D ad0 kd0 N0 Q' H locs cells slots ad cs kd lr C T h1 h2 hS hR hE hX hT hv hl
  exact lv_icmp_le C.1 C.2.1 hd ht (fun hc => kt hc p l e R s m args below meth c A D ad0 kd0 N0 Q' H locs cells slots ad cs kd lr C T h1 h2 hS hR hE hX hT (vl_dr (vl_dr hv)) hl) (fun hc => kf hc p l e R s m args below meth c A D ad0 kd0 N0 Q' H locs cells slots ad cs kd lr C T h1 h2 hS hR hE hX hT (vl_dr (vl_dr hv)) hl)
theorem e_goto {M : MD} {d k z pc : Nat} {ls : List (Option Value)} {st : List Value} {fi : FI} {fr : FR} {ai : FI} {ar : FR} {N : Nat} {Q : EQ} {off : Int} {tgt : Nat} (hd : decode M.2.1 pc = .ok (.goto off, 3)) (ht : (pc : Int) + off = (tgt : Int)) (kk : EV M d k z tgt ls st fi fr ai ar N Q) : EV M d k z pc ls st fi fr ai ar N Q := by
  intro p l e R s m args below meth c A D ad0 kd0 N0 Q' H locs cells slots ad cs kd lr C T h1 h2 hS hR hE hX hT hv hl
  exact lv_goto C.1 C.2.1 hd ht (kk p l e R s m args below meth c A D ad0 kd0 N0 Q' H locs cells slots ad cs kd lr C T h1 h2 hS hR hE hX hT hv hl)
theorem e_ifnonnull {M : MD} {d k z pc : Nat} {ls : List (Option Value)} {st : List Value} {fi : FI} {fr : FR} {ai : FI} {ar : FR} {N : Nat} {Q : EQ} {x : Nat} {off : Int} {tgt : Nat} (hd : decode M.2.1 pc = .ok (.ifnonnull off, 3)) (ht : (pc : Int) + off = (tgt : Int)) (kk : EV M d k z tgt ls st fi fr ai ar N Q) : EV M d k z pc ls (.ref x :: st) fi fr ai ar N Q := by
  intro p l e R s m args below meth c A D ad0 kd0 N0 Q' H locs cells slots ad cs kd lr C T h1 h2 hS hR hE hX hT hv hl
  exact lv_ifnonnull C.1 C.2.1 hd ht (kk p l e R s m args below meth c A D ad0 kd0 N0 Q' H locs cells slots ad cs kd lr C T h1 h2 hS hR hE hX hT (vl_dr hv) hl)
theorem e_ifnonnullN {M : MD} {d k z pc : Nat} {ls : List (Option Value)} {st : List Value} {fi : FI} {fr : FR} {ai : FI} {ar : FR} {N : Nat} {Q : EQ} {off : Int} (hd : decode M.2.1 pc = .ok (.ifnonnull off, 3)) (kk : EV M d k z (pc + 3) ls st fi fr ai ar N Q) : EV M d k z pc ls (.null :: st) fi fr ai ar N Q := by
  intro p l e R s m args below meth c A D ad0 kd0 N0 Q' H locs cells slots ad cs kd lr C T h1 h2 hS hR hE hX hT hv hl
  exact lv_ifnonnullN C.1 C.2.1 hd (kk p l e R s m args below meth c A D ad0 kd0 N0 Q' H locs cells slots ad cs kd lr C T h1 h2 hS hR hE hX hT (vl_dr hv) hl)
theorem e_ifnull {M : MD} {d k z pc : Nat} {ls : List (Option Value)} {st : List Value} {fi : FI} {fr : FR} {ai : FI} {ar : FR} {N : Nat} {Q : EQ} {x : Nat} {off : Int} (hd : decode M.2.1 pc = .ok (.ifnull off, 3)) (kk : EV M d k z (pc + 3) ls st fi fr ai ar N Q) : EV M d k z pc ls (.ref x :: st) fi fr ai ar N Q := by
  intro p l e R s m args below meth c A D ad0 kd0 N0 Q' H locs cells slots ad cs kd lr C T h1 h2 hS hR hE hX hT hv hl
  exact lv_ifnull C.1 C.2.1 hd (kk p l e R s m args below meth c A D ad0 kd0 N0 Q' H locs cells slots ad cs kd lr C T h1 h2 hS hR hE hX hT (vl_dr hv) hl)
theorem e_ifnullN {M : MD} {d k z pc : Nat} {ls : List (Option Value)} {st : List Value} {fi : FI} {fr : FR} {ai : FI} {ar : FR} {N : Nat} {Q : EQ} {off : Int} {tgt : Nat} (hd : decode M.2.1 pc = .ok (.ifnull off, 3)) (ht : (pc : Int) + off = (tgt : Int)) (kk : EV M d k z tgt ls st fi fr ai ar N Q) : EV M d k z pc ls (.null :: st) fi fr ai ar N Q := by
  intro p l e R s m args below meth c A D ad0 kd0 N0 Q' H locs cells slots ad cs kd lr C T h1 h2 hS hR hE hX hT hv hl
  exact lv_ifnullN C.1 C.2.1 hd ht (kk p l e R s m args below meth c A D ad0 kd0 N0 Q' H locs cells slots ad cs kd lr C T h1 h2 hS hR hE hX hT (vl_dr hv) hl)
theorem e_tableOut {M : MD} {d k z pc : Nat} {ls : List (Option Value)} {st : List Value} {fi : FI} {fr : FR} {ai : FI} {ar : FR} {N : Nat} {Q : EQ} {dflt lo hi : Int} {offs : Array Int} {len : Nat} {x : Int32} {tgt : Nat} (hd : decode M.2.1 pc = .ok (.tableswitch dflt lo hi offs, len)) (h : x.toInt < lo ∨ hi < x.toInt) (ht : (pc : Int) + dflt = (tgt : Int)) (kk : EV M d k z tgt ls st fi fr ai ar N Q) : EV M d k z pc ls (.int x :: st) fi fr ai ar N Q := by
  intro p l e R s m args below meth c A D ad0 kd0 N0 Q' H locs cells slots ad cs kd lr C T h1 h2 hS hR hE hX hT hv hl
  exact lv_tableOut C.1 C.2.1 hd h ht (kk p l e R s m args below meth c A D ad0 kd0 N0 Q' H locs cells slots ad cs kd lr C T h1 h2 hS hR hE hX hT (vl_dr hv) hl)
theorem e_tableIn {M : MD} {d k z pc : Nat} {ls : List (Option Value)} {st : List Value} {fi : FI} {fr : FR} {ai : FI} {ar : FR} {N : Nat} {Q : EQ} {dflt lo hi : Int} {offs : Array Int} {len : Nat} {x : Int32} {off : Int} {tgt : Nat} (hd : decode M.2.1 pc = .ok (.tableswitch dflt lo hi offs, len)) (g1 : ¬ x.toInt < lo) (g2 : ¬ hi < x.toInt) (ho : offs[(x.toInt - lo).toNat]? = some off) (ht : (pc : Int) + off = (tgt : Int)) (kk : EV M d k z tgt ls st fi fr ai ar N Q) : EV M d k z pc ls (.int x :: st) fi fr ai ar N Q := by
  intro p l e R s m args below meth c A D ad0 kd0 N0 Q' H locs cells slots ad cs kd lr C T h1 h2 hS hR hE hX hT hv hl
  exact lv_tableIn C.1 C.2.1 hd g1 g2 ho ht (kk p l e R s m args below meth c A D ad0 kd0 N0 Q' H locs cells slots ad cs kd lr C T h1 h2 hS hR hE hX hT (vl_dr hv) hl)
theorem e_lookup {M : MD} {d k z pc : Nat} {ls : List (Option Value)} {st : List Value} {fi : FI} {fr : FR} {ai : FI} {ar : FR} {N : Nat} {Q : EQ} {dflt : Int} {ps : Array (Int × Int)} {len : Nat} {x : Int32} {off : Int} {tgt : Nat} (hd : decode M.2.1 pc = .ok (.lookupswitch dflt ps, len)) (hp : (ps.toList.zip (ps.toList.drop 1)).all (fun (a, next) => a.1 < next.1) = true) (ho : Op.lookupswitch.offset ps.toList dflt x.toInt = off) (ht : (pc : Int) + off = (tgt : Int)) (kk : EV M d k z tgt ls st fi fr ai ar N Q) : EV M d k z pc ls (.int x :: st) fi fr ai ar N Q := by
  intro p l e R s m args below meth c A D ad0 kd0 N0 Q' H locs cells slots ad cs kd lr C T h1 h2 hS hR hE hX hT hv hl
  exact lv_lookup C.1 C.2.1 hd hp ho ht (kk p l e R s m args below meth c A D ad0 kd0 N0 Q' H locs cells slots ad cs kd lr C T h1 h2 hS hR hE hX hT (vl_dr hv) hl)
theorem e_ldc {M : MD} {d k z pc : Nat} {ls : List (Option Value)} {st : List Value} {fi : FI} {fr : FR} {ai : FI} {ar : FR} {N : Nat} {Q : EQ} {i : Nat} {v : Int32} (hd : decode M.2.1 pc = .ok (.ldc i, 2)) (hw : Cond.constant M.1.cls i v ∈ gw) (kk : EV M d k z (pc + 2) ls (.int v :: st) fi fr ai ar N Q) : EV M d k z pc ls st fi fr ai ar N Q := by
  intro p l e R s m args below meth c A D ad0 kd0 N0 Q' H locs cells slots ad cs kd lr C T h1 h2 hS hR hE hX hT hv hl
  exact lv_ldc C.1 C.2.1 C.2.2.2.2.1 (C.2.2.2.2.2.1 _ hw) hd (kk p l e R s m args below meth c A D ad0 kd0 N0 Q' H locs cells slots ad cs kd lr C T h1 h2 hS hR hE hX hT (vl_pu trivial hv) hl)
theorem e_ldcw {M : MD} {d k z pc : Nat} {ls : List (Option Value)} {st : List Value} {fi : FI} {fr : FR} {ai : FI} {ar : FR} {N : Nat} {Q : EQ} {i : Nat} {v : Int32} (hd : decode M.2.1 pc = .ok (.ldc_w i, 3)) (hw : Cond.constant M.1.cls i v ∈ gw) (kk : EV M d k z (pc + 3) ls (.int v :: st) fi fr ai ar N Q) : EV M d k z pc ls st fi fr ai ar N Q := by
  intro p l e R s m args below meth c A D ad0 kd0 N0 Q' H locs cells slots ad cs kd lr C T h1 h2 hS hR hE hX hT hv hl
  exact lv_ldcw C.1 C.2.1 C.2.2.2.2.1 (C.2.2.2.2.2.1 _ hw) hd (kk p l e R s m args below meth c A D ad0 kd0 N0 Q' H locs cells slots ad cs kd lr C T h1 h2 hS hR hE hX hT (vl_pu trivial hv) hl)
theorem e_ldc2 {M : MD} {d k z pc : Nat} {ls : List (Option Value)} {st : List Value} {fi : FI} {fr : FR} {ai : FI} {ar : FR} {N : Nat} {Q : EQ} {i : Nat} {v : Int64} (hd : decode M.2.1 pc = .ok (.ldc2_w i, 3)) (hw : Cond.constantLong M.1.cls i v ∈ gw) (kk : EV M d k z (pc + 3) ls (.long v :: st) fi fr ai ar N Q) : EV M d k z pc ls st fi fr ai ar N Q := by
  intro p l e R s m args below meth c A D ad0 kd0 N0 Q' H locs cells slots ad cs kd lr C T h1 h2 hS hR hE hX hT hv hl
  exact lv_ldc2 C.1 C.2.1 C.2.2.2.2.1 (C.2.2.2.2.2.1 _ hw) hd (kk p l e R s m args below meth c A D ad0 kd0 N0 Q' H locs cells slots ad cs kd lr C T h1 h2 hS hR hE hX hT (vl_pu trivial hv) hl)
theorem e_ret {M : MD} {d k z pc : Nat} {ls : List (Option Value)} {st : List Value} {fi : FI} {fr : FR} {ai : FI} {ar : FR} {N : Nat} {Q : EQ} (v : Option Value) (hst : st = v.toList) (hr : isRet M pc v) (hq : Q v fi fr ai ar N) : EV M d k z pc ls st fi fr ai ar N Q := by
  intro p l e R s m args below meth c A D ad0 kd0 N0 Q' H locs cells slots ad cs kd lr C T h1 h2 hS hR hE hX hT hv hl
  subst hst
  exact T v fi fr ai ar N ad cs kd H locs cells slots pc lr hq hR hE hS (by omega) (by omega) (fun w hw => hv w (by rw [hw]; exact List.mem_singleton.mpr rfl)) hr
