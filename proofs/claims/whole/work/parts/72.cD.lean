/-- an answer, what was linked stays, and a property of the new heap -/
def mQ (r : Option Value) (fr : FR) (ar : FR) (N : Nat) (P : FI → FI → Prop) : EQ := fun r1 fi1 fr1 ai1 ar1 N1 => r1 = r ∧ fr1 = fr ∧ ar1 = ar ∧ N1 = N ∧ P fi1 ai1
theorem mq {r1 r : Option Value} {fi1 : FI} {fr : FR} {ai1 : FI} {ar : FR} {N : Nat} {P : FI → FI → Prop} (h : r1 = r) (hP : P fi1 ai1) : mQ r fr ar N P r1 fi1 fr ai1 ar N := ⟨h, rfl, rfl, rfl, hP⟩
/-- outside the cells lo .. hi - 1 nothing changed -/
def FRg (lo hi : Nat) (fi ai fi' ai' : FI) : Prop := (∀ f r, (r / 64 < lo ∨ hi ≤ r / 64) → fi' f r = fi f r) ∧ ∀ a, (a / 64 < lo ∨ hi ≤ a / 64) → ai' a = ai a
theorem FRg_rf {lo hi : Nat} {fi ai : FI} : FRg lo hi fi ai fi ai := ⟨fun _ _ _ => rfl, fun _ _ => rfl⟩
theorem FRg_tr {lo hi l2 h2 L H : Nat} {a b c d e f : FI} (h : FRg lo hi a b c d) (g : FRg l2 h2 c d e f) (x : L ≤ lo ∧ hi ≤ H) (y : L ≤ l2 ∧ h2 ≤ H) : FRg L H a b e f :=
  ⟨fun q r hr => (g.1 q r (by omega)).trans (h.1 q r (by omega)), fun q hq => (g.2 q (by omega)).trans (h.2 q (by omega))⟩
theorem FRg_1 {lo hi : Nat} {a b c d : FI} (h : FRg lo hi a b c d) (x : 1 ≤ lo ∧ hi ≤ 71) : FR1 a b c d := ⟨fun f r hr => h.1 f r (by omega), fun a ha => h.2 a (by omega)⟩
theorem TBR_g {lo hi : Nat} {fi ai fi' ai' : FI} {t n e : Nat} {l2 ow ep : Nat → Nat} (g : FRg lo hi fi ai fi' ai') (hd : t + 3 < lo ∨ hi ≤ t) (h : TBR fi ai t n e l2 ow ep) : TBR fi' ai' t n e l2 ow ep :=
  TBR_fr (fun f => g.1 f _ (by rw [rf_div (by decide)]; omega)) (g.2 _ (by rw [rf_div (by decide)]; omega)) (g.2 _ (by rw [rf_div (by decide)]; omega)) (g.2 _ (by rw [rf_div (by decide)]; omega)) h
theorem MVR_g {lo hi : Nat} {fi ai fi' ai' : FI} {p : Nat} {v : Nat → Nat} (g : FRg lo hi fi ai fi' ai') (hd : p + 1 < lo ∨ hi ≤ p) (h : MVR fi ai p v) : MVR fi' ai' p v :=
  MVR_fr (fun f => g.1 f _ (by rw [rf_div (by decide)]; omega)) (g.2 _ (by rw [rf_div (by decide)]; omega)) h
theorem KW_g {lo hi b : Nat} {fi ai fi' ai' : FI} {w : Nat → Nat} (h3 : w 3 ≤ 12) (g : FRg lo hi fi ai fi' ai') (hd : b + 57 ≤ lo ∨ hi ≤ b) (h : KW b fi ai w) : KW b fi' ai' w :=
  KW_fr h3 (fun f r a c => g.1 f r (by omega)) (fun q a c => g.2 q (by omega)) h
theorem LGR_g {lo hi b E : Nat} {fi ai fi' ai' : FI} {w lg : Nat → Nat} (g : FRg lo hi fi ai fi' ai') (hd : b + 7 ≤ lo ∨ hi ≤ b) (h : LGR b ai w lg E) : LGR b ai' w lg E :=
  LGR_fr (fun q a c => g.2 q (by omega)) h
theorem bz_n {x : Nat} (h : x ≤ 1) : narrow .boolean (.int (nI x)) = .int (nI x) := by
  rcases (show x = 0 ∨ x = 1 by omega) with e | e <;> rw [e] <;> rfl
theorem bz_f {x : Nat} (h : x ≤ 1) : fits .boolean (.int (nI x)) = true := by
  rcases (show x = 0 ∨ x = 1 by omega) with e | e <;> rw [e] <;> rfl
theorem mx_V0 {M : MD} {d k z pc : Nat} {ls : List (Option Value)} {st : List Value} {fi : FI} {fr : FR} {ai : FI} {ar : FR} {N : Nat} {Q : EQ} {M' : MD} {d' i κ o : Nat}  {P : FI → FI → Prop} {r : Value} (hd : decode M.2.1 pc = .ok (.invokevirtual i, 3)) (hm : Cond.methodLink M.1.cls i M'.1 ∈ gw) (ok : MOK M' 0) (h12 : κ < 12) (hcl : (cK κ).1 = M'.1.cls) (hi : Cond.instanceMethod M'.1 ∈ gw) (hsel : Cond.selects M'.1.cls M'.1 M'.1 ∈ gw) (hc : CP M' d' 0 0 (.ref (rf κ o) :: []) fi fr ai ar N (mQ (some r) fr ar N P)) (hen : (enS (.ref (rf κ o) :: [])).length ≤ M'.2.2.1) (hdd : d' < d) (hcat : (st.map fun v => v.category).sum ≤ 8) (kk : ∀ fi' ai', P fi' ai' → EV M d k z (pc + 3) ls (r :: st) fi' fr ai' ar N Q) : EV M d k z pc ls (.ref (rf κ o) :: st) fi fr ai ar N Q := e_callV (k2 := k) (z2 := z) (As := []) hd hm ok h12 hcl hi hsel hc rfl rfl hen hdd ⟨by omega, by omega⟩ hcat (fun r1 f1 g1 a1 q1 n1 h => by obtain ⟨rfl, rfl, rfl, rfl, h5⟩ := h; exact kk _ _ h5)
theorem my_V0 {M : MD} {d k z pc : Nat} {ls : List (Option Value)} {st : List Value} {fi : FI} {fr : FR} {ai : FI} {ar : FR} {N : Nat} {Q : EQ} {M' : MD} {d' i κ o : Nat}  {P : FI → FI → Prop}  (hd : decode M.2.1 pc = .ok (.invokevirtual i, 3)) (hm : Cond.methodLink M.1.cls i M'.1 ∈ gw) (ok : MOK M' 0) (h12 : κ < 12) (hcl : (cK κ).1 = M'.1.cls) (hi : Cond.instanceMethod M'.1 ∈ gw) (hsel : Cond.selects M'.1.cls M'.1 M'.1 ∈ gw) (hc : CP M' d' 0 0 (.ref (rf κ o) :: []) fi fr ai ar N (mQ (none) fr ar N P)) (hen : (enS (.ref (rf κ o) :: [])).length ≤ M'.2.2.1) (hdd : d' < d) (hcat : (st.map fun v => v.category).sum ≤ 8) (kk : ∀ fi' ai', P fi' ai' → EV M d k z (pc + 3) ls st fi' fr ai' ar N Q) : EV M d k z pc ls (.ref (rf κ o) :: st) fi fr ai ar N Q := e_callV (k2 := k) (z2 := z) (As := []) hd hm ok h12 hcl hi hsel hc rfl rfl hen hdd ⟨by omega, by omega⟩ hcat (fun r1 f1 g1 a1 q1 n1 h => by obtain ⟨rfl, rfl, rfl, rfl, h5⟩ := h; exact kk _ _ h5)
theorem mx_V1 {M : MD} {d k z pc : Nat} {ls : List (Option Value)} {st : List Value} {fi : FI} {fr : FR} {ai : FI} {ar : FR} {N : Nat} {Q : EQ} {M' : MD} {d' i κ o : Nat} {v1 : Value} {P : FI → FI → Prop} {r : Value} (hd : decode M.2.1 pc = .ok (.invokevirtual i, 3)) (hm : Cond.methodLink M.1.cls i M'.1 ∈ gw) (ok : MOK M' 1) (h12 : κ < 12) (hcl : (cK κ).1 = M'.1.cls) (hi : Cond.instanceMethod M'.1 ∈ gw) (hsel : Cond.selects M'.1.cls M'.1 M'.1 ∈ gw) (hc : CP M' d' 0 0 (.ref (rf κ o) :: [v1]) fi fr ai ar N (mQ (some r) fr ar N P)) (hen : (enS (.ref (rf κ o) :: [v1])).length ≤ M'.2.2.1) (hdd : d' < d) (hcat : (st.map fun v => v.category).sum ≤ 8) (kk : ∀ fi' ai', P fi' ai' → EV M d k z (pc + 3) ls (r :: st) fi' fr ai' ar N Q) : EV M d k z pc ls (v1 :: .ref (rf κ o) :: st) fi fr ai ar N Q := e_callV (k2 := k) (z2 := z) (As := [v1]) hd hm ok h12 hcl hi hsel hc rfl rfl hen hdd ⟨by omega, by omega⟩ hcat (fun r1 f1 g1 a1 q1 n1 h => by obtain ⟨rfl, rfl, rfl, rfl, h5⟩ := h; exact kk _ _ h5)
theorem my_V1 {M : MD} {d k z pc : Nat} {ls : List (Option Value)} {st : List Value} {fi : FI} {fr : FR} {ai : FI} {ar : FR} {N : Nat} {Q : EQ} {M' : MD} {d' i κ o : Nat} {v1 : Value} {P : FI → FI → Prop}  (hd : decode M.2.1 pc = .ok (.invokevirtual i, 3)) (hm : Cond.methodLink M.1.cls i M'.1 ∈ gw) (ok : MOK M' 1) (h12 : κ < 12) (hcl : (cK κ).1 = M'.1.cls) (hi : Cond.instanceMethod M'.1 ∈ gw) (hsel : Cond.selects M'.1.cls M'.1 M'.1 ∈ gw) (hc : CP M' d' 0 0 (.ref (rf κ o) :: [v1]) fi fr ai ar N (mQ (none) fr ar N P)) (hen : (enS (.ref (rf κ o) :: [v1])).length ≤ M'.2.2.1) (hdd : d' < d) (hcat : (st.map fun v => v.category).sum ≤ 8) (kk : ∀ fi' ai', P fi' ai' → EV M d k z (pc + 3) ls st fi' fr ai' ar N Q) : EV M d k z pc ls (v1 :: .ref (rf κ o) :: st) fi fr ai ar N Q := e_callV (k2 := k) (z2 := z) (As := [v1]) hd hm ok h12 hcl hi hsel hc rfl rfl hen hdd ⟨by omega, by omega⟩ hcat (fun r1 f1 g1 a1 q1 n1 h => by obtain ⟨rfl, rfl, rfl, rfl, h5⟩ := h; exact kk _ _ h5)
theorem mx_V2 {M : MD} {d k z pc : Nat} {ls : List (Option Value)} {st : List Value} {fi : FI} {fr : FR} {ai : FI} {ar : FR} {N : Nat} {Q : EQ} {M' : MD} {d' i κ o : Nat} {v1 v2 : Value} {P : FI → FI → Prop} {r : Value} (hd : decode M.2.1 pc = .ok (.invokevirtual i, 3)) (hm : Cond.methodLink M.1.cls i M'.1 ∈ gw) (ok : MOK M' 2) (h12 : κ < 12) (hcl : (cK κ).1 = M'.1.cls) (hi : Cond.instanceMethod M'.1 ∈ gw) (hsel : Cond.selects M'.1.cls M'.1 M'.1 ∈ gw) (hc : CP M' d' 0 0 (.ref (rf κ o) :: [v1, v2]) fi fr ai ar N (mQ (some r) fr ar N P)) (hen : (enS (.ref (rf κ o) :: [v1, v2])).length ≤ M'.2.2.1) (hdd : d' < d) (hcat : (st.map fun v => v.category).sum ≤ 8) (kk : ∀ fi' ai', P fi' ai' → EV M d k z (pc + 3) ls (r :: st) fi' fr ai' ar N Q) : EV M d k z pc ls (v2 :: v1 :: .ref (rf κ o) :: st) fi fr ai ar N Q := e_callV (k2 := k) (z2 := z) (As := [v1, v2]) hd hm ok h12 hcl hi hsel hc rfl rfl hen hdd ⟨by omega, by omega⟩ hcat (fun r1 f1 g1 a1 q1 n1 h => by obtain ⟨rfl, rfl, rfl, rfl, h5⟩ := h; exact kk _ _ h5)
theorem my_V2 {M : MD} {d k z pc : Nat} {ls : List (Option Value)} {st : List Value} {fi : FI} {fr : FR} {ai : FI} {ar : FR} {N : Nat} {Q : EQ} {M' : MD} {d' i κ o : Nat} {v1 v2 : Value} {P : FI → FI → Prop}  (hd : decode M.2.1 pc = .ok (.invokevirtual i, 3)) (hm : Cond.methodLink M.1.cls i M'.1 ∈ gw) (ok : MOK M' 2) (h12 : κ < 12) (hcl : (cK κ).1 = M'.1.cls) (hi : Cond.instanceMethod M'.1 ∈ gw) (hsel : Cond.selects M'.1.cls M'.1 M'.1 ∈ gw) (hc : CP M' d' 0 0 (.ref (rf κ o) :: [v1, v2]) fi fr ai ar N (mQ (none) fr ar N P)) (hen : (enS (.ref (rf κ o) :: [v1, v2])).length ≤ M'.2.2.1) (hdd : d' < d) (hcat : (st.map fun v => v.category).sum ≤ 8) (kk : ∀ fi' ai', P fi' ai' → EV M d k z (pc + 3) ls st fi' fr ai' ar N Q) : EV M d k z pc ls (v2 :: v1 :: .ref (rf κ o) :: st) fi fr ai ar N Q := e_callV (k2 := k) (z2 := z) (As := [v1, v2]) hd hm ok h12 hcl hi hsel hc rfl rfl hen hdd ⟨by omega, by omega⟩ hcat (fun r1 f1 g1 a1 q1 n1 h => by obtain ⟨rfl, rfl, rfl, rfl, h5⟩ := h; exact kk _ _ h5)
theorem mx_V3 {M : MD} {d k z pc : Nat} {ls : List (Option Value)} {st : List Value} {fi : FI} {fr : FR} {ai : FI} {ar : FR} {N : Nat} {Q : EQ} {M' : MD} {d' i κ o : Nat} {v1 v2 v3 : Value} {P : FI → FI → Prop} {r : Value} (hd : decode M.2.1 pc = .ok (.invokevirtual i, 3)) (hm : Cond.methodLink M.1.cls i M'.1 ∈ gw) (ok : MOK M' 3) (h12 : κ < 12) (hcl : (cK κ).1 = M'.1.cls) (hi : Cond.instanceMethod M'.1 ∈ gw) (hsel : Cond.selects M'.1.cls M'.1 M'.1 ∈ gw) (hc : CP M' d' 0 0 (.ref (rf κ o) :: [v1, v2, v3]) fi fr ai ar N (mQ (some r) fr ar N P)) (hen : (enS (.ref (rf κ o) :: [v1, v2, v3])).length ≤ M'.2.2.1) (hdd : d' < d) (hcat : (st.map fun v => v.category).sum ≤ 8) (kk : ∀ fi' ai', P fi' ai' → EV M d k z (pc + 3) ls (r :: st) fi' fr ai' ar N Q) : EV M d k z pc ls (v3 :: v2 :: v1 :: .ref (rf κ o) :: st) fi fr ai ar N Q := e_callV (k2 := k) (z2 := z) (As := [v1, v2, v3]) hd hm ok h12 hcl hi hsel hc rfl rfl hen hdd ⟨by omega, by omega⟩ hcat (fun r1 f1 g1 a1 q1 n1 h => by obtain ⟨rfl, rfl, rfl, rfl, h5⟩ := h; exact kk _ _ h5)
theorem my_V3 {M : MD} {d k z pc : Nat} {ls : List (Option Value)} {st : List Value} {fi : FI} {fr : FR} {ai : FI} {ar : FR} {N : Nat} {Q : EQ} {M' : MD} {d' i κ o : Nat} {v1 v2 v3 : Value} {P : FI → FI → Prop}  (hd : decode M.2.1 pc = .ok (.invokevirtual i, 3)) (hm : Cond.methodLink M.1.cls i M'.1 ∈ gw) (ok : MOK M' 3) (h12 : κ < 12) (hcl : (cK κ).1 = M'.1.cls) (hi : Cond.instanceMethod M'.1 ∈ gw) (hsel : Cond.selects M'.1.cls M'.1 M'.1 ∈ gw) (hc : CP M' d' 0 0 (.ref (rf κ o) :: [v1, v2, v3]) fi fr ai ar N (mQ (none) fr ar N P)) (hen : (enS (.ref (rf κ o) :: [v1, v2, v3])).length ≤ M'.2.2.1) (hdd : d' < d) (hcat : (st.map fun v => v.category).sum ≤ 8) (kk : ∀ fi' ai', P fi' ai' → EV M d k z (pc + 3) ls st fi' fr ai' ar N Q) : EV M d k z pc ls (v3 :: v2 :: v1 :: .ref (rf κ o) :: st) fi fr ai ar N Q := e_callV (k2 := k) (z2 := z) (As := [v1, v2, v3]) hd hm ok h12 hcl hi hsel hc rfl rfl hen hdd ⟨by omega, by omega⟩ hcat (fun r1 f1 g1 a1 q1 n1 h => by obtain ⟨rfl, rfl, rfl, rfl, h5⟩ := h; exact kk _ _ h5)
theorem tcp {fi fi' ai : FI} {t s n e : Nat} {lo ow ep : Nat → Nat} (h : TBR fi ai s n e lo ow ep) (hd : s + 3 < t ∨ t + 3 < s) (h1 : fi' (32 * 8 + 3) (rf 8 t) = nI n) (h2 : fi' (32 * 8 + 4) (rf 8 t) = nI e) : TBR fi' (cp2 (cp2 (cp2 ai (rf 16 (s + 1)) (rf 16 (t + 1)) 0 0 n) (rf 16 (s + 2)) (rf 16 (t + 2)) 0 0 n) (rf 16 (s + 3)) (rf 16 (t + 3)) 0 0 n) t n e lo ow ep := by
  refine ⟨h1, h2, fun i hi => ?_⟩
  obtain ⟨a, b, c⟩ := h.2.2 i hi
  refine ⟨?_, ?_, ?_⟩
  · rw [cp_o (rf_ne (by decide) (by decide) (by omega)), cp_o (rf_ne (by decide) (by decide) (by omega)), cp_in ⟨by omega, by omega⟩, Nat.zero_add, Nat.sub_zero]; exact a
  · rw [cp_o (rf_ne (by decide) (by decide) (by omega)), cp_in ⟨by omega, by omega⟩, Nat.zero_add, Nat.sub_zero, cp_o (rf_ne (by decide) (by decide) (by omega))]; exact b
  · rw [cp_in ⟨by omega, by omega⟩, Nat.zero_add, Nat.sub_zero, cp_o (rf_ne (by decide) (by decide) (by omega)), cp_o (rf_ne (by decide) (by decide) (by omega))]; exact c
theorem ct_X8_copyFrom {fi : FI} {fr : FR} {ai : FI} {ar : FR} {N : Nat} {t s n e : Nat} {lo ow ep : Nat → Nat} (tl : TBL fr t) (sl : TBL fr s) (h : TBR fi ai s n e lo ow ep) (hn : n ≤ 32) (hd : s + 3 < t ∨ t + 3 < s) : CP mX8_copyFrom 1 0 0 [.ref (rf 8 t), .ref (rf 8 s)] fi fr ai ar N (mQ none fr ar N (fun fi' ai' => TBR fi' ai' t n e lo ow ep ∧ FRg t (t + 4) fi ai fi' ai')) := by
  change EV mX8_copyFrom 1 0 0 0 [some (.ref (rf 8 t)), some (.ref (rf 8 s))] [] fi fr ai ar N (mQ none fr ar N (fun fi' ai' => TBR fi' ai' t n e lo ow ep ∧ FRg t (t + 4) fi ai fi' ai'))
  refine e_aload_n dX8_copyFrom_0 rfl rfl ?_
  refine e_aload_n dX8_copyFrom_1 rfl rfl ?_
  refine e_getE dX8_copyFrom_2 fl_X8_21 rfl h.1 ?_
  refine e_pg dX8_copyFrom_5 fl_X8_21 rfl rfl rfl rfl (fun fi5 g5 o5 => ?_)
  refine e_aload_n dX8_copyFrom_8 rfl rfl ?_
  refine e_aload_n dX8_copyFrom_9 rfl rfl ?_
  refine e_getE dX8_copyFrom_10 fl_X8_25 rfl ((o5 _ _ (by omega)).trans h.2.1) ?_
  refine e_pg dX8_copyFrom_13 fl_X8_25 rfl rfl rfl rfl (fun fi13 g13 o13 => ?_)
  refine e_aload_n dX8_copyFrom_16 rfl rfl ?_
  refine e_getR dX8_copyFrom_17 fl_X8_9 rfl sl.1 ?_
  refine e_iconst (v := nI 0) dX8_copyFrom_20 rfl ?_
  refine e_aload_n dX8_copyFrom_21 rfl rfl ?_
  refine e_getR dX8_copyFrom_22 fl_X8_9 rfl tl.1 ?_
  refine e_iconst (v := nI 0) dX8_copyFrom_25 rfl ?_
  refine e_aload_n dX8_copyFrom_26 rfl rfl ?_
  refine e_getE dX8_copyFrom_27 fl_X8_21 rfl ((o13 _ _ (by omega)).trans g5) ?_
  refine e_copy _ _ _ dX8_copyFrom_30 ml_X8_32 na_C sc_C nz_C (by decide) (Nat.le_of_ble_eq_true rfl) ⟨by decide, by decide⟩ ⟨by decide, by decide⟩ rfl rfl rfl rfl rfl (by simp only [lenK]; omega) (by simp only [lenK]; omega) ?_
  refine e_aload_n dX8_copyFrom_33 rfl rfl ?_
  refine e_getR dX8_copyFrom_34 fl_X8_15 rfl sl.2.1 ?_
  refine e_iconst (v := nI 0) dX8_copyFrom_37 rfl ?_
  refine e_aload_n dX8_copyFrom_38 rfl rfl ?_
  refine e_getR dX8_copyFrom_39 fl_X8_15 rfl tl.2.1 ?_
  refine e_iconst (v := nI 0) dX8_copyFrom_42 rfl ?_
  refine e_aload_n dX8_copyFrom_43 rfl rfl ?_
  refine e_getE dX8_copyFrom_44 fl_X8_21 rfl ((o13 _ _ (by omega)).trans g5) ?_
  refine e_copy _ _ _ dX8_copyFrom_47 ml_X8_32 na_C sc_C nz_C (by decide) (Nat.le_of_ble_eq_true rfl) ⟨by decide, by decide⟩ ⟨by decide, by decide⟩ rfl rfl rfl rfl rfl (by simp only [lenK]; omega) (by simp only [lenK]; omega) ?_
  refine e_aload_n dX8_copyFrom_50 rfl rfl ?_
  refine e_getR dX8_copyFrom_51 fl_X8_18 rfl sl.2.2 ?_
  refine e_iconst (v := nI 0) dX8_copyFrom_54 rfl ?_
  refine e_aload_n dX8_copyFrom_55 rfl rfl ?_
  refine e_getR dX8_copyFrom_56 fl_X8_18 rfl tl.2.2 ?_
  refine e_iconst (v := nI 0) dX8_copyFrom_59 rfl ?_
  refine e_aload_n dX8_copyFrom_60 rfl rfl ?_
  refine e_getE dX8_copyFrom_61 fl_X8_21 rfl ((o13 _ _ (by omega)).trans g5) ?_
  refine e_copy _ _ _ dX8_copyFrom_64 ml_X8_32 na_C sc_C nz_C (by decide) (Nat.le_of_ble_eq_true rfl) ⟨by decide, by decide⟩ ⟨by decide, by decide⟩ rfl rfl rfl rfl rfl (by simp only [lenK]; omega) (by simp only [lenK]; omega) ?_
  refine e_ret none rfl (r_void dX8_copyFrom_67 rfl) ?_
  refine mq rfl ⟨tcp h hd ((o13 _ _ (by omega)).trans g5) g13, fun f r hr => ?_, fun a ha => ?_⟩
  · rw [o13 f r (fun e => by rw [e.2, rf_div (by decide)] at hr; omega), o5 f r (fun e => by rw [e.2, rf_div (by decide)] at hr; omega)]
  · rw [cp_o (fun e => by rw [e, rf_div (by decide)] at ha; omega), cp_o (fun e => by rw [e, rf_div (by decide)] at ha; omega), cp_o (fun e => by rw [e, rf_div (by decide)] at ha; omega)]
/-- a move's fields while they are copied: those of D are in -/
def CS (fi0 fi : FI) (s t : Nat) (v : Nat → Nat) (D : List Nat) : Prop := (∀ f, 1 ≤ f → f ≤ 12 → fi (32 * 4 + f) (rf 4 s) = nI (v (fD f))) ∧ (∀ f, f ∈ D → fi (32 * 4 + f) (rf 4 t) = nI (v (fD f))) ∧ (∀ f r, r ≠ rf 4 t → fi f r = fi0 f r)
theorem CS_s {fi0 fi fi' : FI} {s t : Nat} {v : Nat → Nat} {D : List Nat} {g : Nat} (hd : s ≠ t) (h : CS fi0 fi s t v D) (hg : fi' (32 * 4 + g) (rf 4 t) = nI (v (fD g))) (o : ∀ x r, ¬ (x = 32 * 4 + g ∧ r = rf 4 t) → fi' x r = fi x r) : CS fi0 fi' s t v (g :: D) := by
  refine ⟨fun f a b => ?_, fun f hf => ?_, fun f r hr => ?_⟩
  · rw [o _ _ (fun e => hd (rf_inj (by decide) (by decide) e.2).2)]; exact h.1 f a b
  · by_cases e : f = g
    · rw [e]; exact hg
    · rw [o _ _ (fun q => e (by have := q.1; omega))]
      rcases List.mem_cons.mp hf with q | q
      · exact absurd q e
      · exact h.2.1 f q
  · rw [o _ _ (fun e => hr e.2)]; exact h.2.2 f r hr
theorem ct_X4_copyFrom {fi : FI} {fr : FR} {ai : FI} {ar : FR} {N : Nat} {t s : Nat} {v : Nat → Nat} (tl : fr (32 * 4 + 0) (rf 4 t) = some (rf 17 (t + 1))) (sl : fr (32 * 4 + 0) (rf 4 s) = some (rf 17 (s + 1))) (h : MVR fi ai s v) (h60 : v 6 ≤ 60) (h7 : v 7 ≤ 1) (hd : s + 1 < t ∨ t + 1 < s) : CP mX4_copyFrom 1 0 0 [.ref (rf 4 t), .ref (rf 4 s)] fi fr ai ar N (mQ none fr ar N (fun fi' ai' => MVR fi' ai' t v ∧ FRg t (t + 2) fi ai fi' ai')) := by
  have hne : s ≠ t := by omega
  have c : CS fi fi s t v [] := ⟨h.1, fun f hf => absurd hf (List.not_mem_nil), fun _ _ _ => rfl⟩
  change EV mX4_copyFrom 1 0 0 0 [some (.ref (rf 4 t)), some (.ref (rf 4 s))] [] fi fr ai ar N (mQ none fr ar N (fun fi' ai' => MVR fi' ai' t v ∧ FRg t (t + 2) fi ai fi' ai'))
  refine e_aload_n dX4_copyFrom_0 rfl rfl ?_
  refine e_aload_n dX4_copyFrom_1 rfl rfl ?_
  refine e_getE dX4_copyFrom_2 fl_X4_34 rfl (c.1 1 (by decide) (by decide)) ?_
  refine e_pg dX4_copyFrom_5 fl_X4_34 rfl rfl rfl rfl (fun fi5 g5 o5 => ?_)
  have c := CS_s hne c g5 o5
  refine e_aload_n dX4_copyFrom_8 rfl rfl ?_
  refine e_getR dX4_copyFrom_9 fl_X4_9 rfl sl ?_
  refine e_iconst (v := nI 0) dX4_copyFrom_12 rfl ?_
  refine e_aload_n dX4_copyFrom_13 rfl rfl ?_
  refine e_getR dX4_copyFrom_14 fl_X4_9 rfl tl ?_
  refine e_iconst (v := nI 0) dX4_copyFrom_17 rfl ?_
  refine e_aload_n dX4_copyFrom_18 rfl rfl ?_
  refine e_getE dX4_copyFrom_19 fl_X4_34 rfl (c.2.1 1 (by decide)) ?_
  rw [show fD 1 = 6 from rfl]
  refine e_copy _ _ _ dX4_copyFrom_22 ml_X4_61 na_C sc_C nz_C (by decide) (Nat.le_of_ble_eq_true rfl) ⟨by decide, by decide⟩ ⟨by decide, by decide⟩ rfl rfl rfl rfl rfl (by simp only [lenK]; omega) (by simp only [lenK]; omega) ?_
  refine e_aload_n dX4_copyFrom_25 rfl rfl ?_
  refine e_aload_n dX4_copyFrom_26 rfl rfl ?_
  refine e_getE dX4_copyFrom_27 fl_X4_28 rfl (c.1 2 (by decide) (by decide)) ?_
  refine e_pg dX4_copyFrom_30 fl_X4_28 rfl rfl rfl rfl (fun fi30 g30 o30 => ?_)
  have c := CS_s hne c g30 o30
  refine e_aload_n dX4_copyFrom_33 rfl rfl ?_
  refine e_aload_n dX4_copyFrom_34 rfl rfl ?_
  refine e_getE dX4_copyFrom_35 fl_X4_15 rfl (c.1 3 (by decide) (by decide)) ?_
  refine e_pg dX4_copyFrom_38 fl_X4_15 rfl rfl rfl rfl (fun fi38 g38 o38 => ?_)
  have c := CS_s hne c g38 o38
  refine e_aload_n dX4_copyFrom_41 rfl rfl ?_
  refine e_aload_n dX4_copyFrom_42 rfl rfl ?_
  refine e_getE dX4_copyFrom_43 fl_X4_19 rfl (c.1 4 (by decide) (by decide)) ?_
  refine e_pg dX4_copyFrom_46 fl_X4_19 rfl rfl rfl rfl (fun fi46 g46 o46 => ?_)
  have c := CS_s hne c g46 o46
  refine e_aload_n dX4_copyFrom_49 rfl rfl ?_
  refine e_aload_n dX4_copyFrom_50 rfl rfl ?_
  refine e_getE dX4_copyFrom_51 fl_X4_22 rfl (c.1 5 (by decide) (by decide)) ?_
  refine e_pg dX4_copyFrom_54 fl_X4_22 rfl rfl rfl rfl (fun fi54 g54 o54 => ?_)
  have c := CS_s hne c g54 o54
  refine e_aload_n dX4_copyFrom_57 rfl rfl ?_
  refine e_aload_n dX4_copyFrom_58 rfl rfl ?_
  refine e_getE dX4_copyFrom_59 fl_X4_25 rfl (c.1 6 (by decide) (by decide)) ?_
  refine e_pg dX4_copyFrom_62 fl_X4_25 rfl rfl rfl rfl (fun fi62 g62 o62 => ?_)
  have c := CS_s hne c g62 o62
  refine e_aload_n dX4_copyFrom_65 rfl rfl ?_
  refine e_aload_n dX4_copyFrom_66 rfl rfl ?_
  refine e_getE dX4_copyFrom_67 fl_X4_31 rfl (c.1 7 (by decide) (by decide)) ?_
  refine e_pg dX4_copyFrom_70 fl_X4_31 rfl rfl rfl rfl (fun fi70 g70 o70 => ?_)
  have c := CS_s hne c g70 o70
  refine e_aload_n dX4_copyFrom_73 rfl rfl ?_
  refine e_aload_n dX4_copyFrom_74 rfl rfl ?_
  refine e_getE dX4_copyFrom_75 fl_X4_37 rfl (c.1 8 (by decide) (by decide)) ?_
  refine e_pg dX4_copyFrom_78 fl_X4_37 rfl rfl (bz_n h7) (bz_f h7) (fun fi78 g78 o78 => ?_)
  have c := CS_s hne c g78 o78
  refine e_aload_n dX4_copyFrom_81 rfl rfl ?_
  refine e_aload_n dX4_copyFrom_82 rfl rfl ?_
  refine e_getE dX4_copyFrom_83 fl_X4_41 rfl (c.1 9 (by decide) (by decide)) ?_
  refine e_pg dX4_copyFrom_86 fl_X4_41 rfl rfl rfl rfl (fun fi86 g86 o86 => ?_)
  have c := CS_s hne c g86 o86
  refine e_aload_n dX4_copyFrom_89 rfl rfl ?_
  refine e_aload_n dX4_copyFrom_90 rfl rfl ?_
  refine e_getE dX4_copyFrom_91 fl_X4_44 rfl (c.1 10 (by decide) (by decide)) ?_
  refine e_pg dX4_copyFrom_94 fl_X4_44 rfl rfl rfl rfl (fun fi94 g94 o94 => ?_)
  have c := CS_s hne c g94 o94
  refine e_aload_n dX4_copyFrom_97 rfl rfl ?_
  refine e_aload_n dX4_copyFrom_98 rfl rfl ?_
  refine e_getE dX4_copyFrom_99 fl_X4_47 rfl (c.1 11 (by decide) (by decide)) ?_
  refine e_pg dX4_copyFrom_102 fl_X4_47 rfl rfl rfl rfl (fun fi102 g102 o102 => ?_)
  have c := CS_s hne c g102 o102
  refine e_aload_n dX4_copyFrom_105 rfl rfl ?_
  refine e_aload_n dX4_copyFrom_106 rfl rfl ?_
  refine e_getE dX4_copyFrom_107 fl_X4_50 rfl (c.1 12 (by decide) (by decide)) ?_
  refine e_pg dX4_copyFrom_110 fl_X4_50 rfl rfl rfl rfl (fun fi110 g110 o110 => ?_)
  have c := CS_s hne c g110 o110
  refine e_ret none rfl (r_void dX4_copyFrom_113 rfl) ?_
  refine mq rfl ⟨⟨fun f a b => c.2.1 f ?_, fun i hi => ?_⟩, fun f r hr => c.2.2 f r (fun e => by rw [e, rf_div (by decide)] at hr; omega), fun a ha => cp_o (fun e => by rw [e, rf_div (by decide)] at ha; omega)⟩
  · have : ∀ f, f < 13 → 1 ≤ f → f ∈ [12, 11, 10, 9, 8, 7, 6, 5, 4, 3, 2, 1] := by decide
    exact this f (by omega) a
  · rw [cp_in ⟨by omega, by have hi2 : i < v 6 := hi; omega⟩, Nat.zero_add, Nat.sub_zero]; exact h.2 i hi
/-- a world while it is copied: the stores, the weights, the map, j caches, i moves are in -/
def WP (b : Nat) (fi ai : FI) (w : Nat → Nat) (j i : Nat) : Prop :=
  (∀ i, i < 6000 → ai (rf 18 (b + 1)) i = nI (w (1106 + i))) ∧ (∀ k, k < 1000 → ai (rf 19 (b + 2)) k = nI (w (106 + k))) ∧
  TBR fi ai (b + 3) (w 1) (w 0) (fun i => w (10 + i)) (fun i => w (42 + i)) (fun i => w (74 + i)) ∧
  (∀ c, c < j → TBR fi ai (b + 9 + 4 * c) (w (7106 + 98 * c + 1)) (w (7106 + 98 * c + 0)) (fun i => w (7106 + 98 * c + 2 + i)) (fun i => w (7106 + 98 * c + 34 + i)) (fun i => w (7106 + 98 * c + 66 + i))) ∧
  (∀ m, m < i → MVR fi ai (b + 33 + 2 * m) (mrow w m))
theorem WP_g {lo hi b j i : Nat} {fi ai fi' ai' : FI} {w : Nat → Nat} (g : FRg lo hi fi ai fi' ai') (h1 : b + 6 < lo ∨ hi ≤ b + 1) (hc : ∀ c, c < j → b + 9 + 4 * c + 3 < lo ∨ hi ≤ b + 9 + 4 * c) (hm : ∀ m, m < i → b + 33 + 2 * m + 1 < lo ∨ hi ≤ b + 33 + 2 * m) (h : WP b fi ai w j i) : WP b fi' ai' w j i := by
  obtain ⟨a1, a2, a3, a4, a5⟩ := h
  refine ⟨?_, ?_, TBR_g g (by omega) a3, fun c hcc => TBR_g g (hc c hcc) (a4 c hcc), fun m hmm => MVR_g g (hm m hmm) (a5 m hmm)⟩
  · rw [g.2 _ (by rw [rf_div (by decide)]; omega)]; exact a1
  · rw [g.2 _ (by rw [rf_div (by decide)]; omega)]; exact a2
theorem FRg_p {fi fi' ai : FI} {κ n f : Nat} (o : ∀ g r, ¬ (g = f ∧ r = rf κ n) → fi' g r = fi g r) (hκ : κ < 64) : FRg n (n + 1) fi ai fi' ai :=
  ⟨fun g r hr => o g r (fun e => by rw [e.2, rf_div hκ] at hr; omega), fun _ _ => rfl⟩
theorem ct_X9_copyFrom {fi : FI} {fr : FR} {ai : FI} {ar : FR} {N : Nat} {b s : Nat} {w : Nat → Nat} (hb : WL fr ar b) (hs : WL fr ar s) (iv : Inv w) (h : KW s fi ai w) (hd : s + 57 ≤ b ∨ b + 57 ≤ s) : CP mX9_copyFrom 2 0 0 [.ref (rf 9 b), .ref (rf 9 s)] fi fr ai ar N (mQ none fr ar N (fun fi' ai' => KW b fi' ai' w ∧ FRg b (b + 57) fi ai fi' ai')) := by
  have h1 := iv_n iv
  have h3 := iv_mm iv
  change EV mX9_copyFrom 2 0 0 0 [some (.ref (rf 9 b)), some (.ref (rf 9 s)), none] [] fi fr ai ar N (mQ none fr ar N (fun fi' ai' => KW b fi' ai' w ∧ FRg b (b + 57) fi ai fi' ai'))
  have key2 := ev_up (P := fun i => ∀ fi2 ai2, KW s fi2 ai2 w → WP b fi2 ai2 w 6 i → fi2 (32 * 9 + 5) (rf 9 b) = nI (w 3) → FRg b (b + 57) fi ai fi2 ai2 → EV mX9_copyFrom 2 0 0 84 [some (.ref (rf 9 b)), some (.ref (rf 9 s)), some (.int (nI i))] [] fi2 fr ai2 ar N (mQ none fr ar N (fun fi' ai' => KW b fi' ai' w ∧ FRg b (b + 57) fi ai fi' ai'))) (w 3) (fun j hj ih fi2 ai2 hK hW hmc hG => by
    have hq := iv_mv iv hj
    refine e_iload_n dX9_copyFrom_84 rfl rfl ?_
    refine e_aload_n dX9_copyFrom_85 rfl rfl ?_
    refine e_getE dX9_copyFrom_86 fl_X9_63 rfl hmc ?_
    first | ((with_reducible refine mk_nn ?_); refine n_icmp_ge (tgt := 113) dX9_copyFrom_89 (by decide) (by omega) (by omega) (fun h89 => ?_) (fun h89 => ?_)) | refine e_icmp_ge (tgt := 113) dX9_copyFrom_89 (by decide) (fun h89 => ?_) (fun h89 => ?_)
    · try first | contradiction | omega
      all_goals
        omega
    · try first | contradiction | omega
      all_goals
        refine e_aload_n dX9_copyFrom_92 rfl rfl ?_
        refine e_getR dX9_copyFrom_93 fl_X9_31 rfl hb.2.2.2.2.1 ?_
        refine e_iload_n dX9_copyFrom_96 rfl rfl ?_
        refine e_aald _ dX9_copyFrom_97 ⟨by decide, by decide⟩ rfl rfl (by simp only [lenK]; omega) (hb.2.2.2.2.2.2.2 _ (by omega)).1 ?_
        refine e_aload_n dX9_copyFrom_98 rfl rfl ?_
        refine e_getR dX9_copyFrom_99 fl_X9_31 rfl hs.2.2.2.2.1 ?_
        refine e_iload_n dX9_copyFrom_102 rfl rfl ?_
        refine e_aald _ dX9_copyFrom_103 ⟨by decide, by decide⟩ rfl rfl (by simp only [lenK]; omega) (hs.2.2.2.2.2.2.2 _ (by omega)).1 ?_
        refine my_V1 (M' := mX4_copyFrom) dX9_copyFrom_104 ml_X9_66 ok_X4_copyFrom (by decide) rfl im_X4_copyFrom se_X4_copyFrom (ct_X4_copyFrom (hb.2.2.2.2.2.2.2 j (by omega)).2 (hs.2.2.2.2.2.2.2 j (by omega)).2 (hK.2.2.2.2.1 j hj) hq.2.2.2.2.2.2.2.1 hq.2.2.2.2.2.2.2.2.1 (by omega)) (Nat.le_of_ble_eq_true rfl) (by decide) (Nat.le_of_ble_eq_true rfl) (fun fi3 ai3 hP => ?_)
        first | refine n_inc dX9_copyFrom_107 rfl (Nat.le_of_ble_eq_true rfl) rfl ?_ | refine e_iinc dX9_copyFrom_107 rfl rfl (Nat.le_of_ble_eq_true rfl) rfl ?_
        refine e_goto (tgt := 84) dX9_copyFrom_110 (by decide) ?_
        refine ih _ _ (KW_g h3 hP.2 (by omega) hK) ?_ ?_ (FRg_tr hG hP.2 (by omega) (by omega))
        · obtain ⟨a1, a2, a3, a4, a5⟩ := WP_g hP.2 (by omega) (fun c hc => by omega) (fun m hm => by omega) hW
          refine ⟨a1, a2, a3, a4, fun m hm => ?_⟩
          by_cases e : m = j
          · rw [e]; exact hP.1
          · exact a5 m (by omega)
        · rw [hP.2.1 _ _ (by rw [rf_div (by decide)]; omega)]; exact hmc
    ) (fun fi2 ai2 hK hW hmc hG => by
    refine e_iload_n dX9_copyFrom_84 rfl rfl ?_
    refine e_aload_n dX9_copyFrom_85 rfl rfl ?_
    refine e_getE dX9_copyFrom_86 fl_X9_63 rfl hmc ?_
    first | ((with_reducible refine mk_nn ?_); refine n_icmp_ge (tgt := 113) dX9_copyFrom_89 (by decide) (by omega) (by omega) (fun h89 => ?_) (fun h89 => ?_)) | refine e_icmp_ge (tgt := 113) dX9_copyFrom_89 (by decide) (fun h89 => ?_) (fun h89 => ?_)
    · try first | contradiction | omega
      all_goals
        refine e_aload_n dX9_copyFrom_113 rfl rfl ?_
        refine e_aload_n dX9_copyFrom_114 rfl rfl ?_
        refine e_getE dX9_copyFrom_115 fl_X9_47 rfl hK.2.2.2.2.2.2.1 ?_
        refine e_pg dX9_copyFrom_118 fl_X9_47 rfl rfl rfl rfl (fun fi118 g118 o118 => ?_)
        refine e_aload_n dX9_copyFrom_121 rfl rfl ?_
        refine e_aload_n dX9_copyFrom_122 rfl rfl ?_
        refine e_getE dX9_copyFrom_123 fl_X9_50 rfl ((o118 _ _ (by omega)).trans hK.2.2.2.2.2.2.2) ?_
        refine e_pg dX9_copyFrom_126 fl_X9_50 rfl rfl rfl rfl (fun fi126 g126 o126 => ?_)
        refine e_ret none rfl (r_void dX9_copyFrom_129 rfl) ?_
        have g1 := FRg_p (ai := ai2) o118 (by decide)
        have g2 := FRg_p (ai := ai2) o126 (by decide)
        have hG2 := FRg_tr (FRg_tr hG g1 (L := b) (H := b + 57) (by omega) (by omega)) g2 (L := b) (H := b + 57) (by omega) (by omega)
        obtain ⟨a1, a2, a3, a4, a5⟩ := WP_g g2 (by omega) (fun c hc => by omega) (fun m hm => by omega) (WP_g g1 (by omega) (fun c hc => by omega) (fun m hm => by omega) hW)
        refine mq rfl ⟨⟨a1, a2, a3, a4, a5, ?_, ?_, g126⟩, hG2⟩
        · rw [o126 _ _ (by omega), o118 _ _ (by omega)]; exact hmc
        · rw [o126 _ _ (by omega)]; exact g118
    · try first | contradiction | omega
      all_goals
        omega
    )
  have key1 := ev_up (P := fun j => ∀ fi2 ai2, KW s fi2 ai2 w → WP b fi2 ai2 w j 0 → FRg b (b + 57) fi ai fi2 ai2 → EV mX9_copyFrom 2 0 0 47 [some (.ref (rf 9 b)), some (.ref (rf 9 s)), some (.int (nI j))] [] fi2 fr ai2 ar N (mQ none fr ar N (fun fi' ai' => KW b fi' ai' w ∧ FRg b (b + 57) fi ai fi' ai'))) 6 (fun j hj ih fi2 ai2 hK hW hG => by
    refine e_iload_n dX9_copyFrom_47 rfl rfl ?_
    refine e_bipush (v := nI 6) dX9_copyFrom_48 rfl ?_
    first | ((with_reducible refine mk_nn ?_); refine n_icmp_ge (tgt := 74) dX9_copyFrom_50 (by decide) (by omega) (by omega) (fun h50 => ?_) (fun h50 => ?_)) | refine e_icmp_ge (tgt := 74) dX9_copyFrom_50 (by decide) (fun h50 => ?_) (fun h50 => ?_)
    · try first | contradiction | omega
      all_goals
        omega
    · try first | contradiction | omega
      all_goals
        refine e_aload_n dX9_copyFrom_53 rfl rfl ?_
        refine e_getR dX9_copyFrom_54 fl_X9_25 rfl hb.2.2.2.1 ?_
        refine e_iload_n dX9_copyFrom_57 rfl rfl ?_
        refine e_aald _ dX9_copyFrom_58 ⟨by decide, by decide⟩ rfl rfl (by simp only [lenK]; omega) (hb.2.2.2.2.2.2.1 _ hj).1 ?_
        refine e_aload_n dX9_copyFrom_59 rfl rfl ?_
        refine e_getR dX9_copyFrom_60 fl_X9_25 rfl hs.2.2.2.1 ?_
        refine e_iload_n dX9_copyFrom_63 rfl rfl ?_
        refine e_aald _ dX9_copyFrom_64 ⟨by decide, by decide⟩ rfl rfl (by simp only [lenK]; omega) (hs.2.2.2.2.2.2.1 _ hj).1 ?_
        refine my_V1 (M' := mX8_copyFrom) dX9_copyFrom_65 ml_X9_59 ok_X8_copyFrom (by decide) rfl im_X8_copyFrom se_X8_copyFrom (ct_X8_copyFrom (hb.2.2.2.2.2.2.1 j hj).2 (hs.2.2.2.2.2.2.1 j hj).2 (hK.2.2.2.1 j hj) (iv_cl iv hj).1 (by omega)) (Nat.le_of_ble_eq_true rfl) (by decide) (Nat.le_of_ble_eq_true rfl) (fun fi3 ai3 hP => ?_)
        first | refine n_inc dX9_copyFrom_68 rfl (Nat.le_of_ble_eq_true rfl) rfl ?_ | refine e_iinc dX9_copyFrom_68 rfl rfl (Nat.le_of_ble_eq_true rfl) rfl ?_
        refine e_goto (tgt := 47) dX9_copyFrom_71 (by decide) ?_
        refine ih _ _ (KW_g h3 hP.2 (by omega) hK) ?_ (FRg_tr hG hP.2 (by omega) (by omega))
        obtain ⟨a1, a2, a3, a4, a5⟩ := WP_g hP.2 (by omega) (fun c hc => by omega) (fun m hm => by omega) hW
        refine ⟨a1, a2, a3, fun c hc => ?_, a5⟩
        by_cases e : c = j
        · rw [e]; exact hP.1
        · exact a4 c (by omega)
    ) (fun fi2 ai2 hK hW hG => by
    refine e_iload_n dX9_copyFrom_47 rfl rfl ?_
    refine e_bipush (v := nI 6) dX9_copyFrom_48 rfl ?_
    first | ((with_reducible refine mk_nn ?_); refine n_icmp_ge (tgt := 74) dX9_copyFrom_50 (by decide) (by omega) (by omega) (fun h50 => ?_) (fun h50 => ?_)) | refine e_icmp_ge (tgt := 74) dX9_copyFrom_50 (by decide) (fun h50 => ?_) (fun h50 => ?_)
    · try first | contradiction | omega
      all_goals
        refine e_aload_n dX9_copyFrom_74 rfl rfl ?_
        refine e_aload_n dX9_copyFrom_75 rfl rfl ?_
        refine e_getE dX9_copyFrom_76 fl_X9_63 rfl hK.2.2.2.2.2.1 ?_
        refine e_pg dX9_copyFrom_79 fl_X9_63 rfl rfl rfl rfl (fun fi79 g79 o79 => ?_)
        refine e_iconst (v := nI 0) dX9_copyFrom_82 rfl ?_
        refine e_istore_n dX9_copyFrom_83 rfl (Nat.le_of_ble_eq_true rfl) rfl ?_
        exact key2 0 (by omega) _ _ (KW_g h3 (FRg_p o79 (by decide)) (by omega) hK) (WP_g (FRg_p o79 (by decide)) (by omega) (fun c hc => by omega) (fun m hm => by omega) hW) g79 (FRg_tr hG (FRg_p o79 (by decide)) (by omega) (by omega))
    · try first | contradiction | omega
      all_goals
        omega
    )
  refine e_aload_n dX9_copyFrom_0 rfl rfl ?_
  refine e_getR dX9_copyFrom_1 fl_X9_9 rfl hs.1 ?_
  refine e_iconst (v := nI 0) dX9_copyFrom_4 rfl ?_
  refine e_aload_n dX9_copyFrom_5 rfl rfl ?_
  refine e_getR dX9_copyFrom_6 fl_X9_9 rfl hb.1 ?_
  refine e_iconst (v := nI 0) dX9_copyFrom_9 rfl ?_
  refine e_aload_n dX9_copyFrom_10 rfl rfl ?_
  refine e_getR dX9_copyFrom_11 fl_X9_9 rfl hb.1 ?_
  refine e_alen dX9_copyFrom_14 ⟨by decide, by decide⟩ rfl ?_
  refine e_copy _ _ _ dX9_copyFrom_15 ml_X9_53 na_C sc_C nz_C (by decide) (Nat.le_of_ble_eq_true rfl) ⟨by decide, by decide⟩ ⟨by decide, by decide⟩ rfl rfl rfl rfl rfl (by simp only [lenK]; omega) (by simp only [lenK]; omega) ?_
  refine e_aload_n dX9_copyFrom_18 rfl rfl ?_
  refine e_getR dX9_copyFrom_19 fl_X9_15 rfl hs.2.1 ?_
  refine e_iconst (v := nI 0) dX9_copyFrom_22 rfl ?_
  refine e_aload_n dX9_copyFrom_23 rfl rfl ?_
  refine e_getR dX9_copyFrom_24 fl_X9_15 rfl hb.2.1 ?_
  refine e_iconst (v := nI 0) dX9_copyFrom_27 rfl ?_
  refine e_sipush (v := nI 1000) dX9_copyFrom_28 rfl ?_
  refine e_copy _ _ _ dX9_copyFrom_31 ml_X9_53 na_C sc_C nz_C (by decide) (Nat.le_of_ble_eq_true rfl) ⟨by decide, by decide⟩ ⟨by decide, by decide⟩ rfl rfl rfl rfl rfl (by simp only [lenK]; omega) (by simp only [lenK]; omega) ?_
  rw [show lenK 18 = 6000 from rfl]
  have v1 : ∀ i, i < 6000 → cp2 (cp2 ai (rf 18 (s + 1)) (rf 18 (b + 1)) 0 0 6000) (rf 19 (s + 2)) (rf 19 (b + 2)) 0 0 1000 (rf 18 (b + 1)) i = nI (w (1106 + i)) := fun i hi => by rw [cp_o (rf_ne (by decide) (by decide) (by omega)), cp_in ⟨by omega, by omega⟩, Nat.zero_add, Nat.sub_zero]; exact h.1 i hi
  have v2 : ∀ i, i < 1000 → cp2 (cp2 ai (rf 18 (s + 1)) (rf 18 (b + 1)) 0 0 6000) (rf 19 (s + 2)) (rf 19 (b + 2)) 0 0 1000 (rf 19 (b + 2)) i = nI (w (106 + i)) := fun i hi => by rw [cp_in ⟨by omega, by omega⟩, Nat.zero_add, Nat.sub_zero, cp_o (rf_ne (by decide) (by decide) (by omega))]; exact h.2.1 i hi
  have hG : FRg b (b + 57) fi ai fi (cp2 (cp2 ai (rf 18 (s + 1)) (rf 18 (b + 1)) 0 0 6000) (rf 19 (s + 2)) (rf 19 (b + 2)) 0 0 1000) := ⟨fun _ _ _ => rfl, fun a ha => by rw [cp_o (fun e => by rw [e, rf_div (by decide)] at ha; omega), cp_o (fun e => by rw [e, rf_div (by decide)] at ha; omega)]⟩
  generalize cp2 (cp2 ai (rf 18 (s + 1)) (rf 18 (b + 1)) 0 0 6000) (rf 19 (s + 2)) (rf 19 (b + 2)) 0 0 1000 = ac at *
  have hK := KW_g h3 hG (by omega) h
  refine e_aload_n dX9_copyFrom_34 rfl rfl ?_
  refine e_getR dX9_copyFrom_35 fl_X9_21 rfl hb.2.2.1 ?_
  refine e_aload_n dX9_copyFrom_38 rfl rfl ?_
  refine e_getR dX9_copyFrom_39 fl_X9_21 rfl hs.2.2.1 ?_
  refine my_V1 (M' := mX8_copyFrom) dX9_copyFrom_42 ml_X9_59 ok_X8_copyFrom (by decide) rfl im_X8_copyFrom se_X8_copyFrom (ct_X8_copyFrom hb.2.2.2.2.2.1 hs.2.2.2.2.2.1 hK.2.2.1 h1.2 (by omega)) (Nat.le_of_ble_eq_true rfl) (by decide) (Nat.le_of_ble_eq_true rfl) (fun fi3 ai3 hP => ?_)
  refine e_iconst (v := nI 0) dX9_copyFrom_45 rfl ?_
  refine e_istore_n dX9_copyFrom_46 rfl (Nat.le_of_ble_eq_true rfl) rfl ?_
  refine key1 0 (by omega) _ _ (KW_g h3 hP.2 (by omega) hK) ⟨?_, ?_, hP.1, fun c hc => absurd hc (by omega), fun c hc => absurd hc (by omega)⟩ (FRg_tr hG hP.2 (by omega) (by omega))
  · rw [hP.2.2 _ (by rw [rf_div (by decide)]; omega)]; exact v1
  · rw [hP.2.2 _ (by rw [rf_div (by decide)]; omega)]; exact v2
theorem ct_X3_copyFrom {fi : FI} {fr : FR} {ai : FI} {ar : FR} {N : Nat} {b s E : Nat} {w lg : Nat → Nat} (hb : LL fr b) (hs : LL fr s) (h : LGR s ai w lg E) (hE : E < 2000) (hd : s + 7 ≤ b ∨ b + 7 ≤ s) : CP mX3_copyFrom 1 0 0 [.ref (rf 3 b), .ref (rf 3 s), .int (nI E)] fi fr ai ar N (mQ none fr ar N (fun fi' ai' => fi' = fi ∧ LGR b ai' w lg E ∧ FRg b (b + 7) fi ai fi' ai')) := by
  obtain ⟨b0, b1, b2, b3, b4, b5⟩ := hb
  obtain ⟨s0, s1, s2, s3, s4, s5⟩ := hs
  change EV mX3_copyFrom 1 0 0 0 [some (.ref (rf 3 b)), some (.ref (rf 3 s)), some (.int (nI E))] [] fi fr ai ar N (mQ none fr ar N (fun fi' ai' => fi' = fi ∧ LGR b ai' w lg E ∧ FRg b (b + 7) fi ai fi' ai'))
  refine e_aload_n dX3_copyFrom_0 rfl rfl ?_
  refine e_getR dX3_copyFrom_1 fl_X3_9 rfl s0 ?_
  refine e_iconst (v := nI 0) dX3_copyFrom_4 rfl ?_
  refine e_aload_n dX3_copyFrom_5 rfl rfl ?_
  refine e_getR dX3_copyFrom_6 fl_X3_9 rfl b0 ?_
  refine e_iconst (v := nI 0) dX3_copyFrom_9 rfl ?_
  refine e_bipush (v := nI 15) dX3_copyFrom_10 rfl ?_
  refine e_copy _ _ _ dX3_copyFrom_12 ml_X3_30 na_C sc_C nz_C (by decide) (Nat.le_of_ble_eq_true rfl) ⟨by decide, by decide⟩ ⟨by decide, by decide⟩ rfl rfl rfl rfl rfl (by simp only [lenK]; omega) (by simp only [lenK]; omega) ?_
  refine e_aload_n dX3_copyFrom_15 rfl rfl ?_
  refine e_getR dX3_copyFrom_16 fl_X3_15 rfl s1 ?_
  refine e_iconst (v := nI 0) dX3_copyFrom_19 rfl ?_
  refine e_aload_n dX3_copyFrom_20 rfl rfl ?_
  refine e_getR dX3_copyFrom_21 fl_X3_15 rfl b1 ?_
  refine e_iconst (v := nI 0) dX3_copyFrom_24 rfl ?_
  refine e_bipush (v := nI 6) dX3_copyFrom_25 rfl ?_
  refine e_copy _ _ _ dX3_copyFrom_27 ml_X3_30 na_C sc_C nz_C (by decide) (Nat.le_of_ble_eq_true rfl) ⟨by decide, by decide⟩ ⟨by decide, by decide⟩ rfl rfl rfl rfl rfl (by simp only [lenK]; omega) (by simp only [lenK]; omega) ?_
  refine e_aload_n dX3_copyFrom_30 rfl rfl ?_
  refine e_getR dX3_copyFrom_31 fl_X3_18 rfl s2 ?_
  refine e_iconst (v := nI 0) dX3_copyFrom_34 rfl ?_
  refine e_aload_n dX3_copyFrom_35 rfl rfl ?_
  refine e_getR dX3_copyFrom_36 fl_X3_18 rfl b2 ?_
  refine e_iconst (v := nI 0) dX3_copyFrom_39 rfl ?_
  refine e_bipush (v := nI 6) dX3_copyFrom_40 rfl ?_
  refine e_copy _ _ _ dX3_copyFrom_42 ml_X3_30 na_C sc_C nz_C (by decide) (Nat.le_of_ble_eq_true rfl) ⟨by decide, by decide⟩ ⟨by decide, by decide⟩ rfl rfl rfl rfl rfl (by simp only [lenK]; omega) (by simp only [lenK]; omega) ?_
  refine e_aload_n dX3_copyFrom_45 rfl rfl ?_
  refine e_getR dX3_copyFrom_46 fl_X3_21 rfl s3 ?_
  refine e_iconst (v := nI 0) dX3_copyFrom_49 rfl ?_
  refine e_aload_n dX3_copyFrom_50 rfl rfl ?_
  refine e_getR dX3_copyFrom_51 fl_X3_21 rfl b3 ?_
  refine e_iconst (v := nI 0) dX3_copyFrom_54 rfl ?_
  refine e_bipush (v := nI 6) dX3_copyFrom_55 rfl ?_
  refine e_copy _ _ _ dX3_copyFrom_57 ml_X3_30 na_C sc_C nz_C (by decide) (Nat.le_of_ble_eq_true rfl) ⟨by decide, by decide⟩ ⟨by decide, by decide⟩ rfl rfl rfl rfl rfl (by simp only [lenK]; omega) (by simp only [lenK]; omega) ?_
  refine e_aload_n dX3_copyFrom_60 rfl rfl ?_
  refine e_getR dX3_copyFrom_61 fl_X3_24 rfl s4 ?_
  refine e_iconst (v := nI 0) dX3_copyFrom_64 rfl ?_
  refine e_aload_n dX3_copyFrom_65 rfl rfl ?_
  refine e_getR dX3_copyFrom_66 fl_X3_24 rfl b4 ?_
  refine e_iconst (v := nI 0) dX3_copyFrom_69 rfl ?_
  refine e_bipush (v := nI 6) dX3_copyFrom_70 rfl ?_
  refine e_copy _ _ _ dX3_copyFrom_72 ml_X3_30 na_C sc_C nz_C (by decide) (Nat.le_of_ble_eq_true rfl) ⟨by decide, by decide⟩ ⟨by decide, by decide⟩ rfl rfl rfl rfl rfl (by simp only [lenK]; omega) (by simp only [lenK]; omega) ?_
  refine e_aload_n dX3_copyFrom_75 rfl rfl ?_
  refine e_getR dX3_copyFrom_76 fl_X3_27 rfl s5 ?_
  refine e_iconst (v := nI 0) dX3_copyFrom_79 rfl ?_
  refine e_aload_n dX3_copyFrom_80 rfl rfl ?_
  refine e_getR dX3_copyFrom_81 fl_X3_27 rfl b5 ?_
  refine e_iconst (v := nI 0) dX3_copyFrom_84 rfl ?_
  refine e_iload_n dX3_copyFrom_85 rfl rfl ?_
  refine e_iconst (v := nI 1) dX3_copyFrom_86 rfl ?_
  first | ((with_reducible refine mk_nn ?_); refine n_iadd dX3_copyFrom_87 ?_) | refine e_iadd dX3_copyFrom_87 ?_
  refine e_sipush (v := nI 2048) dX3_copyFrom_88 rfl ?_
  refine e_mmin dX3_copyFrom_91 ml_X3_36 sc_Mmin nz_M cd_Mmin (by decide) (Nat.le_of_ble_eq_true rfl) ?_
  rw [nI_min (by omega) (by omega), if_neg (by omega)]
  refine e_copy _ _ _ dX3_copyFrom_94 ml_X3_30 na_C sc_C nz_C (by decide) (Nat.le_of_ble_eq_true rfl) ⟨by decide, by decide⟩ ⟨by decide, by decide⟩ rfl rfl rfl rfl rfl (by simp only [lenK]; omega) (by simp only [lenK]; omega) ?_
  refine e_ret none rfl (r_void dX3_copyFrom_97 rfl) ?_
  refine mq rfl ⟨rfl, ⟨fun j hj => ?_, fun c hc => ⟨?_, ?_, ?_, ?_⟩, fun e a c => ?_⟩, fun _ _ _ => rfl, fun a ha => ?_⟩
  · rw [cp_o (rf_ne (by decide) (by decide) (by omega)), cp_o (rf_ne (by decide) (by decide) (by omega)), cp_o (rf_ne (by decide) (by decide) (by omega)), cp_o (rf_ne (by decide) (by decide) (by omega)), cp_o (rf_ne (by decide) (by decide) (by omega)), cp_in ⟨by omega, by omega⟩, Nat.zero_add, Nat.sub_zero]; exact h.1 j hj
  · rw [cp_o (rf_ne (by decide) (by decide) (by omega)), cp_o (rf_ne (by decide) (by decide) (by omega)), cp_o (rf_ne (by decide) (by decide) (by omega)), cp_o (rf_ne (by decide) (by decide) (by omega)), cp_in ⟨by omega, by omega⟩, Nat.zero_add, Nat.sub_zero, cp_o (rf_ne (by decide) (by decide) (by omega))]; exact (h.2.1 c hc).1
  · rw [cp_o (rf_ne (by decide) (by decide) (by omega)), cp_o (rf_ne (by decide) (by decide) (by omega)), cp_o (rf_ne (by decide) (by decide) (by omega)), cp_in ⟨by omega, by omega⟩, Nat.zero_add, Nat.sub_zero, cp_o (rf_ne (by decide) (by decide) (by omega)), cp_o (rf_ne (by decide) (by decide) (by omega))]; exact (h.2.1 c hc).2.1
  · rw [cp_o (rf_ne (by decide) (by decide) (by omega)), cp_o (rf_ne (by decide) (by decide) (by omega)), cp_in ⟨by omega, by omega⟩, Nat.zero_add, Nat.sub_zero, cp_o (rf_ne (by decide) (by decide) (by omega)), cp_o (rf_ne (by decide) (by decide) (by omega)), cp_o (rf_ne (by decide) (by decide) (by omega))]; exact (h.2.1 c hc).2.2.1
  · rw [cp_o (rf_ne (by decide) (by decide) (by omega)), cp_in ⟨by omega, by omega⟩, Nat.zero_add, Nat.sub_zero, cp_o (rf_ne (by decide) (by decide) (by omega)), cp_o (rf_ne (by decide) (by decide) (by omega)), cp_o (rf_ne (by decide) (by decide) (by omega)), cp_o (rf_ne (by decide) (by decide) (by omega))]; exact (h.2.1 c hc).2.2.2
  · rw [cp_in ⟨by omega, by omega⟩, Nat.zero_add, Nat.sub_zero, cp_o (rf_ne (by decide) (by decide) (by omega)), cp_o (rf_ne (by decide) (by decide) (by omega)), cp_o (rf_ne (by decide) (by decide) (by omega)), cp_o (rf_ne (by decide) (by decide) (by omega)), cp_o (rf_ne (by decide) (by decide) (by omega))]; exact h.2.2 e a c
  · rw [cp_o (fun e => by rw [e, rf_div (by decide)] at ha; omega), cp_o (fun e => by rw [e, rf_div (by decide)] at ha; omega), cp_o (fun e => by rw [e, rf_div (by decide)] at ha; omega), cp_o (fun e => by rw [e, rf_div (by decide)] at ha; omega), cp_o (fun e => by rw [e, rf_div (by decide)] at ha; omega), cp_o (fun e => by rw [e, rf_div (by decide)] at ha; omega)]
