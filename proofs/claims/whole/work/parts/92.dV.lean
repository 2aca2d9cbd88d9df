theorem drop_c {L : List Nat} {i c : Nat} {l : List Nat} (h : L.drop i = c :: l) : i < L.length ∧ L.getD i 0 = c ∧ L.drop (i + 1) = l := by
  by_cases h1 : i < L.length
  · rw [List.drop_eq_getElem_cons h1] at h
    injection h with h2 h3
    refine ⟨h1, ?_, h3⟩
    rw [List.getD_eq_getElem?_getD, List.getElem?_eq_getElem h1]
    exact h2
  · rw [List.drop_eq_nil_of_le (by omega)] at h
    cases h
/-- the class's search for a word in its text of words -/
def voS (tp : Nat → Nat) (f0 t0 : Nat) : List Nat → Nat → Nat → Bool → Option Nat
  | [], _, _, _ => none
  | c :: r, v, m, s => if c = 32 then (if s = true ∧ m = t0 then some v else voS tp f0 t0 r (v + 1) f0 (decide (f0 < t0))) else if m < t0 ∧ tp m = c then voS tp f0 t0 r v (m + 1) s else voS tp f0 t0 r v m false
def mtc (tp : Nat → Nat) : Nat → List Nat → Bool
  | _, [] => true
  | m, c :: r => decide (tp m = c) && mtc tp (m + 1) r
theorem vo_f (tp : Nat → Nat) (f0 t0 v : Nat) (rest : List Nat) : ∀ (ws : List Nat) (m : Nat), (∀ c ∈ ws, c ≠ 32) → voS tp f0 t0 (ws ++ 32 :: rest) v m false = voS tp f0 t0 rest (v + 1) f0 (decide (f0 < t0))
  | [], m, _ => by
    show (if (32 : Nat) = 32 then (if false = true ∧ m = t0 then some v else _) else _) = _
    rw [if_pos rfl, if_neg (fun q => Bool.noConfusion q.1)]
  | c :: ws, m, h => by
    show (if c = 32 then _ else if m < t0 ∧ tp m = c then voS tp f0 t0 (ws ++ 32 :: rest) v (m + 1) false else voS tp f0 t0 (ws ++ 32 :: rest) v m false) = _
    rw [if_neg (h c List.mem_cons_self), vo_f tp f0 t0 v rest ws (m + 1) (fun x hx => h x (List.mem_cons_of_mem _ hx)), vo_f tp f0 t0 v rest ws m (fun x hx => h x (List.mem_cons_of_mem _ hx))]
    split <;> rfl
theorem vo_t (tp : Nat → Nat) (f0 t0 v : Nat) (rest : List Nat) : ∀ (ws : List Nat) (m : Nat), (∀ c ∈ ws, c ≠ 32) → voS tp f0 t0 (ws ++ 32 :: rest) v m true = if (decide (t0 = m + ws.length) && mtc tp m ws) = true then some v else voS tp f0 t0 rest (v + 1) f0 (decide (f0 < t0))
  | [], m, _ => by
    show (if (32 : Nat) = 32 then (if true = true ∧ m = t0 then some v else _) else _) = _
    rw [if_pos rfl]
    by_cases h : m = t0
    · rw [if_pos ⟨rfl, h⟩, if_pos (by simp [mtc, h])]
    · rw [if_neg (fun q => h q.2), if_neg (by simp [mtc]; omega)]
  | c :: ws, m, h => by
    show (if c = 32 then _ else if m < t0 ∧ tp m = c then voS tp f0 t0 (ws ++ 32 :: rest) v (m + 1) true else voS tp f0 t0 (ws ++ 32 :: rest) v m false) = _
    rw [if_neg (h c List.mem_cons_self), vo_t tp f0 t0 v rest ws (m + 1) (fun x hx => h x (List.mem_cons_of_mem _ hx)), vo_f tp f0 t0 v rest ws m (fun x hx => h x (List.mem_cons_of_mem _ hx))]
    by_cases h1 : m < t0 ∧ tp m = c
    · rw [if_pos h1]
      have e : (decide (t0 = m + (c :: ws).length) && mtc tp m (c :: ws)) = (decide (t0 = m + 1 + ws.length) && mtc tp (m + 1) ws) := by
        show (decide (t0 = m + (ws.length + 1)) && (decide (tp m = c) && mtc tp (m + 1) ws)) = _
        rw [decide_eq_true h1.2, Bool.true_and, show m + (ws.length + 1) = m + 1 + ws.length by omega]
      rw [e]
    · rw [if_neg h1]
      have e : (decide (t0 = m + (c :: ws).length) && mtc tp m (c :: ws)) = false := by
        show (decide (t0 = m + (ws.length + 1)) && (decide (tp m = c) && mtc tp (m + 1) ws)) = _
        by_cases h2 : t0 = m + (ws.length + 1)
        · rw [decide_eq_false (fun q => h1 ⟨by omega, q⟩), Bool.false_and, Bool.and_false]
        · rw [decide_eq_false h2, Bool.false_and]
      rw [e]
      rfl
theorem vo_w (tp : Nat → Nat) (f0 t0 v : Nat) (rest : List Nat) (ws : List Nat) (h : ∀ c ∈ ws, c ≠ 32) (h0 : 0 < ws.length) : voS tp f0 t0 (ws ++ 32 :: rest) v f0 (decide (f0 < t0)) = if (decide (t0 = f0 + ws.length) && mtc tp f0 ws) = true then some v else voS tp f0 t0 rest (v + 1) f0 (decide (f0 < t0)) := by
  by_cases hf : f0 < t0
  · rw [decide_eq_true hf, vo_t tp f0 t0 v rest ws f0 h, decide_eq_true hf]
  · rw [decide_eq_false hf, vo_f tp f0 t0 v rest ws f0 h, decide_eq_false hf, if_neg]
    rw [decide_eq_false (show ¬ t0 = f0 + ws.length by omega), Bool.false_and]
    exact Bool.noConfusion
theorem sp_0 (tp : Nat → Nat) (t0 f0 : Nat) : (decide (t0 = f0 + [102, 101, 116, 99, 104].length) && mtc tp f0 [102, 101, 116, 99, 104]) = spB tp t0 f0 5 102 101 116 99 104 0 0 := by
  simp [spB, mtc, Bool.and_assoc, Nat.add_assoc]
theorem sp_1 (tp : Nat → Nat) (t0 f0 : Nat) : (decide (t0 = f0 + [114, 101, 97, 100].length) && mtc tp f0 [114, 101, 97, 100]) = spB tp t0 f0 4 114 101 97 100 0 0 0 := by
  simp [spB, mtc, Bool.and_assoc, Nat.add_assoc]
theorem sp_2 (tp : Nat → Nat) (t0 f0 : Nat) : (decide (t0 = f0 + [119, 114, 105, 116, 101].length) && mtc tp f0 [119, 114, 105, 116, 101]) = spB tp t0 f0 5 119 114 105 116 101 0 0 := by
  simp [spB, mtc, Bool.and_assoc, Nat.add_assoc]
theorem sp_3 (tp : Nat → Nat) (t0 f0 : Nat) : (decide (t0 = f0 + [115, 112, 108, 105, 116].length) && mtc tp f0 [115, 112, 108, 105, 116]) = spB tp t0 f0 5 115 112 108 105 116 0 0 := by
  simp [spB, mtc, Bool.and_assoc, Nat.add_assoc]
theorem sp_4 (tp : Nat → Nat) (t0 f0 : Nat) : (decide (t0 = f0 + [109, 105, 100, 100, 108, 101].length) && mtc tp f0 [109, 105, 100, 100, 108, 101]) = spB tp t0 f0 6 109 105 100 100 108 101 0 := by
  simp [spB, mtc, Bool.and_assoc, Nat.add_assoc]
theorem sp_5 (tp : Nat → Nat) (t0 f0 : Nat) : (decide (t0 = f0 + [106, 111, 105, 110].length) && mtc tp f0 [106, 111, 105, 110]) = spB tp t0 f0 4 106 111 105 110 0 0 0 := by
  simp [spB, mtc, Bool.and_assoc, Nat.add_assoc]
theorem sp_6 (tp : Nat → Nat) (t0 f0 : Nat) : (decide (t0 = f0 + [109, 111, 118, 101].length) && mtc tp f0 [109, 111, 118, 101]) = spB tp t0 f0 4 109 111 118 101 0 0 0 := by
  simp [spB, mtc, Bool.and_assoc, Nat.add_assoc]
theorem sp_7 (tp : Nat → Nat) (t0 f0 : Nat) : (decide (t0 = f0 + [115, 116, 101, 112].length) && mtc tp f0 [115, 116, 101, 112]) = spB tp t0 f0 4 115 116 101 112 0 0 0 := by
  simp [spB, mtc, Bool.and_assoc, Nat.add_assoc]
theorem sp_8 (tp : Nat → Nat) (t0 f0 : Nat) : (decide (t0 = f0 + [102, 97, 105, 108].length) && mtc tp f0 [102, 97, 105, 108]) = spB tp t0 f0 4 102 97 105 108 0 0 0 := by
  simp [spB, mtc, Bool.and_assoc, Nat.add_assoc]
theorem sp_9 (tp : Nat → Nat) (t0 f0 : Nat) : (decide (t0 = f0 + [100, 111, 119, 110].length) && mtc tp f0 [100, 111, 119, 110]) = spB tp t0 f0 4 100 111 119 110 0 0 0 := by
  simp [spB, mtc, Bool.and_assoc, Nat.add_assoc]
theorem sp_10 (tp : Nat → Nat) (t0 f0 : Nat) : (decide (t0 = f0 + [117, 112].length) && mtc tp f0 [117, 112]) = spB tp t0 f0 2 117 112 0 0 0 0 0 := by
  simp [spB, mtc, Bool.and_assoc, Nat.add_assoc]
theorem sp_11 (tp : Nat → Nat) (t0 f0 : Nat) : (decide (t0 = f0 + [114, 101, 99, 111, 118, 101, 114].length) && mtc tp f0 [114, 101, 99, 111, 118, 101, 114]) = spB tp t0 f0 7 114 101 99 111 118 101 114 := by
  simp [spB, mtc, Bool.and_assoc, Nat.add_assoc]
theorem sp_12 (tp : Nat → Nat) (t0 f0 : Nat) : (decide (t0 = f0 + [103, 105, 118, 101].length) && mtc tp f0 [103, 105, 118, 101]) = spB tp t0 f0 4 103 105 118 101 0 0 0 := by
  simp [spB, mtc, Bool.and_assoc, Nat.add_assoc]
theorem sp_13 (tp : Nat → Nat) (t0 f0 : Nat) : (decide (t0 = f0 + [97, 103, 101].length) && mtc tp f0 [97, 103, 101]) = spB tp t0 f0 3 97 103 101 0 0 0 0 := by
  simp [spB, mtc, Bool.and_assoc, Nat.add_assoc]
theorem sp_14 (tp : Nat → Nat) (t0 f0 : Nat) : (decide (t0 = f0 + [99, 104, 117, 110, 107].length) && mtc tp f0 [99, 104, 117, 110, 107]) = spB tp t0 f0 5 99 104 117 110 107 0 0 := by
  simp [spB, mtc, Bool.and_assoc, Nat.add_assoc]
theorem vbM_e : vbM = [102, 101, 116, 99, 104] ++ 32 :: ([114, 101, 97, 100] ++ 32 :: ([119, 114, 105, 116, 101] ++ 32 :: ([115, 112, 108, 105, 116] ++ 32 :: ([109, 105, 100, 100, 108, 101] ++ 32 :: ([106, 111, 105, 110] ++ 32 :: ([109, 111, 118, 101] ++ 32 :: ([115, 116, 101, 112] ++ 32 :: ([102, 97, 105, 108] ++ 32 :: ([100, 111, 119, 110] ++ 32 :: ([117, 112] ++ 32 :: ([114, 101, 99, 111, 118, 101, 114] ++ 32 :: ([103, 105, 118, 101] ++ 32 :: ([97, 103, 101] ++ 32 :: ([99, 104, 117, 110, 107] ++ 32 :: ([]))))))))))))))) := by decide +kernel
theorem vo_vb (tp : Nat → Nat) (f0 t0 : Nat) : voS tp f0 t0 vbM 0 f0 (decide (f0 < t0)) = vbO tp t0 f0 := by
  rw [vbM_e]
  rw [vo_w tp f0 t0 0 _ [102, 101, 116, 99, 104] (by decide) (by decide)]
  rw [vo_w tp f0 t0 1 _ [114, 101, 97, 100] (by decide) (by decide)]
  rw [vo_w tp f0 t0 2 _ [119, 114, 105, 116, 101] (by decide) (by decide)]
  rw [vo_w tp f0 t0 3 _ [115, 112, 108, 105, 116] (by decide) (by decide)]
  rw [vo_w tp f0 t0 4 _ [109, 105, 100, 100, 108, 101] (by decide) (by decide)]
  rw [vo_w tp f0 t0 5 _ [106, 111, 105, 110] (by decide) (by decide)]
  rw [vo_w tp f0 t0 6 _ [109, 111, 118, 101] (by decide) (by decide)]
  rw [vo_w tp f0 t0 7 _ [115, 116, 101, 112] (by decide) (by decide)]
  rw [vo_w tp f0 t0 8 _ [102, 97, 105, 108] (by decide) (by decide)]
  rw [vo_w tp f0 t0 9 _ [100, 111, 119, 110] (by decide) (by decide)]
  rw [vo_w tp f0 t0 10 _ [117, 112] (by decide) (by decide)]
  rw [vo_w tp f0 t0 11 _ [114, 101, 99, 111, 118, 101, 114] (by decide) (by decide)]
  rw [vo_w tp f0 t0 12 _ [103, 105, 118, 101] (by decide) (by decide)]
  rw [vo_w tp f0 t0 13 _ [97, 103, 101] (by decide) (by decide)]
  rw [vo_w tp f0 t0 14 _ [99, 104, 117, 110, 107] (by decide) (by decide)]
  unfold vbO
  rw [show (decide (t0 = f0 + [102, 101, 116, 99, 104].length) && mtc tp f0 [102, 101, 116, 99, 104]) = spB tp t0 f0 5 102 101 116 99 104 0 0 from sp_0 tp t0 f0]
  rw [show (decide (t0 = f0 + [114, 101, 97, 100].length) && mtc tp f0 [114, 101, 97, 100]) = spB tp t0 f0 4 114 101 97 100 0 0 0 from sp_1 tp t0 f0]
  rw [show (decide (t0 = f0 + [119, 114, 105, 116, 101].length) && mtc tp f0 [119, 114, 105, 116, 101]) = spB tp t0 f0 5 119 114 105 116 101 0 0 from sp_2 tp t0 f0]
  rw [show (decide (t0 = f0 + [115, 112, 108, 105, 116].length) && mtc tp f0 [115, 112, 108, 105, 116]) = spB tp t0 f0 5 115 112 108 105 116 0 0 from sp_3 tp t0 f0]
  rw [show (decide (t0 = f0 + [109, 105, 100, 100, 108, 101].length) && mtc tp f0 [109, 105, 100, 100, 108, 101]) = spB tp t0 f0 6 109 105 100 100 108 101 0 from sp_4 tp t0 f0]
  rw [show (decide (t0 = f0 + [106, 111, 105, 110].length) && mtc tp f0 [106, 111, 105, 110]) = spB tp t0 f0 4 106 111 105 110 0 0 0 from sp_5 tp t0 f0]
  rw [show (decide (t0 = f0 + [109, 111, 118, 101].length) && mtc tp f0 [109, 111, 118, 101]) = spB tp t0 f0 4 109 111 118 101 0 0 0 from sp_6 tp t0 f0]
  rw [show (decide (t0 = f0 + [115, 116, 101, 112].length) && mtc tp f0 [115, 116, 101, 112]) = spB tp t0 f0 4 115 116 101 112 0 0 0 from sp_7 tp t0 f0]
  rw [show (decide (t0 = f0 + [102, 97, 105, 108].length) && mtc tp f0 [102, 97, 105, 108]) = spB tp t0 f0 4 102 97 105 108 0 0 0 from sp_8 tp t0 f0]
  rw [show (decide (t0 = f0 + [100, 111, 119, 110].length) && mtc tp f0 [100, 111, 119, 110]) = spB tp t0 f0 4 100 111 119 110 0 0 0 from sp_9 tp t0 f0]
  rw [show (decide (t0 = f0 + [117, 112].length) && mtc tp f0 [117, 112]) = spB tp t0 f0 2 117 112 0 0 0 0 0 from sp_10 tp t0 f0]
  rw [show (decide (t0 = f0 + [114, 101, 99, 111, 118, 101, 114].length) && mtc tp f0 [114, 101, 99, 111, 118, 101, 114]) = spB tp t0 f0 7 114 101 99 111 118 101 114 from sp_11 tp t0 f0]
  rw [show (decide (t0 = f0 + [103, 105, 118, 101].length) && mtc tp f0 [103, 105, 118, 101]) = spB tp t0 f0 4 103 105 118 101 0 0 0 from sp_12 tp t0 f0]
  rw [show (decide (t0 = f0 + [97, 103, 101].length) && mtc tp f0 [97, 103, 101]) = spB tp t0 f0 3 97 103 101 0 0 0 0 from sp_13 tp t0 f0]
  rw [show (decide (t0 = f0 + [99, 104, 117, 110, 107].length) && mtc tp f0 [99, 104, 117, 110, 107]) = spB tp t0 f0 5 99 104 117 110 107 0 0 from sp_14 tp t0 f0]
  rfl
theorem ct_vo {fi : FI} {fr : FR} {ai : FI} {ar : FR} {N : Nat} (cm : CM fr ar) {tp : Nat → Nat} {t f0 t0 : Nat} (ht4 : t ≤ 400) (hT : ∀ i, i < t → ai (rf 29 77) i = nI (tp i)) (hb : ∀ i, tp i < 256) (h0 : f0 ≤ t0) (h1 : t0 ≤ t) : ∀ (l : List Nat) (i v m : Nat) (s : Bool) (x5 : Int32) (lx : Option Value), x5 = bI s → vbM.drop i = l → i ≤ 81 → m ≤ t0 → v ≤ i → EV mX7_verbOf 4 0 0 20 [some (.ref (rf 7 76)), some (.int (nI f0)), some (.int (nI t0)), some (.int (nI v)), some (.int (nI m)), some (.int x5), some (.int (nI i)), lx] [] fi fr ai ar N (xQ (some (.int (oI (voS tp f0 t0 l v m s)))) fi fr ai ar N) := by
  intro l
  induction l with
  | nil =>
    intro i v m s x5 lx e5 hd hi hm hvi
    have hi2 : 81 ≤ i := by
      have := List.drop_eq_nil_iff.mp hd
      exact this
    refine e_iload dX7_verbOf_20 rfl ?_
    refine e_ldcS dX7_verbOf_22 rfl ?_
    refine e_callT (M' := mJ0_length_8abf5) (k2 := 0) (z2 := 0) (As := []) dX7_verbOf_24 ml_X7_71 ok_J0_length_8abf5 rfl im_J0_length_8abf5 se_J0_length_8abf5 (ct_slength) rfl rfl (Nat.le_of_ble_eq_true rfl) (by decide) ⟨by omega, by omega⟩ (Nat.le_of_ble_eq_true rfl) (fun r1 f1 g1 a1 q1 n1 hI => ?_)
    obtain ⟨i1, i2, i3, i4, i5, i6⟩ := hI
    rw [i1, i2, i3, i4, i5, i6]
    clear i1 i2 i3 i4 i5 i6 r1 f1 g1 a1 q1 n1
    dsimp only [Option.toList, List.cons_append, List.nil_append]
    first | ((with_reducible refine mk_nn ?_); refine n_icmp_ge (tgt := 113) dX7_verbOf_27 (by decide) (by omega) (by omega) (fun h27 => ?_) (fun h27 => ?_)) | refine e_icmp_ge (tgt := 113) dX7_verbOf_27 (by decide) (fun h27 => ?_) (fun h27 => ?_)
    · try first | contradiction | omega
      all_goals
        refine e_iconst (v := -1) dX7_verbOf_113 rfl ?_
        refine e_ret (some _) rfl (r_int dX7_verbOf_114 rfl) ?_
        exact xq rfl rfl rfl rfl rfl rfl
    · try first | contradiction | omega
      all_goals
        omega
  | cons c l ih =>
    intro i v m s x5 lx e5 hd hi hm hvi
    subst e5
    obtain ⟨hi1, hc1, hd1⟩ := drop_c hd
    have hi2 : i < 81 := hi1
    have hcl : c < 128 := by rw [← hc1]; exact vb_lt i hi2
    have hbm := hb m
    by_cases h32 : c = 32
    · by_cases hs : s = true ∧ m = t0
      · obtain ⟨rfl, hm2⟩ := hs
        rw [show voS tp f0 t0 (c :: l) v m true = some v by unfold voS; rw [if_pos h32, if_pos ⟨rfl, hm2⟩]]
        refine e_iload dX7_verbOf_20 rfl ?_
        refine e_ldcS dX7_verbOf_22 rfl ?_
        refine e_callT (M' := mJ0_length_8abf5) (k2 := 0) (z2 := 0) (As := []) dX7_verbOf_24 ml_X7_71 ok_J0_length_8abf5 rfl im_J0_length_8abf5 se_J0_length_8abf5 (ct_slength) rfl rfl (Nat.le_of_ble_eq_true rfl) (by decide) ⟨by omega, by omega⟩ (Nat.le_of_ble_eq_true rfl) (fun r1 f1 g1 a1 q1 n1 hI => ?_)
        obtain ⟨i1, i2, i3, i4, i5, i6⟩ := hI
        rw [i1, i2, i3, i4, i5, i6]
        clear i1 i2 i3 i4 i5 i6 r1 f1 g1 a1 q1 n1
        dsimp only [Option.toList, List.cons_append, List.nil_append]
        first | ((with_reducible refine mk_nn ?_); refine n_icmp_ge (tgt := 113) dX7_verbOf_27 (by decide) (by omega) (by omega) (fun h27 => ?_) (fun h27 => ?_)) | refine e_icmp_ge (tgt := 113) dX7_verbOf_27 (by decide) (fun h27 => ?_) (fun h27 => ?_)
        · try first | contradiction | omega
          all_goals
            omega
        · try first | contradiction | omega
          all_goals
            refine e_ldcS dX7_verbOf_30 rfl ?_
            refine e_iload dX7_verbOf_32 rfl ?_
            refine e_callT (M' := mJ0_charAt_5068e) (k2 := 0) (z2 := 0) (As := [_]) dX7_verbOf_34 ml_X7_76 ok_J0_charAt_5068e rfl im_J0_charAt_5068e se_J0_charAt_5068e (ct_charAt (by omega)) rfl rfl (Nat.le_of_ble_eq_true rfl) (by decide) ⟨by omega, by omega⟩ (Nat.le_of_ble_eq_true rfl) (fun r1 f1 g1 a1 q1 n1 hI => ?_)
            obtain ⟨i1, i2, i3, i4, i5, i6⟩ := hI
            rw [i1, i2, i3, i4, i5, i6]
            clear i1 i2 i3 i4 i5 i6 r1 f1 g1 a1 q1 n1
            dsimp only [Option.toList, List.cons_append, List.nil_append]
            rw [hc1]
            refine e_istore dX7_verbOf_37 (Nat.le_of_ble_eq_true rfl) rfl ?_
            refine e_iload dX7_verbOf_39 rfl ?_
            refine e_bipush (v := nI 32) dX7_verbOf_41 rfl ?_
            first | ((with_reducible refine mk_mo ?_); refine p_icmp_ne (tgt := 80) dX7_verbOf_43 (by decide) (fun h43 => ?_) (fun h43 => ?_)) | ((with_reducible refine mk_ms ?_); refine s_icmp_ne (tgt := 80) dX7_verbOf_43 (by decide) (by omega) (fun h43 => ?_) (fun h43 => ?_)) | ((with_reducible refine mk_mn ?_); refine q_icmp_ne (tgt := 80) dX7_verbOf_43 (by decide) (by omega) (fun h43 => ?_) (fun h43 => ?_)) | ((with_reducible refine mk_nn ?_); refine n_icmp_ne (tgt := 80) dX7_verbOf_43 (by decide) (by omega) (by omega) (fun h43 => ?_) (fun h43 => ?_)) | refine e_icmp_ne (tgt := 80) dX7_verbOf_43 (by decide) (fun h43 => ?_) (fun h43 => ?_)
            · try first | contradiction | omega
              all_goals
                omega
            · try first | contradiction | omega
              all_goals
                refine e_iload dX7_verbOf_46 rfl ?_
                first | ((with_reducible refine mk_b ?_); refine b_if_eq (tgt := 59) dX7_verbOf_48 (by decide) (fun h48 => ?_) (fun h48 => ?_)) | ((with_reducible refine mk_ll ?_); refine m_if_eq (tgt := 59) dX7_verbOf_48 (by decide) (by omega) (by omega) (fun h48 => ?_) (fun h48 => ?_)) | ((with_reducible refine mk_lc ?_); refine l_if_eq (tgt := 59) dX7_verbOf_48 (by decide) (fun h48 => ?_) (fun h48 => ?_)) | ((with_reducible refine mk_n ?_); refine n_if_eq (tgt := 59) dX7_verbOf_48 (by decide) (by omega) (fun h48 => ?_) (fun h48 => ?_)) | refine e_if_eq (tgt := 59) dX7_verbOf_48 (by decide) (fun h48 => ?_) (fun h48 => ?_)
                · try first | contradiction | omega | (simp only [decide_eq_true_eq, decide_eq_false_iff_not] at h48; omega)
                  all_goals
                    first | omega | contradiction
                · try first | contradiction | omega | (simp only [decide_eq_true_eq, decide_eq_false_iff_not] at h48; omega)
                  all_goals
                    refine e_iload dX7_verbOf_51 rfl ?_
                    refine e_iload_n dX7_verbOf_53 rfl rfl ?_
                    first | ((with_reducible refine mk_mo ?_); refine p_icmp_ne (tgt := 59) dX7_verbOf_54 (by decide) (fun h54 => ?_) (fun h54 => ?_)) | ((with_reducible refine mk_ms ?_); refine s_icmp_ne (tgt := 59) dX7_verbOf_54 (by decide) (by omega) (fun h54 => ?_) (fun h54 => ?_)) | ((with_reducible refine mk_mn ?_); refine q_icmp_ne (tgt := 59) dX7_verbOf_54 (by decide) (by omega) (fun h54 => ?_) (fun h54 => ?_)) | ((with_reducible refine mk_nn ?_); refine n_icmp_ne (tgt := 59) dX7_verbOf_54 (by decide) (by omega) (by omega) (fun h54 => ?_) (fun h54 => ?_)) | refine e_icmp_ne (tgt := 59) dX7_verbOf_54 (by decide) (fun h54 => ?_) (fun h54 => ?_)
                    · try first | contradiction | omega
                      all_goals
                        first | omega | contradiction
                    · try first | contradiction | omega
                      all_goals
                        refine e_iload_n dX7_verbOf_57 rfl rfl ?_
                        refine e_ret (some _) rfl (r_int dX7_verbOf_58 rfl) ?_
                        exact xq rfl rfl rfl rfl rfl rfl
      · rw [show voS tp f0 t0 (c :: l) v m s = voS tp f0 t0 l (v + 1) f0 (decide (f0 < t0)) by (show (if c = 32 then _ else _) = _); rw [if_pos h32, if_neg hs]]
        refine e_iload dX7_verbOf_20 rfl ?_
        refine e_ldcS dX7_verbOf_22 rfl ?_
        refine e_callT (M' := mJ0_length_8abf5) (k2 := 0) (z2 := 0) (As := []) dX7_verbOf_24 ml_X7_71 ok_J0_length_8abf5 rfl im_J0_length_8abf5 se_J0_length_8abf5 (ct_slength) rfl rfl (Nat.le_of_ble_eq_true rfl) (by decide) ⟨by omega, by omega⟩ (Nat.le_of_ble_eq_true rfl) (fun r1 f1 g1 a1 q1 n1 hI => ?_)
        obtain ⟨i1, i2, i3, i4, i5, i6⟩ := hI
        rw [i1, i2, i3, i4, i5, i6]
        clear i1 i2 i3 i4 i5 i6 r1 f1 g1 a1 q1 n1
        dsimp only [Option.toList, List.cons_append, List.nil_append]
        first | ((with_reducible refine mk_nn ?_); refine n_icmp_ge (tgt := 113) dX7_verbOf_27 (by decide) (by omega) (by omega) (fun h27 => ?_) (fun h27 => ?_)) | refine e_icmp_ge (tgt := 113) dX7_verbOf_27 (by decide) (fun h27 => ?_) (fun h27 => ?_)
        · try first | contradiction | omega
          all_goals
            omega
        · try first | contradiction | omega
          all_goals
            refine e_ldcS dX7_verbOf_30 rfl ?_
            refine e_iload dX7_verbOf_32 rfl ?_
            refine e_callT (M' := mJ0_charAt_5068e) (k2 := 0) (z2 := 0) (As := [_]) dX7_verbOf_34 ml_X7_76 ok_J0_charAt_5068e rfl im_J0_charAt_5068e se_J0_charAt_5068e (ct_charAt (by omega)) rfl rfl (Nat.le_of_ble_eq_true rfl) (by decide) ⟨by omega, by omega⟩ (Nat.le_of_ble_eq_true rfl) (fun r1 f1 g1 a1 q1 n1 hI => ?_)
            obtain ⟨i1, i2, i3, i4, i5, i6⟩ := hI
            rw [i1, i2, i3, i4, i5, i6]
            clear i1 i2 i3 i4 i5 i6 r1 f1 g1 a1 q1 n1
            dsimp only [Option.toList, List.cons_append, List.nil_append]
            rw [hc1]
            refine e_istore dX7_verbOf_37 (Nat.le_of_ble_eq_true rfl) rfl ?_
            refine e_iload dX7_verbOf_39 rfl ?_
            refine e_bipush (v := nI 32) dX7_verbOf_41 rfl ?_
            first | ((with_reducible refine mk_mo ?_); refine p_icmp_ne (tgt := 80) dX7_verbOf_43 (by decide) (fun h43 => ?_) (fun h43 => ?_)) | ((with_reducible refine mk_ms ?_); refine s_icmp_ne (tgt := 80) dX7_verbOf_43 (by decide) (by omega) (fun h43 => ?_) (fun h43 => ?_)) | ((with_reducible refine mk_mn ?_); refine q_icmp_ne (tgt := 80) dX7_verbOf_43 (by decide) (by omega) (fun h43 => ?_) (fun h43 => ?_)) | ((with_reducible refine mk_nn ?_); refine n_icmp_ne (tgt := 80) dX7_verbOf_43 (by decide) (by omega) (by omega) (fun h43 => ?_) (fun h43 => ?_)) | refine e_icmp_ne (tgt := 80) dX7_verbOf_43 (by decide) (fun h43 => ?_) (fun h43 => ?_)
            · try first | contradiction | omega
              all_goals
                omega
            · try first | contradiction | omega
              all_goals
                refine e_iload dX7_verbOf_46 rfl ?_
                first | ((with_reducible refine mk_b ?_); refine b_if_eq (tgt := 59) dX7_verbOf_48 (by decide) (fun h48 => ?_) (fun h48 => ?_)) | ((with_reducible refine mk_ll ?_); refine m_if_eq (tgt := 59) dX7_verbOf_48 (by decide) (by omega) (by omega) (fun h48 => ?_) (fun h48 => ?_)) | ((with_reducible refine mk_lc ?_); refine l_if_eq (tgt := 59) dX7_verbOf_48 (by decide) (fun h48 => ?_) (fun h48 => ?_)) | ((with_reducible refine mk_n ?_); refine n_if_eq (tgt := 59) dX7_verbOf_48 (by decide) (by omega) (fun h48 => ?_) (fun h48 => ?_)) | refine e_if_eq (tgt := 59) dX7_verbOf_48 (by decide) (fun h48 => ?_) (fun h48 => ?_)
                · try first | contradiction | omega | (simp only [decide_eq_true_eq, decide_eq_false_iff_not] at h48; omega)
                  all_goals
                    first | refine n_inc dX7_verbOf_59 rfl (Nat.le_of_ble_eq_true rfl) rfl ?_ | refine e_iinc dX7_verbOf_59 rfl rfl (Nat.le_of_ble_eq_true rfl) rfl ?_
                    refine e_iload_n dX7_verbOf_62 rfl rfl ?_
                    refine e_istore dX7_verbOf_63 (Nat.le_of_ble_eq_true rfl) rfl ?_
                    refine e_iload_n dX7_verbOf_65 rfl rfl ?_
                    refine e_iload_n dX7_verbOf_66 rfl rfl ?_
                    first | ((with_reducible refine mk_nn ?_); refine n_icmp_le (tgt := 74) dX7_verbOf_67 (by decide) (by omega) (by omega) (fun h67 => ?_) (fun h67 => ?_)) | refine e_icmp_le (tgt := 74) dX7_verbOf_67 (by decide) (fun h67 => ?_) (fun h67 => ?_)
                    · try first | contradiction | omega
                      all_goals
                        refine e_iconst (v := nI 0) dX7_verbOf_74 rfl ?_
                        refine e_istore dX7_verbOf_75 (Nat.le_of_ble_eq_true rfl) rfl ?_
                        refine e_goto (tgt := 107) dX7_verbOf_77 (by decide) ?_
                        first | refine n_inc dX7_verbOf_107 rfl (Nat.le_of_ble_eq_true rfl) rfl ?_ | refine e_iinc dX7_verbOf_107 rfl rfl (Nat.le_of_ble_eq_true rfl) rfl ?_
                        refine e_goto (tgt := 20) dX7_verbOf_110 (by decide) ?_
                        exact ih (i + 1) (v + 1) f0 (decide (f0 < t0)) _ _ (by first | (rw [decide_eq_true (by omega)]; rfl) | (rw [decide_eq_false (by omega)]; rfl)) hd1 (by omega) (by omega) (by omega)
                    · try first | contradiction | omega
                      all_goals
                        refine e_iconst (v := nI 1) dX7_verbOf_70 rfl ?_
                        refine e_goto (tgt := 75) dX7_verbOf_71 (by decide) ?_
                        refine e_istore dX7_verbOf_75 (Nat.le_of_ble_eq_true rfl) rfl ?_
                        refine e_goto (tgt := 107) dX7_verbOf_77 (by decide) ?_
                        first | refine n_inc dX7_verbOf_107 rfl (Nat.le_of_ble_eq_true rfl) rfl ?_ | refine e_iinc dX7_verbOf_107 rfl rfl (Nat.le_of_ble_eq_true rfl) rfl ?_
                        refine e_goto (tgt := 20) dX7_verbOf_110 (by decide) ?_
                        exact ih (i + 1) (v + 1) f0 (decide (f0 < t0)) _ _ (by first | (rw [decide_eq_true (by omega)]; rfl) | (rw [decide_eq_false (by omega)]; rfl)) hd1 (by omega) (by omega) (by omega)
                · try first | contradiction | omega | (simp only [decide_eq_true_eq, decide_eq_false_iff_not] at h48; omega)
                  all_goals
                    refine e_iload dX7_verbOf_51 rfl ?_
                    refine e_iload_n dX7_verbOf_53 rfl rfl ?_
                    first | ((with_reducible refine mk_mo ?_); refine p_icmp_ne (tgt := 59) dX7_verbOf_54 (by decide) (fun h54 => ?_) (fun h54 => ?_)) | ((with_reducible refine mk_ms ?_); refine s_icmp_ne (tgt := 59) dX7_verbOf_54 (by decide) (by omega) (fun h54 => ?_) (fun h54 => ?_)) | ((with_reducible refine mk_mn ?_); refine q_icmp_ne (tgt := 59) dX7_verbOf_54 (by decide) (by omega) (fun h54 => ?_) (fun h54 => ?_)) | ((with_reducible refine mk_nn ?_); refine n_icmp_ne (tgt := 59) dX7_verbOf_54 (by decide) (by omega) (by omega) (fun h54 => ?_) (fun h54 => ?_)) | refine e_icmp_ne (tgt := 59) dX7_verbOf_54 (by decide) (fun h54 => ?_) (fun h54 => ?_)
                    · try first | contradiction | omega
                      all_goals
                        first | refine n_inc dX7_verbOf_59 rfl (Nat.le_of_ble_eq_true rfl) rfl ?_ | refine e_iinc dX7_verbOf_59 rfl rfl (Nat.le_of_ble_eq_true rfl) rfl ?_
                        refine e_iload_n dX7_verbOf_62 rfl rfl ?_
                        refine e_istore dX7_verbOf_63 (Nat.le_of_ble_eq_true rfl) rfl ?_
                        refine e_iload_n dX7_verbOf_65 rfl rfl ?_
                        refine e_iload_n dX7_verbOf_66 rfl rfl ?_
                        first | ((with_reducible refine mk_nn ?_); refine n_icmp_le (tgt := 74) dX7_verbOf_67 (by decide) (by omega) (by omega) (fun h67 => ?_) (fun h67 => ?_)) | refine e_icmp_le (tgt := 74) dX7_verbOf_67 (by decide) (fun h67 => ?_) (fun h67 => ?_)
                        · try first | contradiction | omega
                          all_goals
                            refine e_iconst (v := nI 0) dX7_verbOf_74 rfl ?_
                            refine e_istore dX7_verbOf_75 (Nat.le_of_ble_eq_true rfl) rfl ?_
                            refine e_goto (tgt := 107) dX7_verbOf_77 (by decide) ?_
                            first | refine n_inc dX7_verbOf_107 rfl (Nat.le_of_ble_eq_true rfl) rfl ?_ | refine e_iinc dX7_verbOf_107 rfl rfl (Nat.le_of_ble_eq_true rfl) rfl ?_
                            refine e_goto (tgt := 20) dX7_verbOf_110 (by decide) ?_
                            exact ih (i + 1) (v + 1) f0 (decide (f0 < t0)) _ _ (by first | (rw [decide_eq_true (by omega)]; rfl) | (rw [decide_eq_false (by omega)]; rfl)) hd1 (by omega) (by omega) (by omega)
                        · try first | contradiction | omega
                          all_goals
                            refine e_iconst (v := nI 1) dX7_verbOf_70 rfl ?_
                            refine e_goto (tgt := 75) dX7_verbOf_71 (by decide) ?_
                            refine e_istore dX7_verbOf_75 (Nat.le_of_ble_eq_true rfl) rfl ?_
                            refine e_goto (tgt := 107) dX7_verbOf_77 (by decide) ?_
                            first | refine n_inc dX7_verbOf_107 rfl (Nat.le_of_ble_eq_true rfl) rfl ?_ | refine e_iinc dX7_verbOf_107 rfl rfl (Nat.le_of_ble_eq_true rfl) rfl ?_
                            refine e_goto (tgt := 20) dX7_verbOf_110 (by decide) ?_
                            exact ih (i + 1) (v + 1) f0 (decide (f0 < t0)) _ _ (by first | (rw [decide_eq_true (by omega)]; rfl) | (rw [decide_eq_false (by omega)]; rfl)) hd1 (by omega) (by omega) (by omega)
                    · try first | contradiction | omega
                      all_goals
                        exact absurd ⟨by assumption, by omega⟩ hs
    · by_cases hm2 : m < t0 ∧ tp m = c
      · rw [show voS tp f0 t0 (c :: l) v m s = voS tp f0 t0 l v (m + 1) s by (show (if c = 32 then _ else if m < t0 ∧ tp m = c then _ else _) = _); rw [if_neg h32, if_pos hm2]]
        refine e_iload dX7_verbOf_20 rfl ?_
        refine e_ldcS dX7_verbOf_22 rfl ?_
        refine e_callT (M' := mJ0_length_8abf5) (k2 := 0) (z2 := 0) (As := []) dX7_verbOf_24 ml_X7_71 ok_J0_length_8abf5 rfl im_J0_length_8abf5 se_J0_length_8abf5 (ct_slength) rfl rfl (Nat.le_of_ble_eq_true rfl) (by decide) ⟨by omega, by omega⟩ (Nat.le_of_ble_eq_true rfl) (fun r1 f1 g1 a1 q1 n1 hI => ?_)
        obtain ⟨i1, i2, i3, i4, i5, i6⟩ := hI
        rw [i1, i2, i3, i4, i5, i6]
        clear i1 i2 i3 i4 i5 i6 r1 f1 g1 a1 q1 n1
        dsimp only [Option.toList, List.cons_append, List.nil_append]
        first | ((with_reducible refine mk_nn ?_); refine n_icmp_ge (tgt := 113) dX7_verbOf_27 (by decide) (by omega) (by omega) (fun h27 => ?_) (fun h27 => ?_)) | refine e_icmp_ge (tgt := 113) dX7_verbOf_27 (by decide) (fun h27 => ?_) (fun h27 => ?_)
        · try first | contradiction | omega
          all_goals
            omega
        · try first | contradiction | omega
          all_goals
            refine e_ldcS dX7_verbOf_30 rfl ?_
            refine e_iload dX7_verbOf_32 rfl ?_
            refine e_callT (M' := mJ0_charAt_5068e) (k2 := 0) (z2 := 0) (As := [_]) dX7_verbOf_34 ml_X7_76 ok_J0_charAt_5068e rfl im_J0_charAt_5068e se_J0_charAt_5068e (ct_charAt (by omega)) rfl rfl (Nat.le_of_ble_eq_true rfl) (by decide) ⟨by omega, by omega⟩ (Nat.le_of_ble_eq_true rfl) (fun r1 f1 g1 a1 q1 n1 hI => ?_)
            obtain ⟨i1, i2, i3, i4, i5, i6⟩ := hI
            rw [i1, i2, i3, i4, i5, i6]
            clear i1 i2 i3 i4 i5 i6 r1 f1 g1 a1 q1 n1
            dsimp only [Option.toList, List.cons_append, List.nil_append]
            rw [hc1]
            refine e_istore dX7_verbOf_37 (Nat.le_of_ble_eq_true rfl) rfl ?_
            refine e_iload dX7_verbOf_39 rfl ?_
            refine e_bipush (v := nI 32) dX7_verbOf_41 rfl ?_
            first | ((with_reducible refine mk_mo ?_); refine p_icmp_ne (tgt := 80) dX7_verbOf_43 (by decide) (fun h43 => ?_) (fun h43 => ?_)) | ((with_reducible refine mk_ms ?_); refine s_icmp_ne (tgt := 80) dX7_verbOf_43 (by decide) (by omega) (fun h43 => ?_) (fun h43 => ?_)) | ((with_reducible refine mk_mn ?_); refine q_icmp_ne (tgt := 80) dX7_verbOf_43 (by decide) (by omega) (fun h43 => ?_) (fun h43 => ?_)) | ((with_reducible refine mk_nn ?_); refine n_icmp_ne (tgt := 80) dX7_verbOf_43 (by decide) (by omega) (by omega) (fun h43 => ?_) (fun h43 => ?_)) | refine e_icmp_ne (tgt := 80) dX7_verbOf_43 (by decide) (fun h43 => ?_) (fun h43 => ?_)
            · try first | contradiction | omega
              all_goals
                refine e_iload dX7_verbOf_80 rfl ?_
                refine e_iload_n dX7_verbOf_82 rfl rfl ?_
                first | ((with_reducible refine mk_nn ?_); refine n_icmp_ge (tgt := 104) dX7_verbOf_83 (by decide) (by omega) (by omega) (fun h83 => ?_) (fun h83 => ?_)) | refine e_icmp_ge (tgt := 104) dX7_verbOf_83 (by decide) (fun h83 => ?_) (fun h83 => ?_)
                · try first | contradiction | omega
                  all_goals
                    omega
                · try first | contradiction | omega
                  all_goals
                    refine e_aload_n dX7_verbOf_86 rfl rfl ?_
                    refine e_getR dX7_verbOf_87 fl_X7_9 rfl (cs_txt cm) ?_
                    refine e_iload dX7_verbOf_90 rfl ?_
                    refine e_cadE _ dX7_verbOf_92 ⟨by decide, by decide⟩ rfl rfl (by simp only [lenK]; omega) (hT m (by omega)) ?_
                    refine e_iload dX7_verbOf_93 rfl ?_
                    first | ((with_reducible refine mk_mo ?_); refine p_icmp_ne (tgt := 104) dX7_verbOf_95 (by decide) (fun h95 => ?_) (fun h95 => ?_)) | ((with_reducible refine mk_ms ?_); refine s_icmp_ne (tgt := 104) dX7_verbOf_95 (by decide) (by omega) (fun h95 => ?_) (fun h95 => ?_)) | ((with_reducible refine mk_mn ?_); refine q_icmp_ne (tgt := 104) dX7_verbOf_95 (by decide) (by omega) (fun h95 => ?_) (fun h95 => ?_)) | ((with_reducible refine mk_nn ?_); refine n_icmp_ne (tgt := 104) dX7_verbOf_95 (by decide) (by omega) (by omega) (fun h95 => ?_) (fun h95 => ?_)) | refine e_icmp_ne (tgt := 104) dX7_verbOf_95 (by decide) (fun h95 => ?_) (fun h95 => ?_)
                    · try first | contradiction | omega
                      all_goals
                        omega
                    · try first | contradiction | omega
                      all_goals
                        first | refine n_inc dX7_verbOf_98 rfl (Nat.le_of_ble_eq_true rfl) rfl ?_ | refine e_iinc dX7_verbOf_98 rfl rfl (Nat.le_of_ble_eq_true rfl) rfl ?_
                        refine e_goto (tgt := 107) dX7_verbOf_101 (by decide) ?_
                        first | refine n_inc dX7_verbOf_107 rfl (Nat.le_of_ble_eq_true rfl) rfl ?_ | refine e_iinc dX7_verbOf_107 rfl rfl (Nat.le_of_ble_eq_true rfl) rfl ?_
                        refine e_goto (tgt := 20) dX7_verbOf_110 (by decide) ?_
                        exact ih (i + 1) v (m + 1) s _ _ rfl hd1 (by omega) (by omega) (by omega)
            · try first | contradiction | omega
              all_goals
                omega
      · rw [show voS tp f0 t0 (c :: l) v m s = voS tp f0 t0 l v m false by (show (if c = 32 then _ else if m < t0 ∧ tp m = c then _ else _) = _); rw [if_neg h32, if_neg hm2]]
        refine e_iload dX7_verbOf_20 rfl ?_
        refine e_ldcS dX7_verbOf_22 rfl ?_
        refine e_callT (M' := mJ0_length_8abf5) (k2 := 0) (z2 := 0) (As := []) dX7_verbOf_24 ml_X7_71 ok_J0_length_8abf5 rfl im_J0_length_8abf5 se_J0_length_8abf5 (ct_slength) rfl rfl (Nat.le_of_ble_eq_true rfl) (by decide) ⟨by omega, by omega⟩ (Nat.le_of_ble_eq_true rfl) (fun r1 f1 g1 a1 q1 n1 hI => ?_)
        obtain ⟨i1, i2, i3, i4, i5, i6⟩ := hI
        rw [i1, i2, i3, i4, i5, i6]
        clear i1 i2 i3 i4 i5 i6 r1 f1 g1 a1 q1 n1
        dsimp only [Option.toList, List.cons_append, List.nil_append]
        first | ((with_reducible refine mk_nn ?_); refine n_icmp_ge (tgt := 113) dX7_verbOf_27 (by decide) (by omega) (by omega) (fun h27 => ?_) (fun h27 => ?_)) | refine e_icmp_ge (tgt := 113) dX7_verbOf_27 (by decide) (fun h27 => ?_) (fun h27 => ?_)
        · try first | contradiction | omega
          all_goals
            omega
        · try first | contradiction | omega
          all_goals
            refine e_ldcS dX7_verbOf_30 rfl ?_
            refine e_iload dX7_verbOf_32 rfl ?_
            refine e_callT (M' := mJ0_charAt_5068e) (k2 := 0) (z2 := 0) (As := [_]) dX7_verbOf_34 ml_X7_76 ok_J0_charAt_5068e rfl im_J0_charAt_5068e se_J0_charAt_5068e (ct_charAt (by omega)) rfl rfl (Nat.le_of_ble_eq_true rfl) (by decide) ⟨by omega, by omega⟩ (Nat.le_of_ble_eq_true rfl) (fun r1 f1 g1 a1 q1 n1 hI => ?_)
            obtain ⟨i1, i2, i3, i4, i5, i6⟩ := hI
            rw [i1, i2, i3, i4, i5, i6]
            clear i1 i2 i3 i4 i5 i6 r1 f1 g1 a1 q1 n1
            dsimp only [Option.toList, List.cons_append, List.nil_append]
            rw [hc1]
            refine e_istore dX7_verbOf_37 (Nat.le_of_ble_eq_true rfl) rfl ?_
            refine e_iload dX7_verbOf_39 rfl ?_
            refine e_bipush (v := nI 32) dX7_verbOf_41 rfl ?_
            first | ((with_reducible refine mk_mo ?_); refine p_icmp_ne (tgt := 80) dX7_verbOf_43 (by decide) (fun h43 => ?_) (fun h43 => ?_)) | ((with_reducible refine mk_ms ?_); refine s_icmp_ne (tgt := 80) dX7_verbOf_43 (by decide) (by omega) (fun h43 => ?_) (fun h43 => ?_)) | ((with_reducible refine mk_mn ?_); refine q_icmp_ne (tgt := 80) dX7_verbOf_43 (by decide) (by omega) (fun h43 => ?_) (fun h43 => ?_)) | ((with_reducible refine mk_nn ?_); refine n_icmp_ne (tgt := 80) dX7_verbOf_43 (by decide) (by omega) (by omega) (fun h43 => ?_) (fun h43 => ?_)) | refine e_icmp_ne (tgt := 80) dX7_verbOf_43 (by decide) (fun h43 => ?_) (fun h43 => ?_)
            · try first | contradiction | omega
              all_goals
                refine e_iload dX7_verbOf_80 rfl ?_
                refine e_iload_n dX7_verbOf_82 rfl rfl ?_
                first | ((with_reducible refine mk_nn ?_); refine n_icmp_ge (tgt := 104) dX7_verbOf_83 (by decide) (by omega) (by omega) (fun h83 => ?_) (fun h83 => ?_)) | refine e_icmp_ge (tgt := 104) dX7_verbOf_83 (by decide) (fun h83 => ?_) (fun h83 => ?_)
                · try first | contradiction | omega
                  all_goals
                    refine e_iconst (v := nI 0) dX7_verbOf_104 rfl ?_
                    refine e_istore dX7_verbOf_105 (Nat.le_of_ble_eq_true rfl) rfl ?_
                    first | refine n_inc dX7_verbOf_107 rfl (Nat.le_of_ble_eq_true rfl) rfl ?_ | refine e_iinc dX7_verbOf_107 rfl rfl (Nat.le_of_ble_eq_true rfl) rfl ?_
                    refine e_goto (tgt := 20) dX7_verbOf_110 (by decide) ?_
                    exact ih (i + 1) v m false _ _ rfl hd1 (by omega) (by omega) (by omega)
                · try first | contradiction | omega
                  all_goals
                    refine e_aload_n dX7_verbOf_86 rfl rfl ?_
                    refine e_getR dX7_verbOf_87 fl_X7_9 rfl (cs_txt cm) ?_
                    refine e_iload dX7_verbOf_90 rfl ?_
                    refine e_cadE _ dX7_verbOf_92 ⟨by decide, by decide⟩ rfl rfl (by simp only [lenK]; omega) (hT m (by omega)) ?_
                    refine e_iload dX7_verbOf_93 rfl ?_
                    first | ((with_reducible refine mk_mo ?_); refine p_icmp_ne (tgt := 104) dX7_verbOf_95 (by decide) (fun h95 => ?_) (fun h95 => ?_)) | ((with_reducible refine mk_ms ?_); refine s_icmp_ne (tgt := 104) dX7_verbOf_95 (by decide) (by omega) (fun h95 => ?_) (fun h95 => ?_)) | ((with_reducible refine mk_mn ?_); refine q_icmp_ne (tgt := 104) dX7_verbOf_95 (by decide) (by omega) (fun h95 => ?_) (fun h95 => ?_)) | ((with_reducible refine mk_nn ?_); refine n_icmp_ne (tgt := 104) dX7_verbOf_95 (by decide) (by omega) (by omega) (fun h95 => ?_) (fun h95 => ?_)) | refine e_icmp_ne (tgt := 104) dX7_verbOf_95 (by decide) (fun h95 => ?_) (fun h95 => ?_)
                    · try first | contradiction | omega
                      all_goals
                        refine e_iconst (v := nI 0) dX7_verbOf_104 rfl ?_
                        refine e_istore dX7_verbOf_105 (Nat.le_of_ble_eq_true rfl) rfl ?_
                        first | refine n_inc dX7_verbOf_107 rfl (Nat.le_of_ble_eq_true rfl) rfl ?_ | refine e_iinc dX7_verbOf_107 rfl rfl (Nat.le_of_ble_eq_true rfl) rfl ?_
                        refine e_goto (tgt := 20) dX7_verbOf_110 (by decide) ?_
                        exact ih (i + 1) v m false _ _ rfl hd1 (by omega) (by omega) (by omega)
                    · try first | contradiction | omega
                      all_goals
                        omega
            · try first | contradiction | omega
              all_goals
                omega
theorem ct_X7_verbOf {fi : FI} {fr : FR} {ai : FI} {ar : FR} {N : Nat} (cm : CM fr ar) {tp : Nat → Nat} {t f0 t0 : Nat} (ht4 : t ≤ 400) (hT : ∀ i, i < t → ai (rf 29 77) i = nI (tp i)) (hb : ∀ i, tp i < 256) (h0 : f0 ≤ t0) (h1 : t0 ≤ t) : CP mX7_verbOf 4 0 0 [.ref (rf 7 76), .int (nI f0), .int (nI t0)] fi fr ai ar N (xQ (some (.int (oI (vbO tp t0 f0)))) fi fr ai ar N) := by
  rw [← vo_vb]
  change EV mX7_verbOf 4 0 0 0 [some (.ref (rf 7 76)), some (.int (nI f0)), some (.int (nI t0)), none, none, none, none, none] [] fi fr ai ar N (xQ (some (.int (oI (voS tp f0 t0 vbM 0 f0 (decide (f0 < t0)))))) fi fr ai ar N)
  refine e_iconst (v := nI 0) dX7_verbOf_0 rfl ?_
  refine e_istore_n dX7_verbOf_1 rfl (Nat.le_of_ble_eq_true rfl) rfl ?_
  refine e_iload_n dX7_verbOf_2 rfl rfl ?_
  refine e_istore dX7_verbOf_3 (Nat.le_of_ble_eq_true rfl) rfl ?_
  refine e_iload_n dX7_verbOf_5 rfl rfl ?_
  refine e_iload_n dX7_verbOf_6 rfl rfl ?_
  first | ((with_reducible refine mk_nn ?_); refine n_icmp_le (tgt := 14) dX7_verbOf_7 (by decide) (by omega) (by omega) (fun h7 => ?_) (fun h7 => ?_)) | refine e_icmp_le (tgt := 14) dX7_verbOf_7 (by decide) (fun h7 => ?_) (fun h7 => ?_)
  · try first | contradiction | omega
    all_goals
      refine e_iconst (v := nI 0) dX7_verbOf_14 rfl ?_
      refine e_istore dX7_verbOf_15 (Nat.le_of_ble_eq_true rfl) rfl ?_
      refine e_iconst (v := nI 0) dX7_verbOf_17 rfl ?_
      refine e_istore dX7_verbOf_18 (Nat.le_of_ble_eq_true rfl) rfl ?_
      exact ct_vo cm ht4 hT hb h0 h1 vbM 0 0 f0 (decide (f0 < t0)) _ _ (by first | (rw [decide_eq_true (by omega)]; rfl) | (rw [decide_eq_false (by omega)]; rfl)) rfl (by decide) h0 (Nat.le_refl 0)
  · try first | contradiction | omega
    all_goals
      refine e_iconst (v := nI 1) dX7_verbOf_10 rfl ?_
      refine e_goto (tgt := 15) dX7_verbOf_11 (by decide) ?_
      refine e_istore dX7_verbOf_15 (Nat.le_of_ble_eq_true rfl) rfl ?_
      refine e_iconst (v := nI 0) dX7_verbOf_17 rfl ?_
      refine e_istore dX7_verbOf_18 (Nat.le_of_ble_eq_true rfl) rfl ?_
      exact ct_vo cm ht4 hT hb h0 h1 vbM 0 0 f0 (decide (f0 < t0)) _ _ (by first | (rw [decide_eq_true (by omega)]; rfl) | (rw [decide_eq_false (by omega)]; rfl)) rfl (by decide) h0 (Nat.le_refl 0)
