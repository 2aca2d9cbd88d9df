theorem z_toInt : (0 : Int32).toInt = 0 := rfl
theorem nI_ti_1000 : (nI 1000).toInt = 1000 := by decide
theorem nI_ti_6 : (nI 6).toInt = 6 := by decide
theorem lo_lt {w : Nat → Nat} (iv : Inv w) {i : Nat} : ∀ {j : Nat}, i < w 1 → j < i → w (10 + j) < w (10 + i) := by
  induction i with
  | zero => intro j _ h; omega
  | succ i ih =>
    intro j hi hj
    have h1 := iv_inc iv (i := i) hi
    by_cases e : j = i
    · subst e; exact h1
    · have := ih (j := j) (by omega) (by omega)
      omega
theorem spF_at {w : Nat → Nat} (iv : Inv w) {i k : Nat} (hi : i < w 1) (hk : w (10 + i) ≤ k) (hn : ∀ j, i < j → j < w 1 → k < w (10 + j)) : ∀ n, i ≤ n → n < w 1 → spF w k n = i
  | 0, h, _ => by unfold spF; omega
  | n + 1, h, hw => by
    by_cases e : i = n + 1
    · subst e; unfold spF; rw [if_pos hk]
    · unfold spF
      rw [if_neg (by have := hn (n + 1) (by omega) hw; omega)]
      exact spF_at iv hi hk hn n (by omega) (by omega)
theorem sp_un {w : Nat → Nat} (iv : Inv w) {i k : Nat} (hi : i < w 1) (hk : w (10 + i) ≤ k) (hn : k < enF w i) (h1000 : k < 1000) : spW w k = i := by
  have h1 := iv_n iv
  unfold spW
  refine spF_at iv hi hk (fun j a b => ?_) (w 1 - 1) (by omega) (by omega)
  unfold enF at hn
  by_cases e : j = i + 1
  · subst e; rw [if_pos b] at hn; exact hn
  · have := lo_lt iv b (j := i + 1) (by omega)
    rw [if_pos (by omega)] at hn
    rw [show 10 + i + 1 = 10 + (i + 1) by omega] at hn
    omega
theorem sp_at {w : Nat → Nat} (iv : Inv w) {i k : Nat} (hi : i < w 1) (hk : w (10 + i) = k) : w (10 + spW w k) = k := by
  have := enF_le iv hi
  rw [sp_un iv hi (by omega) (by omega) (by have := iv_low iv hi; omega)]
  exact hk
theorem up_bit : ∀ n, n < 64 → ∀ s, s < 6 → (nI n >>> (nI s &&& 31)) &&& nI 1 = nI (n / 2 ^ s % 2) := by decide +kernel
theorem ubF_6 (w : Nat → Nat) : ubF w 6 = w 4 + w 5 * 2 + w 6 * 4 + w 7 * 8 + w 8 * 16 + w 9 * 32 := by
  unfold ubF
  simp only [rs, Nat.reduceAdd, Nat.reducePow, Nat.zero_add]
  omega
theorem ubF_bit {w : Nat → Nat} (iv : Inv w) {s : Nat} (hs : s < 6) : ubF w 6 < 64 ∧ ubF w 6 / 2 ^ s % 2 = w (4 + s) := by
  have a0 := iv_up iv (s := 0) (by omega)
  have a1 := iv_up iv (s := 1) (by omega)
  have a2 := iv_up iv (s := 2) (by omega)
  have a3 := iv_up iv (s := 3) (by omega)
  have a4 := iv_up iv (s := 4) (by omega)
  have a5 := iv_up iv (s := 5) (by omega)
  simp only [Nat.reduceAdd] at a0 a1 a2 a3 a4 a5
  rw [ubF_6]
  rcases (show s = 0 ∨ s = 1 ∨ s = 2 ∨ s = 3 ∨ s = 4 ∨ s = 5 by omega) with rfl | rfl | rfl | rfl | rfl | rfl <;> simp only [Nat.reducePow, Nat.reduceAdd] <;> omega
theorem nmO_fO {w : Nat → Nat} (iv : Inv w) (x : Int32) : fO (fun i => decide (nI (w (10 + i)) = x)) (w 1) = nmO w x := by
  cases hx : inR x 1000 with
  | false =>
    unfold nmO
    rw [hx, if_neg (by simp)]
    refine fO_no (fun i hi => decide_eq_false (fun e => ?_))
    have := iv_low iv hi
    rw [← e, inR_nI (by omega)] at hx
    simp at hx
    omega
  | true =>
    obtain ⟨k, hk, hk2, rfl⟩ := inR_ex hx
    unfold nmO
    rw [hx, if_pos rfl, nI_clamp hk2]
    have hsp := spW_lt iv k
    by_cases e : w (10 + spW w k) = k
    · rw [if_pos e]
      refine fO_eq (fun i hi => decide_eq_false (fun q => ?_)) (decide_eq_true (by rw [e])) hsp
      have q2 := (nI_eq (b31 (by have := iv_low iv (i := i) (by omega); omega)) (b31 hk2)).mp q
      have := lo_lt iv hsp hi
      omega
    · rw [if_neg e]
      refine fO_no (fun i hi => decide_eq_false (fun q => ?_))
      have q2 := (nI_eq (b31 (by have := iv_low iv hi; omega)) (b31 hk2)).mp q
      exact e (sp_at iv hi q2)
theorem ct_X10_isKey {fi : FI} {fr : FR} {ai : FI} {ar : FR} {N : Nat} (x : Int32) : CP mX10_isKey 0 0 0 [.int x] fi fr ai ar N (xQ (some (.int (bI (inR x 1000)))) fi fr ai ar N) := by
  change EV mX10_isKey 0 0 0 0 [some (.int x)] [] fi fr ai ar N _
  refine e_iload_n dX10_isKey_0 rfl rfl ?_
  first | ((with_reducible refine mk_ll ?_); refine m_if_lt (tgt := 15) dX10_isKey_1 (by decide) (by omega) (by omega) (fun h1 => ?_) (fun h1 => ?_)) | ((with_reducible refine mk_lc ?_); refine l_if_lt (tgt := 15) dX10_isKey_1 (by decide) (fun h1 => ?_) (fun h1 => ?_)) | ((with_reducible refine mk_n ?_); refine n_if_lt (tgt := 15) dX10_isKey_1 (by decide) (by omega) (fun h1 => ?_) (fun h1 => ?_)) | refine e_if_lt (tgt := 15) dX10_isKey_1 (by decide) (fun h1 => ?_) (fun h1 => ?_)
  · try first | contradiction | omega
    all_goals
      refine e_iconst (v := nI 0) dX10_isKey_15 rfl ?_
      first | ((with_reducible refine mk_b ?_); refine e_ret (some _) rfl (r_bool dX10_isKey_16 rfl) ?_) | ((with_reducible refine mk_n1 ?_); refine e_ret (some _) rfl (r_b1 dX10_isKey_16 rfl) ?_) | ((with_reducible refine mk_n0 ?_); refine e_ret (some _) rfl (r_b0 dX10_isKey_16 rfl) ?_)
      refine xq ?_ rfl rfl rfl rfl rfl
      unfold inR
      simp only [Int32.lt_iff_toInt_lt, Int32.le_iff_toInt_le, z_toInt, nI_ti_1000] at *
      first | (rw [decide_eq_true (by omega)]; rfl) | (rw [decide_eq_false (by omega)]; rfl)
  · try first | contradiction | omega
    all_goals
      refine e_iload_n dX10_isKey_4 rfl rfl ?_
      refine e_sipush (v := nI 1000) dX10_isKey_5 rfl ?_
      first | ((with_reducible refine mk_nn ?_); refine n_icmp_ge (tgt := 15) dX10_isKey_8 (by decide) (by omega) (by omega) (fun h8 => ?_) (fun h8 => ?_)) | refine e_icmp_ge (tgt := 15) dX10_isKey_8 (by decide) (fun h8 => ?_) (fun h8 => ?_)
      · try first | contradiction | omega
        all_goals
          refine e_iconst (v := nI 0) dX10_isKey_15 rfl ?_
          first | ((with_reducible refine mk_b ?_); refine e_ret (some _) rfl (r_bool dX10_isKey_16 rfl) ?_) | ((with_reducible refine mk_n1 ?_); refine e_ret (some _) rfl (r_b1 dX10_isKey_16 rfl) ?_) | ((with_reducible refine mk_n0 ?_); refine e_ret (some _) rfl (r_b0 dX10_isKey_16 rfl) ?_)
          refine xq ?_ rfl rfl rfl rfl rfl
          unfold inR
          simp only [Int32.lt_iff_toInt_lt, Int32.le_iff_toInt_le, z_toInt, nI_ti_1000] at *
          first | (rw [decide_eq_true (by omega)]; rfl) | (rw [decide_eq_false (by omega)]; rfl)
      · try first | contradiction | omega
        all_goals
          refine e_iconst (v := nI 1) dX10_isKey_11 rfl ?_
          refine e_goto (tgt := 16) dX10_isKey_12 (by decide) ?_
          first | ((with_reducible refine mk_b ?_); refine e_ret (some _) rfl (r_bool dX10_isKey_16 rfl) ?_) | ((with_reducible refine mk_n1 ?_); refine e_ret (some _) rfl (r_b1 dX10_isKey_16 rfl) ?_) | ((with_reducible refine mk_n0 ?_); refine e_ret (some _) rfl (r_b0 dX10_isKey_16 rfl) ?_)
          refine xq ?_ rfl rfl rfl rfl rfl
          unfold inR
          simp only [Int32.lt_iff_toInt_lt, Int32.le_iff_toInt_le, z_toInt, nI_ti_1000] at *
          first | (rw [decide_eq_true (by omega)]; rfl) | (rw [decide_eq_false (by omega)]; rfl)
theorem ct_X10_isServer {fi : FI} {fr : FR} {ai : FI} {ar : FR} {N : Nat} (x : Int32) : CP mX10_isServer 0 0 0 [.int x] fi fr ai ar N (xQ (some (.int (bI (inR x 6)))) fi fr ai ar N) := by
  change EV mX10_isServer 0 0 0 0 [some (.int x)] [] fi fr ai ar N _
  refine e_iload_n dX10_isServer_0 rfl rfl ?_
  first | ((with_reducible refine mk_ll ?_); refine m_if_lt (tgt := 14) dX10_isServer_1 (by decide) (by omega) (by omega) (fun h1 => ?_) (fun h1 => ?_)) | ((with_reducible refine mk_lc ?_); refine l_if_lt (tgt := 14) dX10_isServer_1 (by decide) (fun h1 => ?_) (fun h1 => ?_)) | ((with_reducible refine mk_n ?_); refine n_if_lt (tgt := 14) dX10_isServer_1 (by decide) (by omega) (fun h1 => ?_) (fun h1 => ?_)) | refine e_if_lt (tgt := 14) dX10_isServer_1 (by decide) (fun h1 => ?_) (fun h1 => ?_)
  · try first | contradiction | omega
    all_goals
      refine e_iconst (v := nI 0) dX10_isServer_14 rfl ?_
      first | ((with_reducible refine mk_b ?_); refine e_ret (some _) rfl (r_bool dX10_isServer_15 rfl) ?_) | ((with_reducible refine mk_n1 ?_); refine e_ret (some _) rfl (r_b1 dX10_isServer_15 rfl) ?_) | ((with_reducible refine mk_n0 ?_); refine e_ret (some _) rfl (r_b0 dX10_isServer_15 rfl) ?_)
      refine xq ?_ rfl rfl rfl rfl rfl
      unfold inR
      simp only [Int32.lt_iff_toInt_lt, Int32.le_iff_toInt_le, z_toInt, nI_ti_6] at *
      first | (rw [decide_eq_true (by omega)]; rfl) | (rw [decide_eq_false (by omega)]; rfl)
  · try first | contradiction | omega
    all_goals
      refine e_iload_n dX10_isServer_4 rfl rfl ?_
      refine e_bipush (v := nI 6) dX10_isServer_5 rfl ?_
      first | ((with_reducible refine mk_nn ?_); refine n_icmp_ge (tgt := 14) dX10_isServer_7 (by decide) (by omega) (by omega) (fun h7 => ?_) (fun h7 => ?_)) | refine e_icmp_ge (tgt := 14) dX10_isServer_7 (by decide) (fun h7 => ?_) (fun h7 => ?_)
      · try first | contradiction | omega
        all_goals
          refine e_iconst (v := nI 0) dX10_isServer_14 rfl ?_
          first | ((with_reducible refine mk_b ?_); refine e_ret (some _) rfl (r_bool dX10_isServer_15 rfl) ?_) | ((with_reducible refine mk_n1 ?_); refine e_ret (some _) rfl (r_b1 dX10_isServer_15 rfl) ?_) | ((with_reducible refine mk_n0 ?_); refine e_ret (some _) rfl (r_b0 dX10_isServer_15 rfl) ?_)
          refine xq ?_ rfl rfl rfl rfl rfl
          unfold inR
          simp only [Int32.lt_iff_toInt_lt, Int32.le_iff_toInt_le, z_toInt, nI_ti_6] at *
          first | (rw [decide_eq_true (by omega)]; rfl) | (rw [decide_eq_false (by omega)]; rfl)
      · try first | contradiction | omega
        all_goals
          refine e_iconst (v := nI 1) dX10_isServer_10 rfl ?_
          refine e_goto (tgt := 15) dX10_isServer_11 (by decide) ?_
          first | ((with_reducible refine mk_b ?_); refine e_ret (some _) rfl (r_bool dX10_isServer_15 rfl) ?_) | ((with_reducible refine mk_n1 ?_); refine e_ret (some _) rfl (r_b1 dX10_isServer_15 rfl) ?_) | ((with_reducible refine mk_n0 ?_); refine e_ret (some _) rfl (r_b0 dX10_isServer_15 rfl) ?_)
          refine xq ?_ rfl rfl rfl rfl rfl
          unfold inR
          simp only [Int32.lt_iff_toInt_lt, Int32.le_iff_toInt_le, z_toInt, nI_ti_6] at *
          first | (rw [decide_eq_true (by omega)]; rfl) | (rw [decide_eq_false (by omega)]; rfl)
theorem ct_X10_isClient {fi : FI} {fr : FR} {ai : FI} {ar : FR} {N : Nat} (x : Int32) : CP mX10_isClient 0 0 0 [.int x] fi fr ai ar N (xQ (some (.int (bI (inR x 6)))) fi fr ai ar N) := by
  change EV mX10_isClient 0 0 0 0 [some (.int x)] [] fi fr ai ar N _
  refine e_iload_n dX10_isClient_0 rfl rfl ?_
  first | ((with_reducible refine mk_ll ?_); refine m_if_lt (tgt := 14) dX10_isClient_1 (by decide) (by omega) (by omega) (fun h1 => ?_) (fun h1 => ?_)) | ((with_reducible refine mk_lc ?_); refine l_if_lt (tgt := 14) dX10_isClient_1 (by decide) (fun h1 => ?_) (fun h1 => ?_)) | ((with_reducible refine mk_n ?_); refine n_if_lt (tgt := 14) dX10_isClient_1 (by decide) (by omega) (fun h1 => ?_) (fun h1 => ?_)) | refine e_if_lt (tgt := 14) dX10_isClient_1 (by decide) (fun h1 => ?_) (fun h1 => ?_)
  · try first | contradiction | omega
    all_goals
      refine e_iconst (v := nI 0) dX10_isClient_14 rfl ?_
      first | ((with_reducible refine mk_b ?_); refine e_ret (some _) rfl (r_bool dX10_isClient_15 rfl) ?_) | ((with_reducible refine mk_n1 ?_); refine e_ret (some _) rfl (r_b1 dX10_isClient_15 rfl) ?_) | ((with_reducible refine mk_n0 ?_); refine e_ret (some _) rfl (r_b0 dX10_isClient_15 rfl) ?_)
      refine xq ?_ rfl rfl rfl rfl rfl
      unfold inR
      simp only [Int32.lt_iff_toInt_lt, Int32.le_iff_toInt_le, z_toInt, nI_ti_6] at *
      first | (rw [decide_eq_true (by omega)]; rfl) | (rw [decide_eq_false (by omega)]; rfl)
  · try first | contradiction | omega
    all_goals
      refine e_iload_n dX10_isClient_4 rfl rfl ?_
      refine e_bipush (v := nI 6) dX10_isClient_5 rfl ?_
      first | ((with_reducible refine mk_nn ?_); refine n_icmp_ge (tgt := 14) dX10_isClient_7 (by decide) (by omega) (by omega) (fun h7 => ?_) (fun h7 => ?_)) | refine e_icmp_ge (tgt := 14) dX10_isClient_7 (by decide) (fun h7 => ?_) (fun h7 => ?_)
      · try first | contradiction | omega
        all_goals
          refine e_iconst (v := nI 0) dX10_isClient_14 rfl ?_
          first | ((with_reducible refine mk_b ?_); refine e_ret (some _) rfl (r_bool dX10_isClient_15 rfl) ?_) | ((with_reducible refine mk_n1 ?_); refine e_ret (some _) rfl (r_b1 dX10_isClient_15 rfl) ?_) | ((with_reducible refine mk_n0 ?_); refine e_ret (some _) rfl (r_b0 dX10_isClient_15 rfl) ?_)
          refine xq ?_ rfl rfl rfl rfl rfl
          unfold inR
          simp only [Int32.lt_iff_toInt_lt, Int32.le_iff_toInt_le, z_toInt, nI_ti_6] at *
          first | (rw [decide_eq_true (by omega)]; rfl) | (rw [decide_eq_false (by omega)]; rfl)
      · try first | contradiction | omega
        all_goals
          refine e_iconst (v := nI 1) dX10_isClient_10 rfl ?_
          refine e_goto (tgt := 15) dX10_isClient_11 (by decide) ?_
          first | ((with_reducible refine mk_b ?_); refine e_ret (some _) rfl (r_bool dX10_isClient_15 rfl) ?_) | ((with_reducible refine mk_n1 ?_); refine e_ret (some _) rfl (r_b1 dX10_isClient_15 rfl) ?_) | ((with_reducible refine mk_n0 ?_); refine e_ret (some _) rfl (r_b0 dX10_isClient_15 rfl) ?_)
          refine xq ?_ rfl rfl rfl rfl rfl
          unfold inR
          simp only [Int32.lt_iff_toInt_lt, Int32.le_iff_toInt_le, z_toInt, nI_ti_6] at *
          first | (rw [decide_eq_true (by omega)]; rfl) | (rw [decide_eq_false (by omega)]; rfl)
theorem ct_X8_has {fi : FI} {fr : FR} {ai : FI} {ar : FR} {N : Nat} {w lg : Nat → Nat} {E : Nat} (cm : CM fr ar) (iv : Inv w) (hK : K fi ai w lg E) (x : Int32) : CP mX8_has 0 0 0 [.ref (rf 8 4), .int x] fi fr ai ar N (xQ (some (.int (bI (inR x (w 1))))) fi fr ai ar N) := by
  have h1 := iv_n iv
  have h3 := iv_mm iv
  have bd := Bd_iv iv
  have hF : FR1 fi ai fi ai := FR1_rf
  change EV mX8_has 0 0 0 0 [some (.ref (rf 8 4)), some (.int x)] [] fi fr ai ar N (xQ (some (.int (bI (inR x (w 1))))) fi fr ai ar N)
  refine e_iload_n dX8_has_0 rfl rfl ?_
  first | ((with_reducible refine mk_ll ?_); refine m_if_lt (tgt := 16) dX8_has_1 (by decide) (by omega) (by omega) (fun h1 => ?_) (fun h1 => ?_)) | ((with_reducible refine mk_lc ?_); refine l_if_lt (tgt := 16) dX8_has_1 (by decide) (fun h1 => ?_) (fun h1 => ?_)) | ((with_reducible refine mk_n ?_); refine n_if_lt (tgt := 16) dX8_has_1 (by decide) (by omega) (fun h1 => ?_) (fun h1 => ?_)) | refine e_if_lt (tgt := 16) dX8_has_1 (by decide) (fun h1 => ?_) (fun h1 => ?_)
  · try first | contradiction | omega
    all_goals
      refine e_iconst (v := nI 0) dX8_has_16 rfl ?_
      first | ((with_reducible refine mk_b ?_); refine e_ret (some _) rfl (r_bool dX8_has_17 rfl) ?_) | ((with_reducible refine mk_n1 ?_); refine e_ret (some _) rfl (r_b1 dX8_has_17 rfl) ?_) | ((with_reducible refine mk_n0 ?_); refine e_ret (some _) rfl (r_b0 dX8_has_17 rfl) ?_)
      refine xq ?_ rfl rfl rfl rfl rfl
      unfold inR
      simp only [Int32.lt_iff_toInt_lt, Int32.le_iff_toInt_le, z_toInt, nI_toInt (b31 (show w 1 < 2147483648 by omega))] at *
      first | (rw [decide_eq_true (by omega)]; rfl) | (rw [decide_eq_false (by omega)]; rfl)
  · try first | contradiction | omega
    all_goals
      refine e_iload_n dX8_has_4 rfl rfl ?_
      refine e_aload_n dX8_has_5 rfl rfl ?_
      refine e_getE dX8_has_6 fl_X8_21 rfl (by first | exact k_n hK | exact k_cn hK (by first | omega | (simp (disch := omega) only [upN_n, upN_s]; omega)) | assumption) ?_
      first | ((with_reducible refine mk_nn ?_); refine n_icmp_ge (tgt := 16) dX8_has_9 (by decide) (by omega) (by omega) (fun h9 => ?_) (fun h9 => ?_)) | refine e_icmp_ge (tgt := 16) dX8_has_9 (by decide) (fun h9 => ?_) (fun h9 => ?_)
      · try first | contradiction | omega
        all_goals
          refine e_iconst (v := nI 0) dX8_has_16 rfl ?_
          first | ((with_reducible refine mk_b ?_); refine e_ret (some _) rfl (r_bool dX8_has_17 rfl) ?_) | ((with_reducible refine mk_n1 ?_); refine e_ret (some _) rfl (r_b1 dX8_has_17 rfl) ?_) | ((with_reducible refine mk_n0 ?_); refine e_ret (some _) rfl (r_b0 dX8_has_17 rfl) ?_)
          refine xq ?_ rfl rfl rfl rfl rfl
          unfold inR
          simp only [Int32.lt_iff_toInt_lt, Int32.le_iff_toInt_le, z_toInt, nI_toInt (b31 (show w 1 < 2147483648 by omega))] at *
          first | (rw [decide_eq_true (by omega)]; rfl) | (rw [decide_eq_false (by omega)]; rfl)
      · try first | contradiction | omega
        all_goals
          refine e_iconst (v := nI 1) dX8_has_12 rfl ?_
          refine e_goto (tgt := 17) dX8_has_13 (by decide) ?_
          first | ((with_reducible refine mk_b ?_); refine e_ret (some _) rfl (r_bool dX8_has_17 rfl) ?_) | ((with_reducible refine mk_n1 ?_); refine e_ret (some _) rfl (r_b1 dX8_has_17 rfl) ?_) | ((with_reducible refine mk_n0 ?_); refine e_ret (some _) rfl (r_b0 dX8_has_17 rfl) ?_)
          refine xq ?_ rfl rfl rfl rfl rfl
          unfold inR
          simp only [Int32.lt_iff_toInt_lt, Int32.le_iff_toInt_le, z_toInt, nI_toInt (b31 (show w 1 < 2147483648 by omega))] at *
          first | (rw [decide_eq_true (by omega)]; rfl) | (rw [decide_eq_false (by omega)]; rfl)
theorem ct_X8_endOf {fi : FI} {fr : FR} {ai : FI} {ar : FR} {N : Nat} {w lg : Nat → Nat} {E : Nat} (cm : CM fr ar) (iv : Inv w) (hK : K fi ai w lg E) {i : Nat} (hi : i < w 1) : CP mX8_endOf 0 0 0 [.ref (rf 8 4), .int (nI i)] fi fr ai ar N (xQ (some (.int (nI (enF w i)))) fi fr ai ar N) := by
  have h1 := iv_n iv
  have h3 := iv_mm iv
  have bd := Bd_iv iv
  have hF : FR1 fi ai fi ai := FR1_rf
  change EV mX8_endOf 0 0 0 0 [some (.ref (rf 8 4)), some (.int (nI i))] [] fi fr ai ar N (xQ (some (.int (nI (enF w i)))) fi fr ai ar N)
  refine e_iload_n dX8_endOf_0 rfl rfl ?_
  refine e_iconst (v := nI 1) dX8_endOf_1 rfl ?_
  first | ((with_reducible refine mk_nn ?_); refine n_iadd dX8_endOf_2 ?_) | refine e_iadd dX8_endOf_2 ?_
  refine e_aload_n dX8_endOf_3 rfl rfl ?_
  refine e_getE dX8_endOf_4 fl_X8_21 rfl (by first | exact k_n hK | exact k_cn hK (by first | omega | (simp (disch := omega) only [upN_n, upN_s]; omega)) | assumption) ?_
  first | ((with_reducible refine mk_nn ?_); refine n_icmp_ge (tgt := 21) dX8_endOf_7 (by decide) (by omega) (by omega) (fun h7 => ?_) (fun h7 => ?_)) | refine e_icmp_ge (tgt := 21) dX8_endOf_7 (by decide) (fun h7 => ?_) (fun h7 => ?_)
  · try first | contradiction | omega
    all_goals
      refine e_sipush (v := nI 1000) dX8_endOf_21 rfl ?_
      refine e_ret (some _) rfl (r_int dX8_endOf_24 rfl) ?_
      refine xq ?_ rfl rfl rfl rfl rfl
      unfold enF
      first | (rw [if_pos (by omega)]; done) | (rw [if_neg (by omega)]; done) | (rw [if_pos (by omega)]; rfl) | (rw [if_neg (by omega)]; rfl)
  · try first | contradiction | omega
    all_goals
      refine e_aload_n dX8_endOf_10 rfl rfl ?_
      refine e_getR dX8_endOf_11 fl_X8_9 rfl (by first | exact cm_tlo cm | exact cm_ctlo cm (by omega) | assumption) ?_
      refine e_iload_n dX8_endOf_14 rfl rfl ?_
      refine e_iconst (v := nI 1) dX8_endOf_15 rfl ?_
      first | ((with_reducible refine mk_nn ?_); refine n_iadd dX8_endOf_16 ?_) | refine e_iadd dX8_endOf_16 ?_
      refine e_iadE _ dX8_endOf_17 ⟨by decide, by decide⟩ rfl rfl (by simp only [lenK]; omega) (by first | exact k_lo hK (by first | omega | (simp (disch := omega) only [upN_n, upN_s]; omega)) | exact k_clo hK (by omega) (by first | omega | (simp (disch := omega) only [upN_n, upN_s]; omega)) | assumption) ?_
      refine e_goto (tgt := 24) dX8_endOf_18 (by decide) ?_
      refine e_ret (some _) rfl (r_int dX8_endOf_24 rfl) ?_
      refine xq ?_ rfl rfl rfl rfl rfl
      unfold enF
      first | (rw [if_pos (by omega)]; done) | (rw [if_neg (by omega)]; done) | (rw [if_pos (by omega)]; rfl) | (rw [if_neg (by omega)]; rfl)
def tbF (lo : Nat → Nat) (k : Nat) : Nat → Nat
  | 0 => 0
  | i + 1 => if lo (i + 1) ≤ k then i + 1 else tbF lo k i
theorem ct_tb {fi : FI} {fr : FR} {ai : FI} {ar : FR} {N : Nat} {t n k : Nat} {lo : Nat → Nat} (tl : fr (32 * 8 + 0) (rf 8 t) = some (rf 16 (t + 1))) (hn : fi (32 * 8 + 3) (rf 8 t) = nI n) (hl : ∀ i, i < n → ai (rf 16 (t + 1)) i = nI (lo i)) (h1 : 1 ≤ n) (h32 : n ≤ 32) (hlo : ∀ i, i < n → lo i < 1000) (hk : k < 1000) : CP mX8_indexOf 0 0 0 [.ref (rf 8 t), .int (nI k)] fi fr ai ar N (xQ (some (.int (nI (tbF lo k (n - 1))))) fi fr ai ar N) := by
  change EV mX8_indexOf 0 0 0 0 [some (.ref (rf 8 t)), some (.int (nI k)), none] [] fi fr ai ar N _
  have key : ∀ i, i < n → tbF lo k i = tbF lo k (n - 1) → EV mX8_indexOf 0 0 0 7 [some (.ref (rf 8 t)), some (.int (nI k)), some (.int (nI i))] [] fi fr ai ar N (xQ (some (.int (nI (tbF lo k (n - 1))))) fi fr ai ar N) := by
    intro i
    induction i with
    | zero =>
      intro hi e
      refine e_iload_n dX8_indexOf_7 rfl rfl ?_
      first | ((with_reducible refine mk_ll ?_); refine m_if_le (tgt := 29) dX8_indexOf_8 (by decide) (by omega) (by omega) (fun h8 => ?_) (fun h8 => ?_)) | ((with_reducible refine mk_lc ?_); refine l_if_le (tgt := 29) dX8_indexOf_8 (by decide) (fun h8 => ?_) (fun h8 => ?_)) | ((with_reducible refine mk_n ?_); refine n_if_le (tgt := 29) dX8_indexOf_8 (by decide) (by omega) (fun h8 => ?_) (fun h8 => ?_)) | refine e_if_le (tgt := 29) dX8_indexOf_8 (by decide) (fun h8 => ?_) (fun h8 => ?_)
      · try first | contradiction | omega
        all_goals
          refine e_iconst (v := nI 0) dX8_indexOf_29 rfl ?_
          refine e_ret (some _) rfl (r_int dX8_indexOf_30 rfl) ?_
          exact xq (by rw [← e]; rfl) rfl rfl rfl rfl rfl
      · try first | contradiction | omega
        all_goals
          refine e_aload_n dX8_indexOf_11 rfl rfl ?_
          refine e_getR dX8_indexOf_12 fl_X8_9 rfl tl ?_
          refine e_iload_n dX8_indexOf_15 rfl rfl ?_
          refine e_iadE _ dX8_indexOf_16 ⟨by decide, by decide⟩ rfl rfl (by simp only [lenK]; omega) (hl _ (by omega)) ?_
          refine e_iload_n dX8_indexOf_17 rfl rfl ?_
          first | ((with_reducible refine mk_nn ?_); refine n_icmp_gt (tgt := 23) dX8_indexOf_18 (by decide) (by omega) (by omega) (fun h18 => ?_) (fun h18 => ?_)) | refine e_icmp_gt (tgt := 23) dX8_indexOf_18 (by decide) (fun h18 => ?_) (fun h18 => ?_)
          · try first | contradiction | omega
            all_goals
              first | refine n_dec dX8_indexOf_23 rfl (Nat.le_of_ble_eq_true rfl) rfl ?_ | refine e_iinc dX8_indexOf_23 rfl rfl (Nat.le_of_ble_eq_true rfl) rfl ?_
              refine e_goto (tgt := 7) dX8_indexOf_26 (by decide) ?_
              contradiction
          · try first | contradiction | omega
            all_goals
              refine e_iload_n dX8_indexOf_21 rfl rfl ?_
              refine e_ret (some _) rfl (r_int dX8_indexOf_22 rfl) ?_
              exact xq (by rw [← e]; rfl) rfl rfl rfl rfl rfl
    | succ i ih =>
      intro hi e
      have hlo1 := hlo (i + 1) hi
      refine e_iload_n dX8_indexOf_7 rfl rfl ?_
      first | ((with_reducible refine mk_ll ?_); refine m_if_le (tgt := 29) dX8_indexOf_8 (by decide) (by omega) (by omega) (fun h8 => ?_) (fun h8 => ?_)) | ((with_reducible refine mk_lc ?_); refine l_if_le (tgt := 29) dX8_indexOf_8 (by decide) (fun h8 => ?_) (fun h8 => ?_)) | ((with_reducible refine mk_n ?_); refine n_if_le (tgt := 29) dX8_indexOf_8 (by decide) (by omega) (fun h8 => ?_) (fun h8 => ?_)) | refine e_if_le (tgt := 29) dX8_indexOf_8 (by decide) (fun h8 => ?_) (fun h8 => ?_)
      · try first | contradiction | omega
        all_goals
          refine e_iconst (v := nI 0) dX8_indexOf_29 rfl ?_
          refine e_ret (some _) rfl (r_int dX8_indexOf_30 rfl) ?_
          exact xq (by rw [← e]; unfold tbF; rw [if_pos (by omega)]) rfl rfl rfl rfl rfl
      · try first | contradiction | omega
        all_goals
          refine e_aload_n dX8_indexOf_11 rfl rfl ?_
          refine e_getR dX8_indexOf_12 fl_X8_9 rfl tl ?_
          refine e_iload_n dX8_indexOf_15 rfl rfl ?_
          refine e_iadE _ dX8_indexOf_16 ⟨by decide, by decide⟩ rfl rfl (by simp only [lenK]; omega) (hl _ (by omega)) ?_
          refine e_iload_n dX8_indexOf_17 rfl rfl ?_
          first | ((with_reducible refine mk_nn ?_); refine n_icmp_gt (tgt := 23) dX8_indexOf_18 (by decide) (by omega) (by omega) (fun h18 => ?_) (fun h18 => ?_)) | refine e_icmp_gt (tgt := 23) dX8_indexOf_18 (by decide) (fun h18 => ?_) (fun h18 => ?_)
          · try first | contradiction | omega
            all_goals
              first | refine n_dec dX8_indexOf_23 rfl (Nat.le_of_ble_eq_true rfl) rfl ?_ | refine e_iinc dX8_indexOf_23 rfl rfl (Nat.le_of_ble_eq_true rfl) rfl ?_
              refine e_goto (tgt := 7) dX8_indexOf_26 (by decide) ?_
              refine ih (by omega) ?_
              rw [← e]
              conv => rhs; unfold tbF
              rw [if_neg (by omega)]
          · try first | contradiction | omega
            all_goals
              refine e_iload_n dX8_indexOf_21 rfl rfl ?_
              refine e_ret (some _) rfl (r_int dX8_indexOf_22 rfl) ?_
              exact xq (by rw [← e]; unfold tbF; rw [if_pos (by omega)]) rfl rfl rfl rfl rfl
  refine e_aload_n dX8_indexOf_0 rfl rfl ?_
  refine e_getE dX8_indexOf_1 fl_X8_21 rfl hn ?_
  refine e_iconst (v := nI 1) dX8_indexOf_4 rfl ?_
  first | ((with_reducible refine mk_nn ?_); refine n_isub dX8_indexOf_5 (by omega) ?_) | refine e_isub dX8_indexOf_5 ?_
  refine e_istore_n dX8_indexOf_6 rfl (Nat.le_of_ble_eq_true rfl) rfl ?_
  exact key (n - 1) (by omega) rfl
theorem tbF_spF (w : Nat → Nat) (k : Nat) : ∀ i, tbF (fun i => w (10 + i)) k i = spF w k i
  | 0 => rfl
  | i + 1 => by unfold tbF spF; rw [tbF_spF w k i]
theorem ct_X8_indexOf {fi : FI} {fr : FR} {ai : FI} {ar : FR} {N : Nat} {w lg : Nat → Nat} {E : Nat} (cm : CM fr ar) (iv : Inv w) (hK : K fi ai w lg E) {k : Nat} (hk : k < 1000) : CP mX8_indexOf 0 0 0 [.ref (rf 8 4), .int (nI k)] fi fr ai ar N (xQ (some (.int (nI (spW w k)))) fi fr ai ar N) := by
  have h1 := iv_n iv
  have := ct_tb (ar := ar) (N := N) (lo := fun i => w (10 + i)) (k := k) (cm_tlo cm) (k_n hK) (fun i hi => k_lo hK hi) h1.1 h1.2 (fun i hi => iv_low iv hi) hk
  rw [tbF_spF] at this
  exact this
theorem tbF_cF (w : Nat → Nat) (c k : Nat) : ∀ i, tbF (fun i => w (7106 + 98 * c + 2 + i)) k i = cF w c k i
  | 0 => rfl
  | i + 1 => by unfold tbF cF; rw [tbF_cF w c k i]
theorem ct_cX8_indexOf {fi : FI} {fr : FR} {ai : FI} {ar : FR} {N : Nat} {w lg : Nat → Nat} {E : Nat} (cm : CM fr ar) (iv : Inv w) (hK : K fi ai w lg E) {c k : Nat} (hc : c < 6) (hk : k < 1000) (h0 : 1 ≤ w (7106 + 98 * c + 1)) : CP mX8_indexOf 0 0 0 [.ref (rf 8 (10 + 4 * c)), .int (nI k)] fi fr ai ar N (xQ (some (.int (nI (cW w c k)))) fi fr ai ar N) := by
  have h1 := iv_cl iv hc
  have := ct_tb (ar := ar) (N := N) (lo := fun i => w (7106 + 98 * c + 2 + i)) (k := k) (cm_ctlo cm hc) (k_cn hK hc) (fun i hi => k_clo hK hc hi) h0 h1.1 (fun i hi => (h1.2.2.2.2 i hi).1) hk
  rw [tbF_cF] at this
  exact this
theorem ct_X8_indexOfLow {fi : FI} {fr : FR} {ai : FI} {ar : FR} {N : Nat} {w lg : Nat → Nat} {E : Nat} (cm : CM fr ar) (iv : Inv w) (hK : K fi ai w lg E) (x : Int32) : CP mX8_indexOfLow 0 0 0 [.ref (rf 8 4), .int x] fi fr ai ar N (xQ (some (.int (oI (nmO w x)))) fi fr ai ar N) := by
  have h1 := iv_n iv
  have h3 := iv_mm iv
  have bd := Bd_iv iv
  have hF : FR1 fi ai fi ai := FR1_rf
  change EV mX8_indexOfLow 0 0 0 0 [some (.ref (rf 8 4)), some (.int x), none] [] fi fr ai ar N (xQ (some (.int (oI (nmO w x)))) fi fr ai ar N)
  rw [← nmO_fO iv x]
  have key := ev_up (P := (fun j => (∀ i, i < j → ¬ nI (w (10 + i)) = x) → EV mX8_indexOfLow 0 0 0 2 [some (.ref (rf 8 4)), some (.int (x)), some (.int (nI j))] [] fi fr ai ar N (xQ (some (.int (oI (fO (fun i => decide (nI (w (10 + i)) = x)) (w 1))))) fi fr ai ar N))) (w 1) (fun j hj ih hn => by
    refine e_iload_n dX8_indexOfLow_2 rfl rfl ?_
    refine e_aload_n dX8_indexOfLow_3 rfl rfl ?_
    refine e_getE dX8_indexOfLow_4 fl_X8_21 rfl (by first | exact k_n hK | exact k_cn hK (by first | omega | (simp (disch := omega) only [upN_n, upN_s]; omega)) | assumption) ?_
    first | ((with_reducible refine mk_nn ?_); refine n_icmp_ge (tgt := 28) dX8_indexOfLow_7 (by decide) (by omega) (by omega) (fun h7 => ?_) (fun h7 => ?_)) | refine e_icmp_ge (tgt := 28) dX8_indexOfLow_7 (by decide) (fun h7 => ?_) (fun h7 => ?_)
    · try first | contradiction | omega
      all_goals
        refine e_iconst (v := -1) dX8_indexOfLow_28 rfl ?_
        refine e_ret (some _) rfl (r_int dX8_indexOfLow_29 rfl) ?_
        refine xq ?_ rfl rfl rfl rfl rfl
        rw [fO_eq (i := j) (fun i hi => decide_eq_false (hn i hi)) (decide_eq_true (by assumption)) hj]
        rfl
    · try first | contradiction | omega
      all_goals
        refine e_aload_n dX8_indexOfLow_10 rfl rfl ?_
        refine e_getR dX8_indexOfLow_11 fl_X8_9 rfl (by first | exact cm_tlo cm | exact cm_ctlo cm (by omega) | assumption) ?_
        refine e_iload_n dX8_indexOfLow_14 rfl rfl ?_
        refine e_iadE _ dX8_indexOfLow_15 ⟨by decide, by decide⟩ rfl rfl (by simp only [lenK]; omega) (by first | exact k_lo hK (by first | omega | (simp (disch := omega) only [upN_n, upN_s]; omega)) | exact k_clo hK (by omega) (by first | omega | (simp (disch := omega) only [upN_n, upN_s]; omega)) | assumption) ?_
        refine e_iload_n dX8_indexOfLow_16 rfl rfl ?_
        first | ((with_reducible refine mk_mo ?_); refine p_icmp_ne (tgt := 22) dX8_indexOfLow_17 (by decide) (fun h17 => ?_) (fun h17 => ?_)) | ((with_reducible refine mk_ms ?_); refine s_icmp_ne (tgt := 22) dX8_indexOfLow_17 (by decide) (by omega) (fun h17 => ?_) (fun h17 => ?_)) | ((with_reducible refine mk_mn ?_); refine q_icmp_ne (tgt := 22) dX8_indexOfLow_17 (by decide) (by omega) (fun h17 => ?_) (fun h17 => ?_)) | ((with_reducible refine mk_nn ?_); refine n_icmp_ne (tgt := 22) dX8_indexOfLow_17 (by decide) (by omega) (by omega) (fun h17 => ?_) (fun h17 => ?_)) | refine e_icmp_ne (tgt := 22) dX8_indexOfLow_17 (by decide) (fun h17 => ?_) (fun h17 => ?_)
        · try first | contradiction | omega
          all_goals
            first | refine n_inc dX8_indexOfLow_22 rfl (Nat.le_of_ble_eq_true rfl) rfl ?_ | refine e_iinc dX8_indexOfLow_22 rfl rfl (Nat.le_of_ble_eq_true rfl) rfl ?_
            refine e_goto (tgt := 2) dX8_indexOfLow_25 (by decide) ?_
            refine ih (fun i hi => ?_)
            by_cases e : i = j
            · subst e; assumption
            · exact hn i (by omega)
        · try first | contradiction | omega
          all_goals
            refine e_iload_n dX8_indexOfLow_20 rfl rfl ?_
            refine e_ret (some _) rfl (r_int dX8_indexOfLow_21 rfl) ?_
            refine xq ?_ rfl rfl rfl rfl rfl
            rw [fO_eq (i := j) (fun i hi => decide_eq_false (hn i hi)) (decide_eq_true (by assumption)) hj]
            rfl
    ) (fun hn => by
    refine e_iload_n dX8_indexOfLow_2 rfl rfl ?_
    refine e_aload_n dX8_indexOfLow_3 rfl rfl ?_
    refine e_getE dX8_indexOfLow_4 fl_X8_21 rfl (by first | exact k_n hK | exact k_cn hK (by first | omega | (simp (disch := omega) only [upN_n, upN_s]; omega)) | assumption) ?_
    first | ((with_reducible refine mk_nn ?_); refine n_icmp_ge (tgt := 28) dX8_indexOfLow_7 (by decide) (by omega) (by omega) (fun h7 => ?_) (fun h7 => ?_)) | refine e_icmp_ge (tgt := 28) dX8_indexOfLow_7 (by decide) (fun h7 => ?_) (fun h7 => ?_)
    · try first | contradiction | omega
      all_goals
        refine e_iconst (v := -1) dX8_indexOfLow_28 rfl ?_
        refine e_ret (some _) rfl (r_int dX8_indexOfLow_29 rfl) ?_
        refine xq ?_ rfl rfl rfl rfl rfl
        rw [fO_no (fun i hi => decide_eq_false (hn i hi))]
        rfl
    · try first | contradiction | omega
      all_goals
        refine e_aload_n dX8_indexOfLow_10 rfl rfl ?_
        refine e_getR dX8_indexOfLow_11 fl_X8_9 rfl (by first | exact cm_tlo cm | exact cm_ctlo cm (by omega) | assumption) ?_
        refine e_iload_n dX8_indexOfLow_14 rfl rfl ?_
        refine e_iadE _ dX8_indexOfLow_15 ⟨by decide, by decide⟩ rfl rfl (by simp only [lenK]; omega) (by first | exact k_lo hK (by first | omega | (simp (disch := omega) only [upN_n, upN_s]; omega)) | exact k_clo hK (by omega) (by first | omega | (simp (disch := omega) only [upN_n, upN_s]; omega)) | assumption) ?_
        refine e_iload_n dX8_indexOfLow_16 rfl rfl ?_
        first | ((with_reducible refine mk_mo ?_); refine p_icmp_ne (tgt := 22) dX8_indexOfLow_17 (by decide) (fun h17 => ?_) (fun h17 => ?_)) | ((with_reducible refine mk_ms ?_); refine s_icmp_ne (tgt := 22) dX8_indexOfLow_17 (by decide) (by omega) (fun h17 => ?_) (fun h17 => ?_)) | ((with_reducible refine mk_mn ?_); refine q_icmp_ne (tgt := 22) dX8_indexOfLow_17 (by decide) (by omega) (fun h17 => ?_) (fun h17 => ?_)) | ((with_reducible refine mk_nn ?_); refine n_icmp_ne (tgt := 22) dX8_indexOfLow_17 (by decide) (by omega) (by omega) (fun h17 => ?_) (fun h17 => ?_)) | refine e_icmp_ne (tgt := 22) dX8_indexOfLow_17 (by decide) (fun h17 => ?_) (fun h17 => ?_)
        · try first | contradiction | omega
          all_goals
            first | refine n_inc dX8_indexOfLow_22 rfl (Nat.le_of_ble_eq_true rfl) rfl ?_ | refine e_iinc dX8_indexOfLow_22 rfl rfl (Nat.le_of_ble_eq_true rfl) rfl ?_
            refine e_goto (tgt := 2) dX8_indexOfLow_25 (by decide) ?_
            refine ih (fun i hi => ?_)
            by_cases e : i = j
            · subst e; assumption
            · exact hn i (by omega)
        · try first | contradiction | omega
          all_goals
            refine e_iload_n dX8_indexOfLow_20 rfl rfl ?_
            refine e_ret (some _) rfl (r_int dX8_indexOfLow_21 rfl) ?_
            refine xq ?_ rfl rfl rfl rfl rfl
            rw [fO_no (fun i hi => decide_eq_false (hn i hi))]
            rfl
    )
  refine e_iconst (v := nI 0) dX8_indexOfLow_0 rfl ?_
  refine e_istore_n dX8_indexOfLow_1 rfl (Nat.le_of_ble_eq_true rfl) rfl ?_
  exact key 0 (by omega) (fun i hi => absurd hi (by omega))
theorem ct_X8_ownedBy {fi : FI} {fr : FR} {ai : FI} {ar : FR} {N : Nat} {w lg : Nat → Nat} {E : Nat} (cm : CM fr ar) (iv : Inv w) (hK : K fi ai w lg E) {s : Nat} (hs : s < 6) : CP mX8_ownedBy 0 0 0 [.ref (rf 8 4), .int (nI s)] fi fr ai ar N (xQ (some (.int (nI (cnt (fun i => decide (w (42 + i) = s)) (w 1))))) fi fr ai ar N) := by
  have h1 := iv_n iv
  have h3 := iv_mm iv
  have bd := Bd_iv iv
  have hF : FR1 fi ai fi ai := FR1_rf
  change EV mX8_ownedBy 0 0 0 0 [some (.ref (rf 8 4)), some (.int (nI s)), none, none] [] fi fr ai ar N (xQ (some (.int (nI (cnt (fun i => decide (w (42 + i) = s)) (w 1))))) fi fr ai ar N)
  have key := ev_up (P := (fun j => EV mX8_ownedBy 0 0 0 4 [some (.ref (rf 8 4)), some (.int (nI s)), some (.int (nI (cnt (fun i => decide (w (42 + i) = s)) j))), some (.int (nI j))] [] fi fr ai ar N (xQ (some (.int (nI (cnt (fun i => decide (w (42 + i) = s)) (w 1))))) fi fr ai ar N))) (w 1) (fun j hj ih => by
    have ho := iv_own iv hj
    refine e_iload_n dX8_ownedBy_4 rfl rfl ?_
    refine e_aload_n dX8_ownedBy_5 rfl rfl ?_
    refine e_getE dX8_ownedBy_6 fl_X8_21 rfl (by first | exact k_n hK | exact k_cn hK (by first | omega | (simp (disch := omega) only [upN_n, upN_s]; omega)) | assumption) ?_
    first | ((with_reducible refine mk_nn ?_); refine n_icmp_ge (tgt := 31) dX8_ownedBy_9 (by decide) (by omega) (by omega) (fun h9 => ?_) (fun h9 => ?_)) | refine e_icmp_ge (tgt := 31) dX8_ownedBy_9 (by decide) (fun h9 => ?_) (fun h9 => ?_)
    · try first | contradiction | omega
      all_goals
        refine e_iload_n dX8_ownedBy_31 rfl rfl ?_
        refine e_ret (some _) rfl (r_int dX8_ownedBy_32 rfl) ?_
        exact xq (by first | rfl | simp_all [bI_t, bI_f]) rfl rfl rfl rfl rfl
    · try first | contradiction | omega
      all_goals
        refine e_aload_n dX8_ownedBy_12 rfl rfl ?_
        refine e_getR dX8_ownedBy_13 fl_X8_15 rfl (by first | exact cm_tow cm | exact cm_ctow cm (by omega) | assumption) ?_
        refine e_iload_n dX8_ownedBy_16 rfl rfl ?_
        refine e_iadE _ dX8_ownedBy_17 ⟨by decide, by decide⟩ rfl rfl (by simp only [lenK]; omega) (by first | exact k_ow hK (by first | omega | (simp (disch := omega) only [upN_n, upN_s]; omega)) | exact k_cow hK (by omega) (by first | omega | (simp (disch := omega) only [upN_n, upN_s]; omega)) | assumption) ?_
        refine e_iload_n dX8_ownedBy_18 rfl rfl ?_
        first | ((with_reducible refine mk_mo ?_); refine p_icmp_ne (tgt := 25) dX8_ownedBy_19 (by decide) (fun h19 => ?_) (fun h19 => ?_)) | ((with_reducible refine mk_ms ?_); refine s_icmp_ne (tgt := 25) dX8_ownedBy_19 (by decide) (by omega) (fun h19 => ?_) (fun h19 => ?_)) | ((with_reducible refine mk_mn ?_); refine q_icmp_ne (tgt := 25) dX8_ownedBy_19 (by decide) (by omega) (fun h19 => ?_) (fun h19 => ?_)) | ((with_reducible refine mk_nn ?_); refine n_icmp_ne (tgt := 25) dX8_ownedBy_19 (by decide) (by omega) (by omega) (fun h19 => ?_) (fun h19 => ?_)) | refine e_icmp_ne (tgt := 25) dX8_ownedBy_19 (by decide) (fun h19 => ?_) (fun h19 => ?_)
        · try first | contradiction | omega
          all_goals
            first | refine n_inc dX8_ownedBy_25 rfl (Nat.le_of_ble_eq_true rfl) rfl ?_ | refine e_iinc dX8_ownedBy_25 rfl rfl (Nat.le_of_ble_eq_true rfl) rfl ?_
            refine e_goto (tgt := 4) dX8_ownedBy_28 (by decide) ?_
            first | (rw [cnt_t (n := j) (p := fun i => decide (w (42 + i) = s)) (by simp_all)] at ih; exact ih) | (rw [cnt_f (n := j) (p := fun i => decide (w (42 + i) = s)) (by simp_all)] at ih; exact ih)
        · try first | contradiction | omega
          all_goals
            first | refine n_inc dX8_ownedBy_22 rfl (Nat.le_of_ble_eq_true rfl) rfl ?_ | refine e_iinc dX8_ownedBy_22 rfl rfl (Nat.le_of_ble_eq_true rfl) rfl ?_
            first | refine n_inc dX8_ownedBy_25 rfl (Nat.le_of_ble_eq_true rfl) rfl ?_ | refine e_iinc dX8_ownedBy_25 rfl rfl (Nat.le_of_ble_eq_true rfl) rfl ?_
            refine e_goto (tgt := 4) dX8_ownedBy_28 (by decide) ?_
            first | (rw [cnt_t (n := j) (p := fun i => decide (w (42 + i) = s)) (by simp_all)] at ih; exact ih) | (rw [cnt_f (n := j) (p := fun i => decide (w (42 + i) = s)) (by simp_all)] at ih; exact ih)
    ) (by
    refine e_iload_n dX8_ownedBy_4 rfl rfl ?_
    refine e_aload_n dX8_ownedBy_5 rfl rfl ?_
    refine e_getE dX8_ownedBy_6 fl_X8_21 rfl (by first | exact k_n hK | exact k_cn hK (by first | omega | (simp (disch := omega) only [upN_n, upN_s]; omega)) | assumption) ?_
    first | ((with_reducible refine mk_nn ?_); refine n_icmp_ge (tgt := 31) dX8_ownedBy_9 (by decide) (by omega) (by omega) (fun h9 => ?_) (fun h9 => ?_)) | refine e_icmp_ge (tgt := 31) dX8_ownedBy_9 (by decide) (fun h9 => ?_) (fun h9 => ?_)
    · try first | contradiction | omega
      all_goals
        refine e_iload_n dX8_ownedBy_31 rfl rfl ?_
        refine e_ret (some _) rfl (r_int dX8_ownedBy_32 rfl) ?_
        exact xq rfl rfl rfl rfl rfl rfl
    · try first | contradiction | omega
      all_goals
        refine e_aload_n dX8_ownedBy_12 rfl rfl ?_
        refine e_getR dX8_ownedBy_13 fl_X8_15 rfl (by first | exact cm_tow cm | exact cm_ctow cm (by omega) | assumption) ?_
        refine e_iload_n dX8_ownedBy_16 rfl rfl ?_
        refine e_iadE _ dX8_ownedBy_17 ⟨by decide, by decide⟩ rfl rfl (by simp only [lenK]; omega) (by first | exact k_ow hK (by first | omega | (simp (disch := omega) only [upN_n, upN_s]; omega)) | exact k_cow hK (by omega) (by first | omega | (simp (disch := omega) only [upN_n, upN_s]; omega)) | assumption) ?_
        refine e_iload_n dX8_ownedBy_18 rfl rfl ?_
        first | ((with_reducible refine mk_mo ?_); refine p_icmp_ne (tgt := 25) dX8_ownedBy_19 (by decide) (fun h19 => ?_) (fun h19 => ?_)) | ((with_reducible refine mk_ms ?_); refine s_icmp_ne (tgt := 25) dX8_ownedBy_19 (by decide) (by omega) (fun h19 => ?_) (fun h19 => ?_)) | ((with_reducible refine mk_mn ?_); refine q_icmp_ne (tgt := 25) dX8_ownedBy_19 (by decide) (by omega) (fun h19 => ?_) (fun h19 => ?_)) | ((with_reducible refine mk_nn ?_); refine n_icmp_ne (tgt := 25) dX8_ownedBy_19 (by decide) (by omega) (by omega) (fun h19 => ?_) (fun h19 => ?_)) | refine e_icmp_ne (tgt := 25) dX8_ownedBy_19 (by decide) (fun h19 => ?_) (fun h19 => ?_)
        · try first | contradiction | omega
          all_goals
            first | refine n_inc dX8_ownedBy_25 rfl (Nat.le_of_ble_eq_true rfl) rfl ?_ | refine e_iinc dX8_ownedBy_25 rfl rfl (Nat.le_of_ble_eq_true rfl) rfl ?_
            refine e_goto (tgt := 4) dX8_ownedBy_28 (by decide) ?_
            first | (rw [cnt_t (n := j) (p := fun i => decide (w (42 + i) = s)) (by simp_all)] at ih; exact ih) | (rw [cnt_f (n := j) (p := fun i => decide (w (42 + i) = s)) (by simp_all)] at ih; exact ih)
        · try first | contradiction | omega
          all_goals
            first | refine n_inc dX8_ownedBy_22 rfl (Nat.le_of_ble_eq_true rfl) rfl ?_ | refine e_iinc dX8_ownedBy_22 rfl rfl (Nat.le_of_ble_eq_true rfl) rfl ?_
            first | refine n_inc dX8_ownedBy_25 rfl (Nat.le_of_ble_eq_true rfl) rfl ?_ | refine e_iinc dX8_ownedBy_25 rfl rfl (Nat.le_of_ble_eq_true rfl) rfl ?_
            refine e_goto (tgt := 4) dX8_ownedBy_28 (by decide) ?_
            first | (rw [cnt_t (n := j) (p := fun i => decide (w (42 + i) = s)) (by simp_all)] at ih; exact ih) | (rw [cnt_f (n := j) (p := fun i => decide (w (42 + i) = s)) (by simp_all)] at ih; exact ih)
    )
  refine e_iconst (v := nI 0) dX8_ownedBy_0 rfl ?_
  refine e_istore_n dX8_ownedBy_1 rfl (Nat.le_of_ble_eq_true rfl) rfl ?_
  refine e_iconst (v := nI 0) dX8_ownedBy_2 rfl ?_
  refine e_istore_n dX8_ownedBy_3 rfl (Nat.le_of_ble_eq_true rfl) rfl ?_
  exact key 0 (by omega)
theorem ct_X4_goesOn {fi : FI} {fr : FR} {ai : FI} {ar : FR} {N : Nat} {w lg : Nat → Nat} {E : Nat} (cm : CM fr ar) (iv : Inv w) (hK : K fi ai w lg E) {m : Nat} (hm : m < w 3) : CP mX4_goesOn 0 0 0 [.ref (rf 4 (34 + 2 * m))] fi fr ai ar N (xQ (some (.int (bI (goB w m)))) fi fr ai ar N) := by
  have h1 := iv_n iv
  have h3 := iv_mm iv
  have bd := Bd_iv iv
  have hF : FR1 fi ai fi ai := FR1_rf
  have hq := iv_mv iv hm
  change EV mX4_goesOn 0 0 0 0 [some (.ref (rf 4 (34 + 2 * m)))] [] fi fr ai ar N (xQ (some (.int (bI (goB w m)))) fi fr ai ar N)
  refine e_aload_n dX4_goesOn_0 rfl rfl ?_
  refine e_getE dX4_goesOn_1 fl_X4_28 rfl (k_m2 hK (by first | omega | (simp (disch := omega) only [upN_n, upN_s]; omega))) ?_
  refine e_iconst (v := nI 1) dX4_goesOn_4 rfl ?_
  first | ((with_reducible refine mk_nn ?_); refine n_icmp_lt (tgt := 20) dX4_goesOn_5 (by decide) (by omega) (by omega) (fun h5 => ?_) (fun h5 => ?_)) | refine e_icmp_lt (tgt := 20) dX4_goesOn_5 (by decide) (fun h5 => ?_) (fun h5 => ?_)
  · try first | contradiction | omega
    all_goals
      refine e_iconst (v := nI 0) dX4_goesOn_20 rfl ?_
      first | ((with_reducible refine mk_b ?_); refine e_ret (some _) rfl (r_bool dX4_goesOn_21 rfl) ?_) | ((with_reducible refine mk_n1 ?_); refine e_ret (some _) rfl (r_b1 dX4_goesOn_21 rfl) ?_) | ((with_reducible refine mk_n0 ?_); refine e_ret (some _) rfl (r_b0 dX4_goesOn_21 rfl) ?_)
      refine xq ?_ rfl rfl rfl rfl rfl
      unfold goB
      first | (rw [decide_eq_true (by omega)]; rfl) | (rw [decide_eq_false (by omega)]; rfl)
  · try first | contradiction | omega
    all_goals
      refine e_aload_n dX4_goesOn_8 rfl rfl ?_
      refine e_getE dX4_goesOn_9 fl_X4_28 rfl (k_m2 hK (by first | omega | (simp (disch := omega) only [upN_n, upN_s]; omega))) ?_
      refine e_iconst (v := nI 4) dX4_goesOn_12 rfl ?_
      first | ((with_reducible refine mk_nn ?_); refine n_icmp_gt (tgt := 20) dX4_goesOn_13 (by decide) (by omega) (by omega) (fun h13 => ?_) (fun h13 => ?_)) | refine e_icmp_gt (tgt := 20) dX4_goesOn_13 (by decide) (fun h13 => ?_) (fun h13 => ?_)
      · try first | contradiction | omega
        all_goals
          refine e_iconst (v := nI 0) dX4_goesOn_20 rfl ?_
          first | ((with_reducible refine mk_b ?_); refine e_ret (some _) rfl (r_bool dX4_goesOn_21 rfl) ?_) | ((with_reducible refine mk_n1 ?_); refine e_ret (some _) rfl (r_b1 dX4_goesOn_21 rfl) ?_) | ((with_reducible refine mk_n0 ?_); refine e_ret (some _) rfl (r_b0 dX4_goesOn_21 rfl) ?_)
          refine xq ?_ rfl rfl rfl rfl rfl
          unfold goB
          first | (rw [decide_eq_true (by omega)]; rfl) | (rw [decide_eq_false (by omega)]; rfl)
      · try first | contradiction | omega
        all_goals
          refine e_iconst (v := nI 1) dX4_goesOn_16 rfl ?_
          refine e_goto (tgt := 21) dX4_goesOn_17 (by decide) ?_
          first | ((with_reducible refine mk_b ?_); refine e_ret (some _) rfl (r_bool dX4_goesOn_21 rfl) ?_) | ((with_reducible refine mk_n1 ?_); refine e_ret (some _) rfl (r_b1 dX4_goesOn_21 rfl) ?_) | ((with_reducible refine mk_n0 ?_); refine e_ret (some _) rfl (r_b0 dX4_goesOn_21 rfl) ?_)
          refine xq ?_ rfl rfl rfl rfl rfl
          unfold goB
          first | (rw [decide_eq_true (by omega)]; rfl) | (rw [decide_eq_false (by omega)]; rfl)
theorem ct_X4_covers {fi : FI} {fr : FR} {ai : FI} {ar : FR} {N : Nat} {w lg : Nat → Nat} {E : Nat} (cm : CM fr ar) (iv : Inv w) (hK : K fi ai w lg E) {m k : Nat} (hm : m < w 3) (hk : k < 1000) : CP mX4_covers 0 0 0 [.ref (rf 4 (34 + 2 * m)), .int (nI k)] fi fr ai ar N (xQ (some (.int (bI (decide (w (7694 + 72 * m + 1) ≤ k ∧ k < w (7694 + 72 * m + 2)))))) fi fr ai ar N) := by
  have h1 := iv_n iv
  have h3 := iv_mm iv
  have bd := Bd_iv iv
  have hF : FR1 fi ai fi ai := FR1_rf
  have hq := iv_mv iv hm
  change EV mX4_covers 0 0 0 0 [some (.ref (rf 4 (34 + 2 * m))), some (.int (nI k))] [] fi fr ai ar N (xQ (some (.int (bI (decide (w (7694 + 72 * m + 1) ≤ k ∧ k < w (7694 + 72 * m + 2)))))) fi fr ai ar N)
  refine e_iload_n dX4_covers_0 rfl rfl ?_
  refine e_aload_n dX4_covers_1 rfl rfl ?_
  refine e_getE dX4_covers_2 fl_X4_15 rfl (k_m3 hK (by first | omega | (simp (disch := omega) only [upN_n, upN_s]; omega))) ?_
  first | ((with_reducible refine mk_nn ?_); refine n_icmp_lt (tgt := 20) dX4_covers_5 (by decide) (by omega) (by omega) (fun h5 => ?_) (fun h5 => ?_)) | refine e_icmp_lt (tgt := 20) dX4_covers_5 (by decide) (fun h5 => ?_) (fun h5 => ?_)
  · try first | contradiction | omega
    all_goals
      refine e_iconst (v := nI 0) dX4_covers_20 rfl ?_
      first | ((with_reducible refine mk_b ?_); refine e_ret (some _) rfl (r_bool dX4_covers_21 rfl) ?_) | ((with_reducible refine mk_n1 ?_); refine e_ret (some _) rfl (r_b1 dX4_covers_21 rfl) ?_) | ((with_reducible refine mk_n0 ?_); refine e_ret (some _) rfl (r_b0 dX4_covers_21 rfl) ?_)
      refine xq ?_ rfl rfl rfl rfl rfl
      first | (rw [decide_eq_true (by omega)]; rfl) | (rw [decide_eq_false (by omega)]; rfl)
  · try first | contradiction | omega
    all_goals
      refine e_iload_n dX4_covers_8 rfl rfl ?_
      refine e_aload_n dX4_covers_9 rfl rfl ?_
      refine e_getE dX4_covers_10 fl_X4_19 rfl (k_m4 hK (by first | omega | (simp (disch := omega) only [upN_n, upN_s]; omega))) ?_
      first | ((with_reducible refine mk_nn ?_); refine n_icmp_ge (tgt := 20) dX4_covers_13 (by decide) (by omega) (by omega) (fun h13 => ?_) (fun h13 => ?_)) | refine e_icmp_ge (tgt := 20) dX4_covers_13 (by decide) (fun h13 => ?_) (fun h13 => ?_)
      · try first | contradiction | omega
        all_goals
          refine e_iconst (v := nI 0) dX4_covers_20 rfl ?_
          first | ((with_reducible refine mk_b ?_); refine e_ret (some _) rfl (r_bool dX4_covers_21 rfl) ?_) | ((with_reducible refine mk_n1 ?_); refine e_ret (some _) rfl (r_b1 dX4_covers_21 rfl) ?_) | ((with_reducible refine mk_n0 ?_); refine e_ret (some _) rfl (r_b0 dX4_covers_21 rfl) ?_)
          refine xq ?_ rfl rfl rfl rfl rfl
          first | (rw [decide_eq_true (by omega)]; rfl) | (rw [decide_eq_false (by omega)]; rfl)
      · try first | contradiction | omega
        all_goals
          refine e_iconst (v := nI 1) dX4_covers_16 rfl ?_
          refine e_goto (tgt := 21) dX4_covers_17 (by decide) ?_
          first | ((with_reducible refine mk_b ?_); refine e_ret (some _) rfl (r_bool dX4_covers_21 rfl) ?_) | ((with_reducible refine mk_n1 ?_); refine e_ret (some _) rfl (r_b1 dX4_covers_21 rfl) ?_) | ((with_reducible refine mk_n0 ?_); refine e_ret (some _) rfl (r_b0 dX4_covers_21 rfl) ?_)
          refine xq ?_ rfl rfl rfl rfl rfl
          first | (rw [decide_eq_true (by omega)]; rfl) | (rw [decide_eq_false (by omega)]; rfl)
theorem ct_X4_takesTrail {fi : FI} {fr : FR} {ai : FI} {ar : FR} {N : Nat} {w lg : Nat → Nat} {E : Nat} (cm : CM fr ar) (iv : Inv w) (hK : K fi ai w lg E) {m : Nat} (hm : m < w 3) : CP mX4_takesTrail 0 0 0 [.ref (rf 4 (34 + 2 * m))] fi fr ai ar N (xQ (some (.int (bI (decide (w (7694 + 72 * m + 0) = 1 ∨ w (7694 + 72 * m + 0) = 2))))) fi fr ai ar N) := by
  have h1 := iv_n iv
  have h3 := iv_mm iv
  have bd := Bd_iv iv
  have hF : FR1 fi ai fi ai := FR1_rf
  have hq := iv_mv iv hm
  change EV mX4_takesTrail 0 0 0 0 [some (.ref (rf 4 (34 + 2 * m)))] [] fi fr ai ar N (xQ (some (.int (bI (decide (w (7694 + 72 * m + 0) = 1 ∨ w (7694 + 72 * m + 0) = 2))))) fi fr ai ar N)
  refine e_aload_n dX4_takesTrail_0 rfl rfl ?_
  refine e_getE dX4_takesTrail_1 fl_X4_28 rfl (k_m2 hK (by first | omega | (simp (disch := omega) only [upN_n, upN_s]; omega))) ?_
  refine e_iconst (v := nI 1) dX4_takesTrail_4 rfl ?_
  first | ((with_reducible refine mk_mo ?_); refine p_icmp_eq (tgt := 16) dX4_takesTrail_5 (by decide) (fun h5 => ?_) (fun h5 => ?_)) | ((with_reducible refine mk_ms ?_); refine s_icmp_eq (tgt := 16) dX4_takesTrail_5 (by decide) (by omega) (fun h5 => ?_) (fun h5 => ?_)) | ((with_reducible refine mk_mn ?_); refine q_icmp_eq (tgt := 16) dX4_takesTrail_5 (by decide) (by omega) (fun h5 => ?_) (fun h5 => ?_)) | ((with_reducible refine mk_nn ?_); refine n_icmp_eq (tgt := 16) dX4_takesTrail_5 (by decide) (by omega) (by omega) (fun h5 => ?_) (fun h5 => ?_)) | refine e_icmp_eq (tgt := 16) dX4_takesTrail_5 (by decide) (fun h5 => ?_) (fun h5 => ?_)
  · try first | contradiction | omega
    all_goals
      refine e_iconst (v := nI 1) dX4_takesTrail_16 rfl ?_
      refine e_goto (tgt := 21) dX4_takesTrail_17 (by decide) ?_
      first | ((with_reducible refine mk_b ?_); refine e_ret (some _) rfl (r_bool dX4_takesTrail_21 rfl) ?_) | ((with_reducible refine mk_n1 ?_); refine e_ret (some _) rfl (r_b1 dX4_takesTrail_21 rfl) ?_) | ((with_reducible refine mk_n0 ?_); refine e_ret (some _) rfl (r_b0 dX4_takesTrail_21 rfl) ?_)
      refine xq ?_ rfl rfl rfl rfl rfl
      first | (rw [decide_eq_true (by omega)]; rfl) | (rw [decide_eq_false (by omega)]; rfl)
  · try first | contradiction | omega
    all_goals
      refine e_aload_n dX4_takesTrail_8 rfl rfl ?_
      refine e_getE dX4_takesTrail_9 fl_X4_28 rfl (k_m2 hK (by first | omega | (simp (disch := omega) only [upN_n, upN_s]; omega))) ?_
      refine e_iconst (v := nI 2) dX4_takesTrail_12 rfl ?_
      first | ((with_reducible refine mk_mo ?_); refine p_icmp_ne (tgt := 20) dX4_takesTrail_13 (by decide) (fun h13 => ?_) (fun h13 => ?_)) | ((with_reducible refine mk_ms ?_); refine s_icmp_ne (tgt := 20) dX4_takesTrail_13 (by decide) (by omega) (fun h13 => ?_) (fun h13 => ?_)) | ((with_reducible refine mk_mn ?_); refine q_icmp_ne (tgt := 20) dX4_takesTrail_13 (by decide) (by omega) (fun h13 => ?_) (fun h13 => ?_)) | ((with_reducible refine mk_nn ?_); refine n_icmp_ne (tgt := 20) dX4_takesTrail_13 (by decide) (by omega) (by omega) (fun h13 => ?_) (fun h13 => ?_)) | refine e_icmp_ne (tgt := 20) dX4_takesTrail_13 (by decide) (fun h13 => ?_) (fun h13 => ?_)
      · try first | contradiction | omega
        all_goals
          refine e_iconst (v := nI 0) dX4_takesTrail_20 rfl ?_
          first | ((with_reducible refine mk_b ?_); refine e_ret (some _) rfl (r_bool dX4_takesTrail_21 rfl) ?_) | ((with_reducible refine mk_n1 ?_); refine e_ret (some _) rfl (r_b1 dX4_takesTrail_21 rfl) ?_) | ((with_reducible refine mk_n0 ?_); refine e_ret (some _) rfl (r_b0 dX4_takesTrail_21 rfl) ?_)
          refine xq ?_ rfl rfl rfl rfl rfl
          first | (rw [decide_eq_true (by omega)]; rfl) | (rw [decide_eq_false (by omega)]; rfl)
      · try first | contradiction | omega
        all_goals
          refine e_iconst (v := nI 1) dX4_takesTrail_16 rfl ?_
          refine e_goto (tgt := 21) dX4_takesTrail_17 (by decide) ?_
          first | ((with_reducible refine mk_b ?_); refine e_ret (some _) rfl (r_bool dX4_takesTrail_21 rfl) ?_) | ((with_reducible refine mk_n1 ?_); refine e_ret (some _) rfl (r_b1 dX4_takesTrail_21 rfl) ?_) | ((with_reducible refine mk_n0 ?_); refine e_ret (some _) rfl (r_b0 dX4_takesTrail_21 rfl) ?_)
          refine xq ?_ rfl rfl rfl rfl rfl
          first | (rw [decide_eq_true (by omega)]; rfl) | (rw [decide_eq_false (by omega)]; rfl)
theorem ct_X4_hasInTrail {fi : FI} {fr : FR} {ai : FI} {ar : FR} {N : Nat} {w lg : Nat → Nat} {E : Nat} (cm : CM fr ar) (iv : Inv w) (hK : K fi ai w lg E) {m k : Nat} (hm : m < w 3) (hk : k < 1000) : CP mX4_hasInTrail 0 0 0 [.ref (rf 4 (34 + 2 * m)), .int (nI k)] fi fr ai ar N (xQ (some (.int (bI (inT w m k)))) fi fr ai ar N) := by
  have h1 := iv_n iv
  have h3 := iv_mm iv
  have bd := Bd_iv iv
  have hF : FR1 fi ai fi ai := FR1_rf
  have hq := iv_mv iv hm
  change EV mX4_hasInTrail 0 0 0 0 [some (.ref (rf 4 (34 + 2 * m))), some (.int (nI k)), none] [] fi fr ai ar N (xQ (some (.int (bI (inT w m k)))) fi fr ai ar N)
  have key := ev_up (P := (fun j => (∀ i, i < j → ¬ w (7694 + 72 * m + 12 + i) = k) → EV mX4_hasInTrail 0 0 0 2 [some (.ref (rf 4 (34 + 2 * m))), some (.int (nI k)), some (.int (nI j))] [] fi fr ai ar N (xQ (some (.int (bI (inT w m k)))) fi fr ai ar N))) (w (7694 + 72 * m + 6)) (fun j hj ih hn => by
    have ht := hq.2.2.2.2.2.2.2.2.2.2.2 j hj
    refine e_iload_n dX4_hasInTrail_2 rfl rfl ?_
    refine e_aload_n dX4_hasInTrail_3 rfl rfl ?_
    refine e_getE dX4_hasInTrail_4 fl_X4_34 rfl (k_m1 hK (by first | omega | (simp (disch := omega) only [upN_n, upN_s]; omega))) ?_
    first | ((with_reducible refine mk_nn ?_); refine n_icmp_ge (tgt := 28) dX4_hasInTrail_7 (by decide) (by omega) (by omega) (fun h7 => ?_) (fun h7 => ?_)) | refine e_icmp_ge (tgt := 28) dX4_hasInTrail_7 (by decide) (fun h7 => ?_) (fun h7 => ?_)
    · try first | contradiction | omega
      all_goals
        refine e_iconst (v := nI 0) dX4_hasInTrail_28 rfl ?_
        first | ((with_reducible refine mk_b ?_); refine e_ret (some _) rfl (r_bool dX4_hasInTrail_29 rfl) ?_) | ((with_reducible refine mk_n1 ?_); refine e_ret (some _) rfl (r_b1 dX4_hasInTrail_29 rfl) ?_) | ((with_reducible refine mk_n0 ?_); refine e_ret (some _) rfl (r_b0 dX4_hasInTrail_29 rfl) ?_)
        refine xq ?_ rfl rfl rfl rfl rfl
        unfold inT
        rw [fO_eq (i := j) (fun i hi => decide_eq_false (hn i hi)) (decide_eq_true (by assumption)) hj]
        rfl
    · try first | contradiction | omega
      all_goals
        refine e_aload_n dX4_hasInTrail_10 rfl rfl ?_
        refine e_getR dX4_hasInTrail_11 fl_X4_9 rfl (cm_tra cm (by omega)) ?_
        refine e_iload_n dX4_hasInTrail_14 rfl rfl ?_
        refine e_iadE _ dX4_hasInTrail_15 ⟨by decide, by decide⟩ rfl rfl (by simp only [lenK]; omega) (k_tr hK (by first | omega | (simp (disch := omega) only [upN_n, upN_s]; omega)) (by first | omega | (simp (disch := omega) only [upN_n, upN_s]; omega))) ?_
        refine e_iload_n dX4_hasInTrail_16 rfl rfl ?_
        first | ((with_reducible refine mk_mo ?_); refine p_icmp_ne (tgt := 22) dX4_hasInTrail_17 (by decide) (fun h17 => ?_) (fun h17 => ?_)) | ((with_reducible refine mk_ms ?_); refine s_icmp_ne (tgt := 22) dX4_hasInTrail_17 (by decide) (by omega) (fun h17 => ?_) (fun h17 => ?_)) | ((with_reducible refine mk_mn ?_); refine q_icmp_ne (tgt := 22) dX4_hasInTrail_17 (by decide) (by omega) (fun h17 => ?_) (fun h17 => ?_)) | ((with_reducible refine mk_nn ?_); refine n_icmp_ne (tgt := 22) dX4_hasInTrail_17 (by decide) (by omega) (by omega) (fun h17 => ?_) (fun h17 => ?_)) | refine e_icmp_ne (tgt := 22) dX4_hasInTrail_17 (by decide) (fun h17 => ?_) (fun h17 => ?_)
        · try first | contradiction | omega
          all_goals
            first | refine n_inc dX4_hasInTrail_22 rfl (Nat.le_of_ble_eq_true rfl) rfl ?_ | refine e_iinc dX4_hasInTrail_22 rfl rfl (Nat.le_of_ble_eq_true rfl) rfl ?_
            refine e_goto (tgt := 2) dX4_hasInTrail_25 (by decide) ?_
            refine ih (fun i hi => ?_)
            by_cases e : i = j
            · subst e; assumption
            · exact hn i (by omega)
        · try first | contradiction | omega
          all_goals
            refine e_iconst (v := nI 1) dX4_hasInTrail_20 rfl ?_
            first | ((with_reducible refine mk_b ?_); refine e_ret (some _) rfl (r_bool dX4_hasInTrail_21 rfl) ?_) | ((with_reducible refine mk_n1 ?_); refine e_ret (some _) rfl (r_b1 dX4_hasInTrail_21 rfl) ?_) | ((with_reducible refine mk_n0 ?_); refine e_ret (some _) rfl (r_b0 dX4_hasInTrail_21 rfl) ?_)
            refine xq ?_ rfl rfl rfl rfl rfl
            unfold inT
            rw [fO_eq (i := j) (fun i hi => decide_eq_false (hn i hi)) (decide_eq_true (by assumption)) hj]
            rfl
    ) (fun hn => by
    refine e_iload_n dX4_hasInTrail_2 rfl rfl ?_
    refine e_aload_n dX4_hasInTrail_3 rfl rfl ?_
    refine e_getE dX4_hasInTrail_4 fl_X4_34 rfl (k_m1 hK (by first | omega | (simp (disch := omega) only [upN_n, upN_s]; omega))) ?_
    first | ((with_reducible refine mk_nn ?_); refine n_icmp_ge (tgt := 28) dX4_hasInTrail_7 (by decide) (by omega) (by omega) (fun h7 => ?_) (fun h7 => ?_)) | refine e_icmp_ge (tgt := 28) dX4_hasInTrail_7 (by decide) (fun h7 => ?_) (fun h7 => ?_)
    · try first | contradiction | omega
      all_goals
        refine e_iconst (v := nI 0) dX4_hasInTrail_28 rfl ?_
        first | ((with_reducible refine mk_b ?_); refine e_ret (some _) rfl (r_bool dX4_hasInTrail_29 rfl) ?_) | ((with_reducible refine mk_n1 ?_); refine e_ret (some _) rfl (r_b1 dX4_hasInTrail_29 rfl) ?_) | ((with_reducible refine mk_n0 ?_); refine e_ret (some _) rfl (r_b0 dX4_hasInTrail_29 rfl) ?_)
        refine xq ?_ rfl rfl rfl rfl rfl
        unfold inT
        rw [fO_no (fun i hi => decide_eq_false (hn i hi))]
        rfl
    · try first | contradiction | omega
      all_goals
        refine e_aload_n dX4_hasInTrail_10 rfl rfl ?_
        refine e_getR dX4_hasInTrail_11 fl_X4_9 rfl (cm_tra cm (by omega)) ?_
        refine e_iload_n dX4_hasInTrail_14 rfl rfl ?_
        refine e_iadE _ dX4_hasInTrail_15 ⟨by decide, by decide⟩ rfl rfl (by simp only [lenK]; omega) (k_tr hK (by first | omega | (simp (disch := omega) only [upN_n, upN_s]; omega)) (by first | omega | (simp (disch := omega) only [upN_n, upN_s]; omega))) ?_
        refine e_iload_n dX4_hasInTrail_16 rfl rfl ?_
        first | ((with_reducible refine mk_mo ?_); refine p_icmp_ne (tgt := 22) dX4_hasInTrail_17 (by decide) (fun h17 => ?_) (fun h17 => ?_)) | ((with_reducible refine mk_ms ?_); refine s_icmp_ne (tgt := 22) dX4_hasInTrail_17 (by decide) (by omega) (fun h17 => ?_) (fun h17 => ?_)) | ((with_reducible refine mk_mn ?_); refine q_icmp_ne (tgt := 22) dX4_hasInTrail_17 (by decide) (by omega) (fun h17 => ?_) (fun h17 => ?_)) | ((with_reducible refine mk_nn ?_); refine n_icmp_ne (tgt := 22) dX4_hasInTrail_17 (by decide) (by omega) (by omega) (fun h17 => ?_) (fun h17 => ?_)) | refine e_icmp_ne (tgt := 22) dX4_hasInTrail_17 (by decide) (fun h17 => ?_) (fun h17 => ?_)
        · try first | contradiction | omega
          all_goals
            first | refine n_inc dX4_hasInTrail_22 rfl (Nat.le_of_ble_eq_true rfl) rfl ?_ | refine e_iinc dX4_hasInTrail_22 rfl rfl (Nat.le_of_ble_eq_true rfl) rfl ?_
            refine e_goto (tgt := 2) dX4_hasInTrail_25 (by decide) ?_
            refine ih (fun i hi => ?_)
            by_cases e : i = j
            · subst e; assumption
            · exact hn i (by omega)
        · try first | contradiction | omega
          all_goals
            refine e_iconst (v := nI 1) dX4_hasInTrail_20 rfl ?_
            first | ((with_reducible refine mk_b ?_); refine e_ret (some _) rfl (r_bool dX4_hasInTrail_21 rfl) ?_) | ((with_reducible refine mk_n1 ?_); refine e_ret (some _) rfl (r_b1 dX4_hasInTrail_21 rfl) ?_) | ((with_reducible refine mk_n0 ?_); refine e_ret (some _) rfl (r_b0 dX4_hasInTrail_21 rfl) ?_)
            refine xq ?_ rfl rfl rfl rfl rfl
            unfold inT
            rw [fO_no (fun i hi => decide_eq_false (hn i hi))]
            rfl
    )
  refine e_iconst (v := nI 0) dX4_hasInTrail_0 rfl ?_
  refine e_istore_n dX4_hasInTrail_1 rfl (Nat.le_of_ble_eq_true rfl) rfl ?_
  exact key 0 (by omega) (fun i hi => absurd hi (by omega))
theorem ct_X4_refusesWrite {fi : FI} {fr : FR} {ai : FI} {ar : FR} {N : Nat} {w lg : Nat → Nat} {E : Nat} (cm : CM fr ar) (iv : Inv w) (hK : K fi ai w lg E) {m k : Nat} (hm : m < w 3) (hk : k < 1000) (hg : 1 ≤ w (7694 + 72 * m + 0)) : CP mX4_refusesWrite 1 0 0 [.ref (rf 4 (34 + 2 * m)), .int (nI k)] fi fr ai ar N (xQ (some (.int (bI (fzM w m k)))) fi fr ai ar N) := by
  have h1 := iv_n iv
  have h3 := iv_mm iv
  have bd := Bd_iv iv
  have hF : FR1 fi ai fi ai := FR1_rf
  have hq := iv_mv iv hm
  change EV mX4_refusesWrite 1 0 0 0 [some (.ref (rf 4 (34 + 2 * m))), some (.int (nI k))] [] fi fr ai ar N (xQ (some (.int (bI (fzM w m k)))) fi fr ai ar N)
  refine e_aload_n dX4_refusesWrite_0 rfl rfl ?_
  refine e_getE dX4_refusesWrite_1 fl_X4_28 rfl (k_m2 hK (by first | omega | (simp (disch := omega) only [upN_n, upN_s]; omega))) ?_
  refine e_iconst (v := nI 3) dX4_refusesWrite_4 rfl ?_
  first | ((with_reducible refine mk_mo ?_); refine p_icmp_ne (tgt := 10) dX4_refusesWrite_5 (by decide) (fun h5 => ?_) (fun h5 => ?_)) | ((with_reducible refine mk_ms ?_); refine s_icmp_ne (tgt := 10) dX4_refusesWrite_5 (by decide) (by omega) (fun h5 => ?_) (fun h5 => ?_)) | ((with_reducible refine mk_mn ?_); refine q_icmp_ne (tgt := 10) dX4_refusesWrite_5 (by decide) (by omega) (fun h5 => ?_) (fun h5 => ?_)) | ((with_reducible refine mk_nn ?_); refine n_icmp_ne (tgt := 10) dX4_refusesWrite_5 (by decide) (by omega) (by omega) (fun h5 => ?_) (fun h5 => ?_)) | refine e_icmp_ne (tgt := 10) dX4_refusesWrite_5 (by decide) (fun h5 => ?_) (fun h5 => ?_)
  · try first | contradiction | omega
    all_goals
      refine e_aload_n dX4_refusesWrite_10 rfl rfl ?_
      refine x_V0 (M' := mX4_takesTrail) dX4_refusesWrite_11 ml_X4_53 ok_X4_takesTrail (by decide) rfl im_X4_takesTrail se_X4_takesTrail (ct_X4_takesTrail cm iv hK (by omega)) (Nat.le_of_ble_eq_true rfl) (by decide) (Nat.le_of_ble_eq_true rfl) ?_
      first | ((with_reducible refine mk_b ?_); refine b_if_eq (tgt := 38) dX4_refusesWrite_14 (by decide) (fun h14 => ?_) (fun h14 => ?_)) | ((with_reducible refine mk_ll ?_); refine m_if_eq (tgt := 38) dX4_refusesWrite_14 (by decide) (by omega) (by omega) (fun h14 => ?_) (fun h14 => ?_)) | ((with_reducible refine mk_lc ?_); refine l_if_eq (tgt := 38) dX4_refusesWrite_14 (by decide) (fun h14 => ?_) (fun h14 => ?_)) | ((with_reducible refine mk_n ?_); refine n_if_eq (tgt := 38) dX4_refusesWrite_14 (by decide) (by omega) (fun h14 => ?_) (fun h14 => ?_)) | refine e_if_eq (tgt := 38) dX4_refusesWrite_14 (by decide) (fun h14 => ?_) (fun h14 => ?_)
      · try first | contradiction | omega | (simp only [decide_eq_true_eq, decide_eq_false_iff_not] at h14; omega)
        all_goals
          refine e_iconst (v := nI 0) dX4_refusesWrite_38 rfl ?_
          first | ((with_reducible refine mk_b ?_); refine e_ret (some _) rfl (r_bool dX4_refusesWrite_39 rfl) ?_) | ((with_reducible refine mk_n1 ?_); refine e_ret (some _) rfl (r_b1 dX4_refusesWrite_39 rfl) ?_) | ((with_reducible refine mk_n0 ?_); refine e_ret (some _) rfl (r_b0 dX4_refusesWrite_39 rfl) ?_)
          refine xq ?_ rfl rfl rfl rfl rfl
          first | (rw [show fzM w m k = true by unfold fzM; grind]; rfl) | (rw [show fzM w m k = false by unfold fzM; grind]; rfl)
      · try first | contradiction | omega | (simp only [decide_eq_true_eq, decide_eq_false_iff_not] at h14; omega)
        all_goals
          refine e_aload_n dX4_refusesWrite_17 rfl rfl ?_
          refine e_getE dX4_refusesWrite_18 fl_X4_34 rfl (k_m1 hK (by first | omega | (simp (disch := omega) only [upN_n, upN_s]; omega))) ?_
          refine e_bipush (v := nI 60) dX4_refusesWrite_21 rfl ?_
          first | ((with_reducible refine mk_nn ?_); refine n_icmp_lt (tgt := 38) dX4_refusesWrite_23 (by decide) (by omega) (by omega) (fun h23 => ?_) (fun h23 => ?_)) | refine e_icmp_lt (tgt := 38) dX4_refusesWrite_23 (by decide) (fun h23 => ?_) (fun h23 => ?_)
          · try first | contradiction | omega
            all_goals
              refine e_iconst (v := nI 0) dX4_refusesWrite_38 rfl ?_
              first | ((with_reducible refine mk_b ?_); refine e_ret (some _) rfl (r_bool dX4_refusesWrite_39 rfl) ?_) | ((with_reducible refine mk_n1 ?_); refine e_ret (some _) rfl (r_b1 dX4_refusesWrite_39 rfl) ?_) | ((with_reducible refine mk_n0 ?_); refine e_ret (some _) rfl (r_b0 dX4_refusesWrite_39 rfl) ?_)
              refine xq ?_ rfl rfl rfl rfl rfl
              first | (rw [show fzM w m k = true by unfold fzM; grind]; rfl) | (rw [show fzM w m k = false by unfold fzM; grind]; rfl)
          · try first | contradiction | omega
            all_goals
              refine e_aload_n dX4_refusesWrite_26 rfl rfl ?_
              refine e_iload_n dX4_refusesWrite_27 rfl rfl ?_
              refine x_V1 (M' := mX4_hasInTrail) dX4_refusesWrite_28 ml_X4_57 ok_X4_hasInTrail (by decide) rfl im_X4_hasInTrail se_X4_hasInTrail (ct_X4_hasInTrail cm iv hK (by omega) (by omega)) (Nat.le_of_ble_eq_true rfl) (by decide) (Nat.le_of_ble_eq_true rfl) ?_
              first | ((with_reducible refine mk_b ?_); refine b_if_ne (tgt := 38) dX4_refusesWrite_31 (by decide) (fun h31 => ?_) (fun h31 => ?_)) | ((with_reducible refine mk_ll ?_); refine m_if_ne (tgt := 38) dX4_refusesWrite_31 (by decide) (by omega) (by omega) (fun h31 => ?_) (fun h31 => ?_)) | ((with_reducible refine mk_lc ?_); refine l_if_ne (tgt := 38) dX4_refusesWrite_31 (by decide) (fun h31 => ?_) (fun h31 => ?_)) | ((with_reducible refine mk_n ?_); refine n_if_ne (tgt := 38) dX4_refusesWrite_31 (by decide) (by omega) (fun h31 => ?_) (fun h31 => ?_)) | refine e_if_ne (tgt := 38) dX4_refusesWrite_31 (by decide) (fun h31 => ?_) (fun h31 => ?_)
              · try first | contradiction | omega | (simp only [decide_eq_true_eq, decide_eq_false_iff_not] at h31; omega)
                all_goals
                  refine e_iconst (v := nI 0) dX4_refusesWrite_38 rfl ?_
                  first | ((with_reducible refine mk_b ?_); refine e_ret (some _) rfl (r_bool dX4_refusesWrite_39 rfl) ?_) | ((with_reducible refine mk_n1 ?_); refine e_ret (some _) rfl (r_b1 dX4_refusesWrite_39 rfl) ?_) | ((with_reducible refine mk_n0 ?_); refine e_ret (some _) rfl (r_b0 dX4_refusesWrite_39 rfl) ?_)
                  refine xq ?_ rfl rfl rfl rfl rfl
                  first | (rw [show fzM w m k = true by unfold fzM; grind]; rfl) | (rw [show fzM w m k = false by unfold fzM; grind]; rfl)
              · try first | contradiction | omega | (simp only [decide_eq_true_eq, decide_eq_false_iff_not] at h31; omega)
                all_goals
                  refine e_iconst (v := nI 1) dX4_refusesWrite_34 rfl ?_
                  refine e_goto (tgt := 39) dX4_refusesWrite_35 (by decide) ?_
                  first | ((with_reducible refine mk_b ?_); refine e_ret (some _) rfl (r_bool dX4_refusesWrite_39 rfl) ?_) | ((with_reducible refine mk_n1 ?_); refine e_ret (some _) rfl (r_b1 dX4_refusesWrite_39 rfl) ?_) | ((with_reducible refine mk_n0 ?_); refine e_ret (some _) rfl (r_b0 dX4_refusesWrite_39 rfl) ?_)
                  refine xq ?_ rfl rfl rfl rfl rfl
                  first | (rw [show fzM w m k = true by unfold fzM; grind]; rfl) | (rw [show fzM w m k = false by unfold fzM; grind]; rfl)
  · try first | contradiction | omega
    all_goals
      refine e_iconst (v := nI 1) dX4_refusesWrite_8 rfl ?_
      first | ((with_reducible refine mk_b ?_); refine e_ret (some _) rfl (r_bool dX4_refusesWrite_9 rfl) ?_) | ((with_reducible refine mk_n1 ?_); refine e_ret (some _) rfl (r_b1 dX4_refusesWrite_9 rfl) ?_) | ((with_reducible refine mk_n0 ?_); refine e_ret (some _) rfl (r_b0 dX4_refusesWrite_9 rfl) ?_)
      refine xq ?_ rfl rfl rfl rfl rfl
      first | (rw [show fzM w m k = true by unfold fzM; grind]; rfl) | (rw [show fzM w m k = false by unfold fzM; grind]; rfl)
theorem ct_X9_isUp {fi : FI} {fr : FR} {ai : FI} {ar : FR} {N : Nat} {w lg : Nat → Nat} {E : Nat} (cm : CM fr ar) (iv : Inv w) (hK : K fi ai w lg E) {s : Nat} (hs : s < 6) : CP mX9_isUp 0 0 0 [.ref (rf 9 1), .int (nI s)] fi fr ai ar N (xQ (some (.int (bI (decide (w (4 + s) = 1))))) fi fr ai ar N) := by
  have h1 := iv_n iv
  have h3 := iv_mm iv
  have bd := Bd_iv iv
  have hF : FR1 fi ai fi ai := FR1_rf
  have hb := ubF_bit iv hs
  have hu := iv_up iv hs
  change EV mX9_isUp 0 0 0 0 [some (.ref (rf 9 1)), some (.int (nI s))] [] fi fr ai ar N (xQ (some (.int (bI (decide (w (4 + s) = 1))))) fi fr ai ar N)
  refine e_aload_n dX9_isUp_0 rfl rfl ?_
  refine e_getE dX9_isUp_1 fl_X9_47 rfl (k_up hK) ?_
  refine e_iload_n dX9_isUp_4 rfl rfl ?_
  refine e_ishr dX9_isUp_5 ?_
  refine e_iconst (v := nI 1) dX9_isUp_6 rfl ?_
  refine e_iand dX9_isUp_7 ?_
  rw [up_bit _ hb.1 _ hs, hb.2]
  refine e_iconst (v := nI 1) dX9_isUp_8 rfl ?_
  first | ((with_reducible refine mk_mo ?_); refine p_icmp_ne (tgt := 16) dX9_isUp_9 (by decide) (fun h9 => ?_) (fun h9 => ?_)) | ((with_reducible refine mk_ms ?_); refine s_icmp_ne (tgt := 16) dX9_isUp_9 (by decide) (by omega) (fun h9 => ?_) (fun h9 => ?_)) | ((with_reducible refine mk_mn ?_); refine q_icmp_ne (tgt := 16) dX9_isUp_9 (by decide) (by omega) (fun h9 => ?_) (fun h9 => ?_)) | ((with_reducible refine mk_nn ?_); refine n_icmp_ne (tgt := 16) dX9_isUp_9 (by decide) (by omega) (by omega) (fun h9 => ?_) (fun h9 => ?_)) | refine e_icmp_ne (tgt := 16) dX9_isUp_9 (by decide) (fun h9 => ?_) (fun h9 => ?_)
  · try first | contradiction | omega
    all_goals
      refine e_iconst (v := nI 0) dX9_isUp_16 rfl ?_
      first | ((with_reducible refine mk_b ?_); refine e_ret (some _) rfl (r_bool dX9_isUp_17 rfl) ?_) | ((with_reducible refine mk_n1 ?_); refine e_ret (some _) rfl (r_b1 dX9_isUp_17 rfl) ?_) | ((with_reducible refine mk_n0 ?_); refine e_ret (some _) rfl (r_b0 dX9_isUp_17 rfl) ?_)
      refine xq ?_ rfl rfl rfl rfl rfl
      first | (rw [decide_eq_true (by omega)]; rfl) | (rw [decide_eq_false (by omega)]; rfl)
  · try first | contradiction | omega
    all_goals
      refine e_iconst (v := nI 1) dX9_isUp_12 rfl ?_
      refine e_goto (tgt := 17) dX9_isUp_13 (by decide) ?_
      first | ((with_reducible refine mk_b ?_); refine e_ret (some _) rfl (r_bool dX9_isUp_17 rfl) ?_) | ((with_reducible refine mk_n1 ?_); refine e_ret (some _) rfl (r_b1 dX9_isUp_17 rfl) ?_) | ((with_reducible refine mk_n0 ?_); refine e_ret (some _) rfl (r_b0 dX9_isUp_17 rfl) ?_)
      refine xq ?_ rfl rfl rfl rfl rfl
      first | (rw [decide_eq_true (by omega)]; rfl) | (rw [decide_eq_false (by omega)]; rfl)
theorem ct_X9_hasMove {fi : FI} {fr : FR} {ai : FI} {ar : FR} {N : Nat} {w lg : Nat → Nat} {E : Nat} (cm : CM fr ar) (iv : Inv w) (hK : K fi ai w lg E) (x : Int32) : CP mX9_hasMove 0 0 0 [.ref (rf 9 1), .int x] fi fr ai ar N (xQ (some (.int (bI (inR x (w 3))))) fi fr ai ar N) := by
  have h1 := iv_n iv
  have h3 := iv_mm iv
  have bd := Bd_iv iv
  have hF : FR1 fi ai fi ai := FR1_rf
  change EV mX9_hasMove 0 0 0 0 [some (.ref (rf 9 1)), some (.int x)] [] fi fr ai ar N (xQ (some (.int (bI (inR x (w 3))))) fi fr ai ar N)
  refine e_iload_n dX9_hasMove_0 rfl rfl ?_
  first | ((with_reducible refine mk_ll ?_); refine m_if_lt (tgt := 16) dX9_hasMove_1 (by decide) (by omega) (by omega) (fun h1 => ?_) (fun h1 => ?_)) | ((with_reducible refine mk_lc ?_); refine l_if_lt (tgt := 16) dX9_hasMove_1 (by decide) (fun h1 => ?_) (fun h1 => ?_)) | ((with_reducible refine mk_n ?_); refine n_if_lt (tgt := 16) dX9_hasMove_1 (by decide) (by omega) (fun h1 => ?_) (fun h1 => ?_)) | refine e_if_lt (tgt := 16) dX9_hasMove_1 (by decide) (fun h1 => ?_) (fun h1 => ?_)
  · try first | contradiction | omega
    all_goals
      refine e_iconst (v := nI 0) dX9_hasMove_16 rfl ?_
      first | ((with_reducible refine mk_b ?_); refine e_ret (some _) rfl (r_bool dX9_hasMove_17 rfl) ?_) | ((with_reducible refine mk_n1 ?_); refine e_ret (some _) rfl (r_b1 dX9_hasMove_17 rfl) ?_) | ((with_reducible refine mk_n0 ?_); refine e_ret (some _) rfl (r_b0 dX9_hasMove_17 rfl) ?_)
      refine xq ?_ rfl rfl rfl rfl rfl
      unfold inR
      simp only [Int32.lt_iff_toInt_lt, Int32.le_iff_toInt_le, z_toInt, nI_toInt (b31 (show w 3 < 2147483648 by omega))] at *
      first | (rw [decide_eq_true (by omega)]; rfl) | (rw [decide_eq_false (by omega)]; rfl)
  · try first | contradiction | omega
    all_goals
      refine e_iload_n dX9_hasMove_4 rfl rfl ?_
      refine e_aload_n dX9_hasMove_5 rfl rfl ?_
      refine e_getE dX9_hasMove_6 fl_X9_63 rfl (k_mm hK) ?_
      first | ((with_reducible refine mk_nn ?_); refine n_icmp_ge (tgt := 16) dX9_hasMove_9 (by decide) (by omega) (by omega) (fun h9 => ?_) (fun h9 => ?_)) | refine e_icmp_ge (tgt := 16) dX9_hasMove_9 (by decide) (fun h9 => ?_) (fun h9 => ?_)
      · try first | contradiction | omega
        all_goals
          refine e_iconst (v := nI 0) dX9_hasMove_16 rfl ?_
          first | ((with_reducible refine mk_b ?_); refine e_ret (some _) rfl (r_bool dX9_hasMove_17 rfl) ?_) | ((with_reducible refine mk_n1 ?_); refine e_ret (some _) rfl (r_b1 dX9_hasMove_17 rfl) ?_) | ((with_reducible refine mk_n0 ?_); refine e_ret (some _) rfl (r_b0 dX9_hasMove_17 rfl) ?_)
          refine xq ?_ rfl rfl rfl rfl rfl
          unfold inR
          simp only [Int32.lt_iff_toInt_lt, Int32.le_iff_toInt_le, z_toInt, nI_toInt (b31 (show w 3 < 2147483648 by omega))] at *
          first | (rw [decide_eq_true (by omega)]; rfl) | (rw [decide_eq_false (by omega)]; rfl)
      · try first | contradiction | omega
        all_goals
          refine e_iconst (v := nI 1) dX9_hasMove_12 rfl ?_
          refine e_goto (tgt := 17) dX9_hasMove_13 (by decide) ?_
          first | ((with_reducible refine mk_b ?_); refine e_ret (some _) rfl (r_bool dX9_hasMove_17 rfl) ?_) | ((with_reducible refine mk_n1 ?_); refine e_ret (some _) rfl (r_b1 dX9_hasMove_17 rfl) ?_) | ((with_reducible refine mk_n0 ?_); refine e_ret (some _) rfl (r_b0 dX9_hasMove_17 rfl) ?_)
          refine xq ?_ rfl rfl rfl rfl rfl
          unfold inR
          simp only [Int32.lt_iff_toInt_lt, Int32.le_iff_toInt_le, z_toInt, nI_toInt (b31 (show w 3 < 2147483648 by omega))] at *
          first | (rw [decide_eq_true (by omega)]; rfl) | (rw [decide_eq_false (by omega)]; rfl)
theorem ct_X9_valueOf {fi : FI} {fr : FR} {ai : FI} {ar : FR} {N : Nat} {w lg : Nat → Nat} {E : Nat} (cm : CM fr ar) (iv : Inv w) (hK : K fi ai w lg E) {s k : Nat} (hs : s < 6) (hk : k < 1000) : CP mX9_valueOf 0 0 0 [.ref (rf 9 1), .int (nI s), .int (nI k)] fi fr ai ar N (xQ (some (.int (nI (w (1106 + 1000 * s + k))))) fi fr ai ar N) := by
  have h1 := iv_n iv
  have h3 := iv_mm iv
  have bd := Bd_iv iv
  have hF : FR1 fi ai fi ai := FR1_rf
  change EV mX9_valueOf 0 0 0 0 [some (.ref (rf 9 1)), some (.int (nI s)), some (.int (nI k))] [] fi fr ai ar N (xQ (some (.int (nI (w (1106 + 1000 * s + k))))) fi fr ai ar N)
  refine e_aload_n dX9_valueOf_0 rfl rfl ?_
  refine e_getR dX9_valueOf_1 fl_X9_9 rfl (cm_vals cm) ?_
  refine e_iload_n dX9_valueOf_4 rfl rfl ?_
  refine e_sipush (v := nI 1000) dX9_valueOf_5 rfl ?_
  first | ((with_reducible refine mk_nn ?_); refine n_imul dX9_valueOf_8 ?_) | refine e_imul dX9_valueOf_8 ?_
  refine e_iload_n dX9_valueOf_9 rfl rfl ?_
  first | ((with_reducible refine mk_nn ?_); refine n_iadd dX9_valueOf_10 ?_) | refine e_iadd dX9_valueOf_10 ?_
  refine e_iadE _ dX9_valueOf_11 ⟨by decide, by decide⟩ rfl rfl (by simp only [lenK]; omega) (k_val hK (by first | omega | (simp (disch := omega) only [upN_n, upN_s]; omega))) ?_
  refine e_ret (some _) rfl (r_int dX9_valueOf_12 rfl) ?_
  exact xq (by rw [show 1106 + (s * 1000 + k) = 1106 + 1000 * s + k by omega]) rfl rfl rfl rfl rfl
theorem ct_X9_valuesIn {fi : FI} {fr : FR} {ai : FI} {ar : FR} {N : Nat} {w lg : Nat → Nat} {E : Nat} (cm : CM fr ar) (iv : Inv w) (hK : K fi ai w lg E) {s a b : Nat} (hs : s < 6) (hab : a ≤ b) (hb : b ≤ 1000) : CP mX9_valuesIn 0 0 0 [.ref (rf 9 1), .int (nI s), .int (nI a), .int (nI b)] fi fr ai ar N (xQ (some (.int (nI (cnt (fun j => decide (0 < w (1106 + 1000 * s + (a + j)))) (b - a))))) fi fr ai ar N) := by
  have h1 := iv_n iv
  have h3 := iv_mm iv
  have bd := Bd_iv iv
  have hF : FR1 fi ai fi ai := FR1_rf
  change EV mX9_valuesIn 0 0 0 0 [some (.ref (rf 9 1)), some (.int (nI s)), some (.int (nI a)), some (.int (nI b)), none, none] [] fi fr ai ar N (xQ (some (.int (nI (cnt (fun j => decide (0 < w (1106 + 1000 * s + (a + j)))) (b - a))))) fi fr ai ar N)
  obtain ⟨B, hB⟩ : ∃ B, B = s * 1000 := ⟨_, rfl⟩
  have key := ev_up (P := (fun j => EV mX9_valuesIn 0 0 0 12 [some (.ref (rf 9 1)), some (.int (nI s)), some (.int (nI a)), some (.int (nI b)), some (.int (nI (cnt (fun j => decide (0 < w (1106 + 1000 * s + (a + j)))) j))), some (.int (nI (B + a + j)))] [] fi fr ai ar N (xQ (some (.int (nI (cnt (fun j => decide (0 < w (1106 + 1000 * s + (a + j)))) (b - a))))) fi fr ai ar N))) (b - a) (fun j hj ih => by
    have hv : w (1106 + 1000 * s + (a + j)) ≤ 99999 := by rw [show 1106 + 1000 * s + (a + j) = 1106 + (B + a + j) by omega]; exact iv_va iv (by omega)
    refine e_iload dX9_valuesIn_12 rfl ?_
    refine e_iload_n dX9_valuesIn_14 rfl rfl ?_
    refine e_sipush (v := nI 1000) dX9_valuesIn_15 rfl ?_
    first | ((with_reducible refine mk_nn ?_); refine n_imul dX9_valuesIn_18 ?_) | refine e_imul dX9_valuesIn_18 ?_
    rw [← hB]
    refine e_iload_n dX9_valuesIn_19 rfl rfl ?_
    first | ((with_reducible refine mk_nn ?_); refine n_iadd dX9_valuesIn_20 ?_) | refine e_iadd dX9_valuesIn_20 ?_
    first | ((with_reducible refine mk_nn ?_); refine n_icmp_ge (tgt := 43) dX9_valuesIn_21 (by decide) (by omega) (by omega) (fun h21 => ?_) (fun h21 => ?_)) | refine e_icmp_ge (tgt := 43) dX9_valuesIn_21 (by decide) (fun h21 => ?_) (fun h21 => ?_)
    · try first | contradiction | omega
      all_goals
        refine e_iload dX9_valuesIn_43 rfl ?_
        refine e_ret (some _) rfl (r_int dX9_valuesIn_45 rfl) ?_
        exact xq (by first | rfl | simp_all [bI_t, bI_f]) rfl rfl rfl rfl rfl
    · try first | contradiction | omega
      all_goals
        refine e_aload_n dX9_valuesIn_24 rfl rfl ?_
        refine e_getR dX9_valuesIn_25 fl_X9_9 rfl (cm_vals cm) ?_
        refine e_iload dX9_valuesIn_28 rfl ?_
        refine e_iadE _ dX9_valuesIn_30 ⟨by decide, by decide⟩ rfl rfl (by simp only [lenK]; omega) (k_val hK (by first | omega | (simp (disch := omega) only [upN_n, upN_s]; omega))) ?_
        rw [show 1106 + (B + a + j) = 1106 + 1000 * s + (a + j) by omega]
        first | ((with_reducible refine mk_b ?_); refine b_if_eq (tgt := 37) dX9_valuesIn_31 (by decide) (fun h31 => ?_) (fun h31 => ?_)) | ((with_reducible refine mk_ll ?_); refine m_if_eq (tgt := 37) dX9_valuesIn_31 (by decide) (by omega) (by omega) (fun h31 => ?_) (fun h31 => ?_)) | ((with_reducible refine mk_lc ?_); refine l_if_eq (tgt := 37) dX9_valuesIn_31 (by decide) (fun h31 => ?_) (fun h31 => ?_)) | ((with_reducible refine mk_n ?_); refine n_if_eq (tgt := 37) dX9_valuesIn_31 (by decide) (by omega) (fun h31 => ?_) (fun h31 => ?_)) | refine e_if_eq (tgt := 37) dX9_valuesIn_31 (by decide) (fun h31 => ?_) (fun h31 => ?_)
        · try first | contradiction | omega | (simp only [decide_eq_true_eq, decide_eq_false_iff_not] at h31; omega)
          all_goals
            first | refine n_inc dX9_valuesIn_37 rfl (Nat.le_of_ble_eq_true rfl) rfl ?_ | refine e_iinc dX9_valuesIn_37 rfl rfl (Nat.le_of_ble_eq_true rfl) rfl ?_
            refine e_goto (tgt := 12) dX9_valuesIn_40 (by decide) ?_
            first | (rw [cnt_t (n := j) (p := fun j => decide (0 < w (1106 + 1000 * s + (a + j)))) (decide_eq_true (by omega))] at ih; exact ih) | (rw [cnt_f (n := j) (p := fun j => decide (0 < w (1106 + 1000 * s + (a + j)))) (decide_eq_false (by omega))] at ih; exact ih)
        · try first | contradiction | omega | (simp only [decide_eq_true_eq, decide_eq_false_iff_not] at h31; omega)
          all_goals
            first | refine n_inc dX9_valuesIn_34 rfl (Nat.le_of_ble_eq_true rfl) rfl ?_ | refine e_iinc dX9_valuesIn_34 rfl rfl (Nat.le_of_ble_eq_true rfl) rfl ?_
            first | refine n_inc dX9_valuesIn_37 rfl (Nat.le_of_ble_eq_true rfl) rfl ?_ | refine e_iinc dX9_valuesIn_37 rfl rfl (Nat.le_of_ble_eq_true rfl) rfl ?_
            refine e_goto (tgt := 12) dX9_valuesIn_40 (by decide) ?_
            first | (rw [cnt_t (n := j) (p := fun j => decide (0 < w (1106 + 1000 * s + (a + j)))) (decide_eq_true (by omega))] at ih; exact ih) | (rw [cnt_f (n := j) (p := fun j => decide (0 < w (1106 + 1000 * s + (a + j)))) (decide_eq_false (by omega))] at ih; exact ih)
    ) (by
    refine e_iload dX9_valuesIn_12 rfl ?_
    refine e_iload_n dX9_valuesIn_14 rfl rfl ?_
    refine e_sipush (v := nI 1000) dX9_valuesIn_15 rfl ?_
    first | ((with_reducible refine mk_nn ?_); refine n_imul dX9_valuesIn_18 ?_) | refine e_imul dX9_valuesIn_18 ?_
    rw [← hB]
    refine e_iload_n dX9_valuesIn_19 rfl rfl ?_
    first | ((with_reducible refine mk_nn ?_); refine n_iadd dX9_valuesIn_20 ?_) | refine e_iadd dX9_valuesIn_20 ?_
    first | ((with_reducible refine mk_nn ?_); refine n_icmp_ge (tgt := 43) dX9_valuesIn_21 (by decide) (by omega) (by omega) (fun h21 => ?_) (fun h21 => ?_)) | refine e_icmp_ge (tgt := 43) dX9_valuesIn_21 (by decide) (fun h21 => ?_) (fun h21 => ?_)
    · try first | contradiction | omega
      all_goals
        refine e_iload dX9_valuesIn_43 rfl ?_
        refine e_ret (some _) rfl (r_int dX9_valuesIn_45 rfl) ?_
        exact xq rfl rfl rfl rfl rfl rfl
    · try first | contradiction | omega
      all_goals
        refine e_aload_n dX9_valuesIn_24 rfl rfl ?_
        refine e_getR dX9_valuesIn_25 fl_X9_9 rfl (cm_vals cm) ?_
        refine e_iload dX9_valuesIn_28 rfl ?_
        refine e_iadE _ dX9_valuesIn_30 ⟨by decide, by decide⟩ rfl rfl (by simp only [lenK]; omega) (k_val hK (by first | omega | (simp (disch := omega) only [upN_n, upN_s]; omega))) ?_
        first | ((with_reducible refine mk_b ?_); refine b_if_eq (tgt := 37) dX9_valuesIn_31 (by decide) (fun h31 => ?_) (fun h31 => ?_)) | ((with_reducible refine mk_ll ?_); refine m_if_eq (tgt := 37) dX9_valuesIn_31 (by decide) (by omega) (by omega) (fun h31 => ?_) (fun h31 => ?_)) | ((with_reducible refine mk_lc ?_); refine l_if_eq (tgt := 37) dX9_valuesIn_31 (by decide) (fun h31 => ?_) (fun h31 => ?_)) | ((with_reducible refine mk_n ?_); refine n_if_eq (tgt := 37) dX9_valuesIn_31 (by decide) (by omega) (fun h31 => ?_) (fun h31 => ?_)) | refine e_if_eq (tgt := 37) dX9_valuesIn_31 (by decide) (fun h31 => ?_) (fun h31 => ?_)
        · try first | contradiction | omega | (simp only [decide_eq_true_eq, decide_eq_false_iff_not] at h31; omega)
          all_goals
            first | refine n_inc dX9_valuesIn_37 rfl (Nat.le_of_ble_eq_true rfl) rfl ?_ | refine e_iinc dX9_valuesIn_37 rfl rfl (Nat.le_of_ble_eq_true rfl) rfl ?_
            refine e_goto (tgt := 12) dX9_valuesIn_40 (by decide) ?_
            contradiction
        · try first | contradiction | omega | (simp only [decide_eq_true_eq, decide_eq_false_iff_not] at h31; omega)
          all_goals
            first | refine n_inc dX9_valuesIn_34 rfl (Nat.le_of_ble_eq_true rfl) rfl ?_ | refine e_iinc dX9_valuesIn_34 rfl rfl (Nat.le_of_ble_eq_true rfl) rfl ?_
            first | refine n_inc dX9_valuesIn_37 rfl (Nat.le_of_ble_eq_true rfl) rfl ?_ | refine e_iinc dX9_valuesIn_37 rfl rfl (Nat.le_of_ble_eq_true rfl) rfl ?_
            refine e_goto (tgt := 12) dX9_valuesIn_40 (by decide) ?_
            contradiction
    )
  refine e_iconst (v := nI 0) dX9_valuesIn_0 rfl ?_
  refine e_istore dX9_valuesIn_1 (Nat.le_of_ble_eq_true rfl) rfl ?_
  refine e_iload_n dX9_valuesIn_3 rfl rfl ?_
  refine e_sipush (v := nI 1000) dX9_valuesIn_4 rfl ?_
  first | ((with_reducible refine mk_nn ?_); refine n_imul dX9_valuesIn_7 ?_) | refine e_imul dX9_valuesIn_7 ?_
  rw [← hB]
  refine e_iload_n dX9_valuesIn_8 rfl rfl ?_
  first | ((with_reducible refine mk_nn ?_); refine n_iadd dX9_valuesIn_9 ?_) | refine e_iadd dX9_valuesIn_9 ?_
  refine e_istore dX9_valuesIn_10 (Nat.le_of_ble_eq_true rfl) rfl ?_
  exact key 0 (by omega)
theorem ct_X9_moveAt {fi : FI} {fr : FR} {ai : FI} {ar : FR} {N : Nat} {w lg : Nat → Nat} {E : Nat} (cm : CM fr ar) (iv : Inv w) (hK : K fi ai w lg E) {l : Nat} (hl : l < 1000) : CP mX9_moveAt 1 0 0 [.ref (rf 9 1), .int (nI l)] fi fr ai ar N (xQ (some (.int (oI (mvL w l)))) fi fr ai ar N) := by
  have h1 := iv_n iv
  have h3 := iv_mm iv
  have bd := Bd_iv iv
  have hF : FR1 fi ai fi ai := FR1_rf
  change EV mX9_moveAt 1 0 0 0 [some (.ref (rf 9 1)), some (.int (nI l)), none] [] fi fr ai ar N (xQ (some (.int (oI (mvL w l)))) fi fr ai ar N)
  have key := ev_up (P := (fun j => (∀ i, i < j → (goB w i && decide (w (7694 + 72 * i + 1) = l)) = false) → EV mX9_moveAt 1 0 0 2 [some (.ref (rf 9 1)), some (.int (nI l)), some (.int (nI j))] [] fi fr ai ar N (xQ (some (.int (oI (mvL w l)))) fi fr ai ar N))) (w 3) (fun j hj ih hn => by
    have hq := iv_mv iv hj
    refine e_iload_n dX9_moveAt_2 rfl rfl ?_
    refine e_aload_n dX9_moveAt_3 rfl rfl ?_
    refine e_getE dX9_moveAt_4 fl_X9_63 rfl (k_mm hK) ?_
    first | ((with_reducible refine mk_nn ?_); refine n_icmp_ge (tgt := 43) dX9_moveAt_7 (by decide) (by omega) (by omega) (fun h7 => ?_) (fun h7 => ?_)) | refine e_icmp_ge (tgt := 43) dX9_moveAt_7 (by decide) (fun h7 => ?_) (fun h7 => ?_)
    · try first | contradiction | omega
      all_goals
        refine e_iconst (v := -1) dX9_moveAt_43 rfl ?_
        refine e_ret (some _) rfl (r_int dX9_moveAt_44 rfl) ?_
        refine xq ?_ rfl rfl rfl rfl rfl
        unfold mvL
        rw [fO_eq (i := j) hn (by simp_all) hj]
        rfl
    · try first | contradiction | omega
      all_goals
        refine e_aload_n dX9_moveAt_10 rfl rfl ?_
        refine e_getR dX9_moveAt_11 fl_X9_31 rfl (cm_mvs cm) ?_
        refine e_iload_n dX9_moveAt_14 rfl rfl ?_
        refine e_aald _ dX9_moveAt_15 ⟨by decide, by decide⟩ rfl rfl (by simp only [lenK]; omega) (cm_mo cm (by omega)) ?_
        refine e_getE dX9_moveAt_16 fl_X9_102 rfl (k_m3 hK (by first | omega | (simp (disch := omega) only [upN_n, upN_s]; omega))) ?_
        refine e_iload_n dX9_moveAt_19 rfl rfl ?_
        first | ((with_reducible refine mk_mo ?_); refine p_icmp_ne (tgt := 37) dX9_moveAt_20 (by decide) (fun h20 => ?_) (fun h20 => ?_)) | ((with_reducible refine mk_ms ?_); refine s_icmp_ne (tgt := 37) dX9_moveAt_20 (by decide) (by omega) (fun h20 => ?_) (fun h20 => ?_)) | ((with_reducible refine mk_mn ?_); refine q_icmp_ne (tgt := 37) dX9_moveAt_20 (by decide) (by omega) (fun h20 => ?_) (fun h20 => ?_)) | ((with_reducible refine mk_nn ?_); refine n_icmp_ne (tgt := 37) dX9_moveAt_20 (by decide) (by omega) (by omega) (fun h20 => ?_) (fun h20 => ?_)) | refine e_icmp_ne (tgt := 37) dX9_moveAt_20 (by decide) (fun h20 => ?_) (fun h20 => ?_)
        · try first | contradiction | omega
          all_goals
            first | refine n_inc dX9_moveAt_37 rfl (Nat.le_of_ble_eq_true rfl) rfl ?_ | refine e_iinc dX9_moveAt_37 rfl rfl (Nat.le_of_ble_eq_true rfl) rfl ?_
            refine e_goto (tgt := 2) dX9_moveAt_40 (by decide) ?_
            refine ih (fun i hi => ?_)
            by_cases e : i = j
            · subst e; simp_all
            · exact hn i (by omega)
        · try first | contradiction | omega
          all_goals
            refine e_aload_n dX9_moveAt_23 rfl rfl ?_
            refine e_getR dX9_moveAt_24 fl_X9_31 rfl (cm_mvs cm) ?_
            refine e_iload_n dX9_moveAt_27 rfl rfl ?_
            refine e_aald _ dX9_moveAt_28 ⟨by decide, by decide⟩ rfl rfl (by simp only [lenK]; omega) (cm_mo cm (by omega)) ?_
            refine x_V0 (M' := mX4_goesOn) dX9_moveAt_29 ml_X9_105 ok_X4_goesOn (by decide) rfl im_X4_goesOn se_X4_goesOn (ct_X4_goesOn cm iv hK (by omega)) (Nat.le_of_ble_eq_true rfl) (by decide) (Nat.le_of_ble_eq_true rfl) ?_
            first | ((with_reducible refine mk_b ?_); refine b_if_eq (tgt := 37) dX9_moveAt_32 (by decide) (fun h32 => ?_) (fun h32 => ?_)) | ((with_reducible refine mk_ll ?_); refine m_if_eq (tgt := 37) dX9_moveAt_32 (by decide) (by omega) (by omega) (fun h32 => ?_) (fun h32 => ?_)) | ((with_reducible refine mk_lc ?_); refine l_if_eq (tgt := 37) dX9_moveAt_32 (by decide) (fun h32 => ?_) (fun h32 => ?_)) | ((with_reducible refine mk_n ?_); refine n_if_eq (tgt := 37) dX9_moveAt_32 (by decide) (by omega) (fun h32 => ?_) (fun h32 => ?_)) | refine e_if_eq (tgt := 37) dX9_moveAt_32 (by decide) (fun h32 => ?_) (fun h32 => ?_)
            · try first | contradiction | omega | (simp only [decide_eq_true_eq, decide_eq_false_iff_not] at h32; omega)
              all_goals
                first | refine n_inc dX9_moveAt_37 rfl (Nat.le_of_ble_eq_true rfl) rfl ?_ | refine e_iinc dX9_moveAt_37 rfl rfl (Nat.le_of_ble_eq_true rfl) rfl ?_
                refine e_goto (tgt := 2) dX9_moveAt_40 (by decide) ?_
                refine ih (fun i hi => ?_)
                by_cases e : i = j
                · subst e; simp_all
                · exact hn i (by omega)
            · try first | contradiction | omega | (simp only [decide_eq_true_eq, decide_eq_false_iff_not] at h32; omega)
              all_goals
                refine e_iload_n dX9_moveAt_35 rfl rfl ?_
                refine e_ret (some _) rfl (r_int dX9_moveAt_36 rfl) ?_
                refine xq ?_ rfl rfl rfl rfl rfl
                unfold mvL
                rw [fO_eq (i := j) hn (by simp_all) hj]
                rfl
    ) (fun hn => by
    refine e_iload_n dX9_moveAt_2 rfl rfl ?_
    refine e_aload_n dX9_moveAt_3 rfl rfl ?_
    refine e_getE dX9_moveAt_4 fl_X9_63 rfl (k_mm hK) ?_
    first | ((with_reducible refine mk_nn ?_); refine n_icmp_ge (tgt := 43) dX9_moveAt_7 (by decide) (by omega) (by omega) (fun h7 => ?_) (fun h7 => ?_)) | refine e_icmp_ge (tgt := 43) dX9_moveAt_7 (by decide) (fun h7 => ?_) (fun h7 => ?_)
    · try first | contradiction | omega
      all_goals
        refine e_iconst (v := -1) dX9_moveAt_43 rfl ?_
        refine e_ret (some _) rfl (r_int dX9_moveAt_44 rfl) ?_
        refine xq ?_ rfl rfl rfl rfl rfl
        unfold mvL
        rw [fO_no hn]
        rfl
    · try first | contradiction | omega
      all_goals
        refine e_aload_n dX9_moveAt_10 rfl rfl ?_
        refine e_getR dX9_moveAt_11 fl_X9_31 rfl (cm_mvs cm) ?_
        refine e_iload_n dX9_moveAt_14 rfl rfl ?_
        refine e_aald _ dX9_moveAt_15 ⟨by decide, by decide⟩ rfl rfl (by simp only [lenK]; omega) (cm_mo cm (by omega)) ?_
        refine e_getE dX9_moveAt_16 fl_X9_102 rfl (k_m3 hK (by first | omega | (simp (disch := omega) only [upN_n, upN_s]; omega))) ?_
        refine e_iload_n dX9_moveAt_19 rfl rfl ?_
        first | ((with_reducible refine mk_mo ?_); refine p_icmp_ne (tgt := 37) dX9_moveAt_20 (by decide) (fun h20 => ?_) (fun h20 => ?_)) | ((with_reducible refine mk_ms ?_); refine s_icmp_ne (tgt := 37) dX9_moveAt_20 (by decide) (by omega) (fun h20 => ?_) (fun h20 => ?_)) | ((with_reducible refine mk_mn ?_); refine q_icmp_ne (tgt := 37) dX9_moveAt_20 (by decide) (by omega) (fun h20 => ?_) (fun h20 => ?_)) | ((with_reducible refine mk_nn ?_); refine n_icmp_ne (tgt := 37) dX9_moveAt_20 (by decide) (by omega) (by omega) (fun h20 => ?_) (fun h20 => ?_)) | refine e_icmp_ne (tgt := 37) dX9_moveAt_20 (by decide) (fun h20 => ?_) (fun h20 => ?_)
        · try first | contradiction | omega
          all_goals
            first | refine n_inc dX9_moveAt_37 rfl (Nat.le_of_ble_eq_true rfl) rfl ?_ | refine e_iinc dX9_moveAt_37 rfl rfl (Nat.le_of_ble_eq_true rfl) rfl ?_
            refine e_goto (tgt := 2) dX9_moveAt_40 (by decide) ?_
            refine ih (fun i hi => ?_)
            by_cases e : i = j
            · subst e; simp_all
            · exact hn i (by omega)
        · try first | contradiction | omega
          all_goals
            refine e_aload_n dX9_moveAt_23 rfl rfl ?_
            refine e_getR dX9_moveAt_24 fl_X9_31 rfl (cm_mvs cm) ?_
            refine e_iload_n dX9_moveAt_27 rfl rfl ?_
            refine e_aald _ dX9_moveAt_28 ⟨by decide, by decide⟩ rfl rfl (by simp only [lenK]; omega) (cm_mo cm (by omega)) ?_
            refine x_V0 (M' := mX4_goesOn) dX9_moveAt_29 ml_X9_105 ok_X4_goesOn (by decide) rfl im_X4_goesOn se_X4_goesOn (ct_X4_goesOn cm iv hK (by omega)) (Nat.le_of_ble_eq_true rfl) (by decide) (Nat.le_of_ble_eq_true rfl) ?_
            first | ((with_reducible refine mk_b ?_); refine b_if_eq (tgt := 37) dX9_moveAt_32 (by decide) (fun h32 => ?_) (fun h32 => ?_)) | ((with_reducible refine mk_ll ?_); refine m_if_eq (tgt := 37) dX9_moveAt_32 (by decide) (by omega) (by omega) (fun h32 => ?_) (fun h32 => ?_)) | ((with_reducible refine mk_lc ?_); refine l_if_eq (tgt := 37) dX9_moveAt_32 (by decide) (fun h32 => ?_) (fun h32 => ?_)) | ((with_reducible refine mk_n ?_); refine n_if_eq (tgt := 37) dX9_moveAt_32 (by decide) (by omega) (fun h32 => ?_) (fun h32 => ?_)) | refine e_if_eq (tgt := 37) dX9_moveAt_32 (by decide) (fun h32 => ?_) (fun h32 => ?_)
            · try first | contradiction | omega | (simp only [decide_eq_true_eq, decide_eq_false_iff_not] at h32; omega)
              all_goals
                first | refine n_inc dX9_moveAt_37 rfl (Nat.le_of_ble_eq_true rfl) rfl ?_ | refine e_iinc dX9_moveAt_37 rfl rfl (Nat.le_of_ble_eq_true rfl) rfl ?_
                refine e_goto (tgt := 2) dX9_moveAt_40 (by decide) ?_
                refine ih (fun i hi => ?_)
                by_cases e : i = j
                · subst e; simp_all
                · exact hn i (by omega)
            · try first | contradiction | omega | (simp only [decide_eq_true_eq, decide_eq_false_iff_not] at h32; omega)
              all_goals
                refine e_iload_n dX9_moveAt_35 rfl rfl ?_
                refine e_ret (some _) rfl (r_int dX9_moveAt_36 rfl) ?_
                refine xq ?_ rfl rfl rfl rfl rfl
                unfold mvL
                rw [fO_no hn]
                rfl
    )
  refine e_iconst (v := nI 0) dX9_moveAt_0 rfl ?_
  refine e_istore_n dX9_moveAt_1 rfl (Nat.le_of_ble_eq_true rfl) rfl ?_
  exact key 0 (by omega) (fun i hi => absurd hi (by omega))
