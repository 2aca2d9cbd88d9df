-- the reference's fields
def SM (fr : FR) : Prop := fr (32 * 11 + 0) (rf 11 80) = some (rf 32 81) ∧ fr (32 * 11 + 1) (rf 11 80) = some (rf 32 82) ∧ fr (32 * 11 + 2) (rf 11 80) = some (rf 32 83) ∧ fr (32 * 11 + 3) (rf 11 80) = some (rf 33 84) ∧ fr (32 * 11 + 6) (rf 11 80) = some (rf 34 85) ∧ fr (32 * 11 + 7) (rf 11 80) = some (rf 34 86) ∧ fr (32 * 11 + 9) (rf 11 80) = some (rf 35 87) ∧ fr (32 * 11 + 16) (rf 11 80) = some (rf 36 88)
theorem lN_t {n : Nat} (h : n < 9223372036854775808) : (lN n).toInt = n := pk_lT h
theorem ct_X11_isIn {fi : FI} {fr : FR} {ai : FI} {ar : FR} {N : Nat} (v a b : Int64) : CP mX11_isIn 0 0 0 [.long v, .long a, .long b] fi fr ai ar N (xQ (some (.int (bI (decide (a.toInt ≤ v.toInt ∧ v.toInt ≤ b.toInt))))) fi fr ai ar N) := by
  change EV mX11_isIn 0 0 0 0 [some (.long v), none, some (.long a), none, some (.long b), none] [] fi fr ai ar N _
  refine e_lload_n dX11_isIn_0 rfl rfl ?_
  refine e_lload_n dX11_isIn_1 rfl rfl ?_
  refine e_lcmp dX11_isIn_2 ?_
  first | ((with_reducible refine mk_ll ?_); refine m_if_lt (tgt := 17) dX11_isIn_3 (by decide) (by omega) (by omega) (fun h3 => ?_) (fun h3 => ?_)) | ((with_reducible refine mk_lc ?_); refine l_if_lt (tgt := 17) dX11_isIn_3 (by decide) (fun h3 => ?_) (fun h3 => ?_)) | ((with_reducible refine mk_n ?_); refine n_if_lt (tgt := 17) dX11_isIn_3 (by decide) (by omega) (fun h3 => ?_) (fun h3 => ?_)) | refine e_if_lt (tgt := 17) dX11_isIn_3 (by decide) (fun h3 => ?_) (fun h3 => ?_)
  · first | omega | skip
    refine e_iconst (v := nI 0) dX11_isIn_17 rfl ?_
    first | ((with_reducible refine mk_b ?_); refine e_ret (some _) rfl (r_bool dX11_isIn_18 rfl) ?_) | ((with_reducible refine mk_n1 ?_); refine e_ret (some _) rfl (r_b1 dX11_isIn_18 rfl) ?_) | ((with_reducible refine mk_n0 ?_); refine e_ret (some _) rfl (r_b0 dX11_isIn_18 rfl) ?_)
    refine xq ?_ rfl rfl rfl rfl rfl
    simp only [Int64.lt_iff_toInt_lt] at *
    first | rw [decide_eq_true (by omega)]; rfl | rw [decide_eq_false (by omega)]; rfl
  · first | omega | skip
    refine e_lload_n dX11_isIn_6 rfl rfl ?_
    refine e_lload dX11_isIn_7 rfl ?_
    refine e_lcmp dX11_isIn_9 ?_
    first | ((with_reducible refine mk_ll ?_); refine m_if_gt (tgt := 17) dX11_isIn_10 (by decide) (by omega) (by omega) (fun h10 => ?_) (fun h10 => ?_)) | ((with_reducible refine mk_lc ?_); refine l_if_gt (tgt := 17) dX11_isIn_10 (by decide) (fun h10 => ?_) (fun h10 => ?_)) | ((with_reducible refine mk_n ?_); refine n_if_gt (tgt := 17) dX11_isIn_10 (by decide) (by omega) (fun h10 => ?_) (fun h10 => ?_)) | refine e_if_gt (tgt := 17) dX11_isIn_10 (by decide) (fun h10 => ?_) (fun h10 => ?_)
    · first | omega | skip
      refine e_iconst (v := nI 0) dX11_isIn_17 rfl ?_
      first | ((with_reducible refine mk_b ?_); refine e_ret (some _) rfl (r_bool dX11_isIn_18 rfl) ?_) | ((with_reducible refine mk_n1 ?_); refine e_ret (some _) rfl (r_b1 dX11_isIn_18 rfl) ?_) | ((with_reducible refine mk_n0 ?_); refine e_ret (some _) rfl (r_b0 dX11_isIn_18 rfl) ?_)
      refine xq ?_ rfl rfl rfl rfl rfl
      simp only [Int64.lt_iff_toInt_lt] at *
      first | rw [decide_eq_true (by omega)]; rfl | rw [decide_eq_false (by omega)]; rfl
    · first | omega | skip
      refine e_iconst (v := nI 1) dX11_isIn_13 rfl ?_
      refine e_goto (tgt := 18) dX11_isIn_14 (by decide) ?_
      first | ((with_reducible refine mk_b ?_); refine e_ret (some _) rfl (r_bool dX11_isIn_18 rfl) ?_) | ((with_reducible refine mk_n1 ?_); refine e_ret (some _) rfl (r_b1 dX11_isIn_18 rfl) ?_) | ((with_reducible refine mk_n0 ?_); refine e_ret (some _) rfl (r_b0 dX11_isIn_18 rfl) ?_)
      refine xq ?_ rfl rfl rfl rfl rfl
      simp only [Int64.lt_iff_toInt_lt] at *
      first | rw [decide_eq_true (by omega)]; rfl | rw [decide_eq_false (by omega)]; rfl
theorem ct_isInN {fi : FI} {fr : FR} {ai : FI} {ar : FR} {N : Nat} {v a b : Nat} (hv : v < 9223372036854775808) (ha : a < 9223372036854775808) (hb : b < 9223372036854775808) : CP mX11_isIn 0 0 0 [.long (lN v), .long (lN a), .long (lN b)] fi fr ai ar N (xQ (some (.int (bI (decide (a ≤ v ∧ v ≤ b))))) fi fr ai ar N) := by
  have h := ct_X11_isIn (fi := fi) (fr := fr) (ai := ai) (ar := ar) (N := N) (lN v) (lN a) (lN b)
  rw [lN_t hv, lN_t ha, lN_t hb] at h
  simp only [Int.ofNat_le] at h
  exact h
theorem ct_isInX {fi : FI} {fr : FR} {ai : FI} {ar : FR} {N : Nat} {x : Int32} {a b : Nat} (ha : a < 9223372036854775808) (hb : b < 9223372036854775808) : CP mX11_isIn 0 0 0 [.long x.toInt64, .long (lN a), .long (lN b)] fi fr ai ar N (xQ (some (.int (bI (decide ((a : Int) ≤ x.toInt ∧ x.toInt ≤ b))))) fi fr ai ar N) := by
  have h := ct_X11_isIn (fi := fi) (fr := fr) (ai := ai) (ar := ar) (N := N) x.toInt64 (lN a) (lN b)
  rw [lN_t ha, lN_t hb, Int32.toInt_toInt64] at h
  exact h
def inR (x : Int32) (n : Nat) : Bool := decide (0 ≤ x.toInt ∧ x.toInt < n)
theorem inR_nI {a n : Nat} (ha : a < 2147483648) : inR (nI a) n = decide (a < n) := by
  unfold inR
  rw [nI_toInt (b31 ha)]
  congr 1
  exact propext ⟨fun h => by omega, fun h => ⟨by omega, by omega⟩⟩
theorem inR_ex {x : Int32} {n : Nat} (h : inR x n = true) : ∃ a, a < n ∧ a < 2147483648 ∧ x = nI a := by
  have h1 := of_decide_eq_true h
  have h2 := x.toInt_lt
  refine ⟨x.toInt.toNat, by omega, by omega, ?_⟩
  apply Int32.toInt_inj.mp
  rw [nI_toInt (b31 (by omega))]
  omega
theorem ct_X11_isKey {fi : FI} {fr : FR} {ai : FI} {ar : FR} {N : Nat} (x : Int32) : CP mX11_isKey 1 0 0 [.int x] fi fr ai ar N (xQ (some (.int (bI (inR x 1000)))) fi fr ai ar N) := by
  change EV mX11_isKey 1 0 0 0 [some (.int x)] [] fi fr ai ar N _
  refine e_iload_n dX11_isKey_0 rfl rfl ?_
  first | ((with_reducible refine mk_n ?_); refine n_i2l dX11_isKey_1 (by omega) ?_) | refine e_i2l dX11_isKey_1 ?_
  refine e_lconst (v := lN 0) dX11_isKey_2 rfl ?_
  refine e_ldc2 dX11_isKey_3 co_X11_43 ?_
  refine x_S3 (M' := mX11_isIn) dX11_isKey_6 ml_X11_45 ok_X11_isIn rfl sc_X11_isIn (ct_isInX (by decide) (by decide)) (Nat.le_of_ble_eq_true rfl) (by decide) (Nat.le_of_ble_eq_true rfl) ?_
  first | ((with_reducible refine mk_b ?_); refine e_ret (some _) rfl (r_bool dX11_isKey_9 rfl) ?_) | ((with_reducible refine mk_n1 ?_); refine e_ret (some _) rfl (r_b1 dX11_isKey_9 rfl) ?_) | ((with_reducible refine mk_n0 ?_); refine e_ret (some _) rfl (r_b0 dX11_isKey_9 rfl) ?_)
  refine xq ?_ rfl rfl rfl rfl rfl
  congr 3
  unfold inR
  congr 1
  exact propext ⟨fun h => by omega, fun h => by omega⟩
theorem ct_X11_isServer {fi : FI} {fr : FR} {ai : FI} {ar : FR} {N : Nat} (x : Int32) : CP mX11_isServer 1 0 0 [.int x] fi fr ai ar N (xQ (some (.int (bI (inR x 6)))) fi fr ai ar N) := by
  change EV mX11_isServer 1 0 0 0 [some (.int x)] [] fi fr ai ar N _
  refine e_iload_n dX11_isServer_0 rfl rfl ?_
  first | ((with_reducible refine mk_n ?_); refine n_i2l dX11_isServer_1 (by omega) ?_) | refine e_i2l dX11_isServer_1 ?_
  refine e_lconst (v := lN 0) dX11_isServer_2 rfl ?_
  refine e_ldc2 dX11_isServer_3 co_X11_49 ?_
  refine x_S3 (M' := mX11_isIn) dX11_isServer_6 ml_X11_45 ok_X11_isIn rfl sc_X11_isIn (ct_isInX (by decide) (by decide)) (Nat.le_of_ble_eq_true rfl) (by decide) (Nat.le_of_ble_eq_true rfl) ?_
  first | ((with_reducible refine mk_b ?_); refine e_ret (some _) rfl (r_bool dX11_isServer_9 rfl) ?_) | ((with_reducible refine mk_n1 ?_); refine e_ret (some _) rfl (r_b1 dX11_isServer_9 rfl) ?_) | ((with_reducible refine mk_n0 ?_); refine e_ret (some _) rfl (r_b0 dX11_isServer_9 rfl) ?_)
  refine xq ?_ rfl rfl rfl rfl rfl
  congr 3
  unfold inR
  congr 1
  exact propext ⟨fun h => by omega, fun h => by omega⟩
theorem ct_X11_isClient {fi : FI} {fr : FR} {ai : FI} {ar : FR} {N : Nat} (x : Int32) : CP mX11_isClient 1 0 0 [.int x] fi fr ai ar N (xQ (some (.int (bI (inR x 6)))) fi fr ai ar N) := by
  change EV mX11_isClient 1 0 0 0 [some (.int x)] [] fi fr ai ar N _
  refine e_iload_n dX11_isClient_0 rfl rfl ?_
  first | ((with_reducible refine mk_n ?_); refine n_i2l dX11_isClient_1 (by omega) ?_) | refine e_i2l dX11_isClient_1 ?_
  refine e_lconst (v := lN 0) dX11_isClient_2 rfl ?_
  refine e_ldc2 dX11_isClient_3 co_X11_49 ?_
  refine x_S3 (M' := mX11_isIn) dX11_isClient_6 ml_X11_45 ok_X11_isIn rfl sc_X11_isIn (ct_isInX (by decide) (by decide)) (Nat.le_of_ble_eq_true rfl) (by decide) (Nat.le_of_ble_eq_true rfl) ?_
  first | ((with_reducible refine mk_b ?_); refine e_ret (some _) rfl (r_bool dX11_isClient_9 rfl) ?_) | ((with_reducible refine mk_n1 ?_); refine e_ret (some _) rfl (r_b1 dX11_isClient_9 rfl) ?_) | ((with_reducible refine mk_n0 ?_); refine e_ret (some _) rfl (r_b0 dX11_isClient_9 rfl) ?_)
  refine xq ?_ rfl rfl rfl rfl rfl
  congr 3
  unfold inR
  congr 1
  exact propext ⟨fun h => by omega, fun h => by omega⟩
theorem ct_X11_storeAt {fi : FI} {fr : FR} {ai : FI} {ar : FR} {N : Nat} {s k : Nat} : CP mX11_storeAt 0 0 0 [.int (nI s), .int (nI k)] fi fr ai ar N (xQ (some (.int (nI (1106 + 1000 * s + k)))) fi fr ai ar N) := by
  change EV mX11_storeAt 0 0 0 0 [some (.int (nI s)), some (.int (nI k))] [] fi fr ai ar N _
  refine e_sipush (v := nI 1106) dX11_storeAt_0 rfl ?_
  refine e_sipush (v := nI 1000) dX11_storeAt_3 rfl ?_
  refine e_iload_n dX11_storeAt_6 rfl rfl ?_
  first | ((with_reducible refine mk_nn ?_); refine n_imul dX11_storeAt_7 ?_) | refine e_imul dX11_storeAt_7 ?_
  first | ((with_reducible refine mk_nn ?_); refine n_iadd dX11_storeAt_8 ?_) | refine e_iadd dX11_storeAt_8 ?_
  refine e_iload_n dX11_storeAt_9 rfl rfl ?_
  first | ((with_reducible refine mk_nn ?_); refine n_iadd dX11_storeAt_10 ?_) | refine e_iadd dX11_storeAt_10 ?_
  refine e_ret (some _) rfl (r_int dX11_storeAt_11 rfl) ?_
  exact xq (by first | rfl | simp_all) rfl rfl rfl rfl rfl
theorem ct_X11_moveAt {fi : FI} {fr : FR} {ai : FI} {ar : FR} {N : Nat} {m : Nat} : CP mX11_moveAt 0 0 0 [.int (nI m)] fi fr ai ar N (xQ (some (.int (nI (7694 + 72 * m)))) fi fr ai ar N) := by
  change EV mX11_moveAt 0 0 0 0 [some (.int (nI m))] [] fi fr ai ar N _
  refine e_sipush (v := nI 7694) dX11_moveAt_0 rfl ?_
  refine e_bipush (v := nI 72) dX11_moveAt_3 rfl ?_
  refine e_iload_n dX11_moveAt_5 rfl rfl ?_
  first | ((with_reducible refine mk_nn ?_); refine n_imul dX11_moveAt_6 ?_) | refine e_imul dX11_moveAt_6 ?_
  first | ((with_reducible refine mk_nn ?_); refine n_iadd dX11_moveAt_7 ?_) | refine e_iadd dX11_moveAt_7 ?_
  refine e_ret (some _) rfl (r_int dX11_moveAt_8 rfl) ?_
  exact xq (by first | rfl | simp_all) rfl rfl rfl rfl rfl
theorem ct_X11_clientAt {fi : FI} {fr : FR} {ai : FI} {ar : FR} {N : Nat} {m : Nat} : CP mX11_clientAt 0 0 0 [.int (nI m)] fi fr ai ar N (xQ (some (.int (nI (7106 + 98 * m)))) fi fr ai ar N) := by
  change EV mX11_clientAt 0 0 0 0 [some (.int (nI m))] [] fi fr ai ar N _
  refine e_sipush (v := nI 7106) dX11_clientAt_0 rfl ?_
  refine e_bipush (v := nI 98) dX11_clientAt_3 rfl ?_
  refine e_iload_n dX11_clientAt_5 rfl rfl ?_
  first | ((with_reducible refine mk_nn ?_); refine n_imul dX11_clientAt_6 ?_) | refine e_imul dX11_clientAt_6 ?_
  first | ((with_reducible refine mk_nn ?_); refine n_iadd dX11_clientAt_7 ?_) | refine e_iadd dX11_clientAt_7 ?_
  refine e_ret (some _) rfl (r_int dX11_clientAt_8 rfl) ?_
  exact xq (by first | rfl | simp_all) rfl rfl rfl rfl rfl
theorem ct_X11_counts {fi : FI} {fr : FR} {ai : FI} {ar : FR} {N : Nat} {w : Nat → Nat} (sm : SM fr) {j v : Nat} (hj : j < 15) : CP mX11_counts 0 0 0 [.ref (rf 11 80), .int (nI j), .int (nI v)] fi fr (mW ai w) ar N (xQ none fi fr (mW ai (upN w (8558 + j) (w (8558 + j) + v))) ar N) := by
  obtain ⟨sW, -⟩ := sm
  change EV mX11_counts 0 0 0 0 [some (.ref (rf 11 80)), some (.int (nI j)), some (.int (nI v))] [] fi fr (mW ai w) ar N _
  refine e_aload_n dX11_counts_0 rfl rfl ?_
  refine e_getR dX11_counts_1 fl_X11_7 rfl (by assumption) ?_
  refine e_sipush (v := nI 8558) dX11_counts_4 rfl ?_
  refine e_iload_n dX11_counts_7 rfl rfl ?_
  first | ((with_reducible refine mk_nn ?_); refine n_iadd dX11_counts_8 ?_) | refine e_iadd dX11_counts_8 ?_
  refine e_dup2 dX11_counts_9 rfl rfl ?_
  first | ((with_reducible refine mk_ldw ?_); refine e_ldw dX11_counts_10 (by omega) ?_) | refine e_iald _ dX11_counts_10 ⟨by decide, by decide⟩ rfl rfl (by simp only [lenK]; omega) ?_
  refine e_iload_n dX11_counts_11 rfl rfl ?_
  first | ((with_reducible refine mk_nn ?_); refine n_iadd dX11_counts_12 ?_) | refine e_iadd dX11_counts_12 ?_
  first | ((with_reducible refine mk_stw ?_); refine e_stw dX11_counts_13 (by omega) ?_) | refine e_iast _ dX11_counts_13 ⟨by decide, by decide⟩ rfl rfl (by simp only [lenK]; omega) ?_
  refine e_ret none rfl (r_void dX11_counts_14 rfl) ?_
  exact xq rfl rfl rfl rfl rfl rfl
