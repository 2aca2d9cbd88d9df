theorem Bd_fr {w w' : Nat → Nat} (h : ∀ q, q < 106 ∨ 7106 ≤ q → w' q = w q) (bd : Bd w) : Bd w' := by
  obtain ⟨a, b, c, d⟩ := bd
  refine ⟨by rw [h _ (by omega)]; exact a, by rw [h _ (by omega)]; exact b, fun k hk => by rw [h _ (by omega)]; exact c k hk, fun m hm => ?_⟩
  rw [h 3 (by omega)] at hm
  rw [h _ (by omega)]; exact d m hm
theorem up_or : ∀ n, n < 64 → ∀ s, s < 6 → n / 2 ^ s % 2 = 0 → nI n ||| (nI 1 <<< (nI s &&& 31)) = nI (n + 2 ^ s) := by decide +kernel
theorem ub_set {w : Nat → Nat} (iv : Inv w) {s : Nat} (hs : s < 6) (h0 : w (4 + s) = 0) : ubF (upN w (4 + s) 1) 6 = ubF w 6 + 2 ^ s := by
  rw [ubF_6, ubF_6]
  rcases (show s = 0 ∨ s = 1 ∨ s = 2 ∨ s = 3 ∨ s = 4 ∨ s = 5 by omega) with rfl | rfl | rfl | rfl | rfl | rfl <;> simp only [Nat.reduceAdd] at h0 ⊢ <;> simp (disch := omega) only [upN_n, upN_s] <;> omega
theorem up_and : ∀ n, n < 64 → ∀ s, s < 6 → n / 2 ^ s % 2 = 1 → nI n &&& ((nI 1 <<< (nI s &&& 31)) ^^^ (-1)) = nI (n - 2 ^ s) := by decide +kernel
theorem ub_clr {w : Nat → Nat} (iv : Inv w) {s : Nat} (hs : s < 6) (h0 : w (4 + s) = 1) : ubF (upN w (4 + s) 0) 6 = ubF w 6 - 2 ^ s := by
  rw [ubF_6, ubF_6]
  rcases (show s = 0 ∨ s = 1 ∨ s = 2 ∨ s = 3 ∨ s = 4 ∨ s = 5 by omega) with rfl | rfl | rfl | rfl | rfl | rfl <;> simp only [Nat.reduceAdd] at h0 ⊢ <;> simp (disch := omega) only [upN_n, upN_s] <;> omega
theorem Bd_fr2 {w w' : Nat → Nat} (h : ∀ q, q < 106 ∨ 1106 ≤ q → w' q = w q) (bd : Bd w) : Bd w' := by
  obtain ⟨a, b, c, d⟩ := bd
  refine ⟨by rw [h _ (by omega)]; exact a, by rw [h _ (by omega)]; exact b, fun k hk => by rw [h _ (by omega)]; exact c k hk, fun m hm => ?_⟩
  rw [h 3 (by omega)] at hm
  rw [h _ (by omega)]; exact d m hm
theorem e_pup {M : MD} {d k z pc : Nat} {ls : List (Option Value)} {st : List Value} {fi : FI} {fr : FR} {ai : FI} {ar : FR} {N : Nat} {Q : EQ} {fi0 ai0 : FI} {w lg : Nat → Nat} {E : Nat} {i s v x : Nat} (hd : decode M.2.1 pc = .ok (.putfield i, 3)) (hf : FLK M.1.cls i 9 6) (bd : Bd w) (hK : K fi ai w lg E) (hs : s < 6) (hx : x = ubF (upN w (4 + s) v) 6) (hF : FR1 fi0 ai0 fi ai)
    (kk : ∀ fi', FR1 fi0 ai0 fi' ai → K fi' ai (upN w (4 + s) v) lg E → EV M d k z (pc + 3) ls st fi' fr ai ar N Q) : EV M d k z pc ls (.int (nI x) :: .ref (rf 9 1) :: st) fi fr ai ar N Q :=
  e_putI hd hf rfl rfl rfl rfl (kk _ (FR1_f hF (by decide) (by omega)) (k_pup bd hK hs hx))
theorem ct_X9_putValue {fi : FI} {fr : FR} {ai : FI} {ar : FR} {N : Nat} {w lg : Nat → Nat} {E : Nat} (cm : CM fr ar) (bd : Bd w) (hK : K fi ai w lg E) {s k v : Nat} (hs : s < 6) (hk : k < 1000) : CP mX9_putValue 0 0 0 [.ref (rf 9 1), .int (nI s), .int (nI k), .int (nI v)] fi fr ai ar N (kQ (none) fi fr ai ar N (fun fi ai => K fi ai (upN w (1106 + 1000 * s + k) v) lg E)) := by
  have h1 := bd.1
  have h3 := bd.2.1
  have hF : FR1 fi ai fi ai := FR1_rf
  change EV mX9_putValue 0 0 0 0 [some (.ref (rf 9 1)), some (.int (nI s)), some (.int (nI k)), some (.int (nI v))] [] fi fr ai ar N (kQ (none) fi fr ai ar N (fun fi ai => K fi ai (upN w (1106 + 1000 * s + k) v) lg E))
  refine e_aload_n dX9_putValue_0 rfl rfl ?_
  refine e_getR dX9_putValue_1 fl_X9_9 rfl (cm_vals cm) ?_
  refine e_iload_n dX9_putValue_4 rfl rfl ?_
  refine e_sipush (v := nI 1000) dX9_putValue_5 rfl ?_
  first | ((with_reducible refine mk_nn ?_); refine n_imul dX9_putValue_8 ?_) | refine e_imul dX9_putValue_8 ?_
  refine e_iload_n dX9_putValue_9 rfl rfl ?_
  first | ((with_reducible refine mk_nn ?_); refine n_iadd dX9_putValue_10 ?_) | refine e_iadd dX9_putValue_10 ?_
  refine e_iload_n dX9_putValue_11 rfl rfl ?_
  refine e_sv dX9_putValue_12 bd hK (by first | omega | (simp (disch := omega) only [upN_n, upN_s]; omega)) hF (fun ai hF hK => ?_)
  have bd := Bd_K bd hK (by omega)
  refine e_ret none rfl (r_void dX9_putValue_13 rfl) ?_
  refine kq rfl hF (K_eq hK ?_)
  rw [show 1106 + (s * 1000 + k) = 1106 + 1000 * s + k by omega]
theorem ct_X9_loseValues {fi : FI} {fr : FR} {ai : FI} {ar : FR} {N : Nat} {w lg : Nat → Nat} {E : Nat} (cm : CM fr ar) (bd : Bd w) (hK : K fi ai w lg E) {s a b : Nat} (hs : s < 6) (hab : a ≤ b) (hb : b ≤ 1000) : CP mX9_loseValues 1 0 0 [.ref (rf 9 1), .int (nI s), .int (nI a), .int (nI b)] fi fr ai ar N (kQ (none) fi fr ai ar N (fun fi ai => K fi ai (loF w (1106 + 1000 * s + a) (b - a)) lg E)) := by
  have h1 := bd.1
  have h3 := bd.2.1
  have hF : FR1 fi ai fi ai := FR1_rf
  change EV mX9_loseValues 1 0 0 0 [some (.ref (rf 9 1)), some (.int (nI s)), some (.int (nI a)), some (.int (nI b)), none] [] fi fr ai ar N (kQ (none) fi fr ai ar N (fun fi ai => K fi ai (loF w (1106 + 1000 * s + a) (b - a)) lg E))
  have key := ev_up (P := (fun j => ∀ fi2 ai2, FR1 fi ai fi2 ai2 → K fi2 ai2 (loF w (1106 + 1000 * s + a) j) lg E → EV mX9_loseValues 1 0 0 3 [some (.ref (rf 9 1)), some (.int (nI s)), some (.int (nI a)), some (.int (nI b)), some (.int (nI (a + j)))] [] fi2 fr ai2 ar N (kQ (none) fi fr ai ar N (fun fi ai => K fi ai (loF w (1106 + 1000 * s + a) (b - a)) lg E)))) (b - a) (fun j hj ih fi2 ai2 hF hK => by
    have bd := Bd_fr (w := w) (fun q hq => loF_fr (a := 1106 + 1000 * s + a) (j := j) (by omega)) bd
    refine e_iload dX9_loseValues_3 rfl ?_
    refine e_iload_n dX9_loseValues_5 rfl rfl ?_
    first | ((with_reducible refine mk_nn ?_); refine n_icmp_ge (tgt := 23) dX9_loseValues_6 (by decide) (by omega) (by omega) (fun h6 => ?_) (fun h6 => ?_)) | refine e_icmp_ge (tgt := 23) dX9_loseValues_6 (by decide) (fun h6 => ?_) (fun h6 => ?_)
    · try first | contradiction | omega
      all_goals
        refine e_ret none rfl (r_void dX9_loseValues_23 rfl) ?_
        exact xq (by first | rfl | simp_all [bI_t, bI_f]) rfl rfl rfl rfl rfl
    · try first | contradiction | omega
      all_goals
        refine e_aload_n dX9_loseValues_9 rfl rfl ?_
        refine e_iload_n dX9_loseValues_10 rfl rfl ?_
        refine e_iload dX9_loseValues_11 rfl ?_
        refine e_iconst (v := nI 0) dX9_loseValues_13 rfl ?_
        refine ky_V3 (M' := mX9_putValue) dX9_loseValues_14 ml_X9_76 ok_X9_putValue (by decide) rfl im_X9_putValue se_X9_putValue (ct_X9_putValue cm bd hK (by omega) (by omega)) (Nat.le_of_ble_eq_true rfl) (by decide) (Nat.le_of_ble_eq_true rfl) (fun fi ai hG hK => ?_)
        have hF := FR1_tr hF hG
        first | refine n_inc dX9_loseValues_17 rfl (Nat.le_of_ble_eq_true rfl) rfl ?_ | refine e_iinc dX9_loseValues_17 rfl rfl (Nat.le_of_ble_eq_true rfl) rfl ?_
        refine e_goto (tgt := 3) dX9_loseValues_20 (by decide) ?_
        refine ih _ _ hF (K_eq hK ?_)
        rw [show 1106 + 1000 * s + (a + j) = 1106 + 1000 * s + a + j by omega, loF_s]
    ) (fun fi2 ai2 hF hK => by
    refine e_iload dX9_loseValues_3 rfl ?_
    refine e_iload_n dX9_loseValues_5 rfl rfl ?_
    first | ((with_reducible refine mk_nn ?_); refine n_icmp_ge (tgt := 23) dX9_loseValues_6 (by decide) (by omega) (by omega) (fun h6 => ?_) (fun h6 => ?_)) | refine e_icmp_ge (tgt := 23) dX9_loseValues_6 (by decide) (fun h6 => ?_) (fun h6 => ?_)
    · try first | contradiction | omega
      all_goals
        refine e_ret none rfl (r_void dX9_loseValues_23 rfl) ?_
        exact kq rfl hF hK
    · try first | contradiction | omega
      all_goals
        refine e_aload_n dX9_loseValues_9 rfl rfl ?_
        refine e_iload_n dX9_loseValues_10 rfl rfl ?_
        refine e_iload dX9_loseValues_11 rfl ?_
        refine e_iconst (v := nI 0) dX9_loseValues_13 rfl ?_
        refine ky_V3 (M' := mX9_putValue) dX9_loseValues_14 ml_X9_76 ok_X9_putValue (by decide) rfl im_X9_putValue se_X9_putValue (ct_X9_putValue cm bd hK (by omega) (by omega)) (Nat.le_of_ble_eq_true rfl) (by decide) (Nat.le_of_ble_eq_true rfl) (fun fi ai hG hK => ?_)
        have hF := FR1_tr hF hG
        first | refine n_inc dX9_loseValues_17 rfl (Nat.le_of_ble_eq_true rfl) rfl ?_ | refine e_iinc dX9_loseValues_17 rfl rfl (Nat.le_of_ble_eq_true rfl) rfl ?_
        refine e_goto (tgt := 3) dX9_loseValues_20 (by decide) ?_
        contradiction
    )
  refine e_iload_n dX9_loseValues_0 rfl rfl ?_
  refine e_istore dX9_loseValues_1 (Nat.le_of_ble_eq_true rfl) rfl ?_
  exact key 0 (by omega) _ _ hF (K_eq hK (loF_0 _ _).symm)
theorem ct_X9_bringUp {fi : FI} {fr : FR} {ai : FI} {ar : FR} {N : Nat} {w lg : Nat → Nat} {E : Nat} (cm : CM fr ar) (iv : Inv w) (hK : K fi ai w lg E) (x : Int32) : CP mX9_bringUp 1 0 0 [.ref (rf 9 1), .int x] fi fr ai ar N (kQ (some (.int (bI (inR x 6 && decide (w (4 + x.toNatClampNeg) ≠ 1))))) fi fr ai ar N (fun fi ai => K fi ai (if inR x 6 && decide (w (4 + x.toNatClampNeg) ≠ 1) then upN w (4 + x.toNatClampNeg) 1 else w) lg E)) := by
  have h1 := iv_n iv
  have h3 := iv_mm iv
  have bd := Bd_iv iv
  have hF : FR1 fi ai fi ai := FR1_rf
  change EV mX9_bringUp 1 0 0 0 [some (.ref (rf 9 1)), some (.int x)] [] fi fr ai ar N (kQ (some (.int (bI (inR x 6 && decide (w (4 + x.toNatClampNeg) ≠ 1))))) fi fr ai ar N (fun fi ai => K fi ai (if inR x 6 && decide (w (4 + x.toNatClampNeg) ≠ 1) then upN w (4 + x.toNatClampNeg) 1 else w) lg E))
  cases hx : inR x 6 with
  | false =>
    rw [Bool.false_and, if_neg (by decide)]
    refine e_iload_n dX9_bringUp_0 rfl rfl ?_
    refine x_N1 (M' := mX10_isServer) dX9_bringUp_1 (List.mem_of_getElem? (i := 9) rfl) ok_X10_isServer sc_X10_isServer (ct_X10_isServer _) (Nat.le_of_ble_eq_true rfl) (by decide) (Nat.le_of_ble_eq_true rfl) ?_
    rw [hx]
    first | ((with_reducible refine mk_b ?_); refine b_if_eq (tgt := 15) dX9_bringUp_4 (by decide) (fun h4 => ?_) (fun h4 => ?_)) | ((with_reducible refine mk_ll ?_); refine m_if_eq (tgt := 15) dX9_bringUp_4 (by decide) (by omega) (by omega) (fun h4 => ?_) (fun h4 => ?_)) | ((with_reducible refine mk_lc ?_); refine l_if_eq (tgt := 15) dX9_bringUp_4 (by decide) (fun h4 => ?_) (fun h4 => ?_)) | ((with_reducible refine mk_n ?_); refine n_if_eq (tgt := 15) dX9_bringUp_4 (by decide) (by omega) (fun h4 => ?_) (fun h4 => ?_)) | refine e_if_eq (tgt := 15) dX9_bringUp_4 (by decide) (fun h4 => ?_) (fun h4 => ?_)
    · try first | contradiction | omega | (simp only [decide_eq_true_eq, decide_eq_false_iff_not] at h4; omega)
      all_goals
        refine e_iconst (v := nI 0) dX9_bringUp_15 rfl ?_
        first | ((with_reducible refine mk_b ?_); refine e_ret (some _) rfl (r_bool dX9_bringUp_16 rfl) ?_) | ((with_reducible refine mk_n1 ?_); refine e_ret (some _) rfl (r_b1 dX9_bringUp_16 rfl) ?_) | ((with_reducible refine mk_n0 ?_); refine e_ret (some _) rfl (r_b0 dX9_bringUp_16 rfl) ?_)
        exact kq rfl hF hK
    · try first | contradiction | omega | (simp only [decide_eq_true_eq, decide_eq_false_iff_not] at h4; omega)
      all_goals
        contradiction
  | true =>
    obtain ⟨s, hs, hs2, rfl⟩ := inR_ex hx
    rw [Bool.true_and, nI_clamp hs2]
    have hb := ubF_bit iv hs
    have hu := iv_up iv hs
    by_cases e : w (4 + s) = 1
    · rw [decide_eq_false (fun h => h e), if_neg (by decide)]
      have e2 : decide (w (4 + s) = 1) = true := decide_eq_true e
      refine e_iload_n dX9_bringUp_0 rfl rfl ?_
      refine x_N1 (M' := mX10_isServer) dX9_bringUp_1 (List.mem_of_getElem? (i := 9) rfl) ok_X10_isServer sc_X10_isServer (ct_X10_isServer _) (Nat.le_of_ble_eq_true rfl) (by decide) (Nat.le_of_ble_eq_true rfl) ?_
      rw [hx]
      first | ((with_reducible refine mk_b ?_); refine b_if_eq (tgt := 15) dX9_bringUp_4 (by decide) (fun h4 => ?_) (fun h4 => ?_)) | ((with_reducible refine mk_ll ?_); refine m_if_eq (tgt := 15) dX9_bringUp_4 (by decide) (by omega) (by omega) (fun h4 => ?_) (fun h4 => ?_)) | ((with_reducible refine mk_lc ?_); refine l_if_eq (tgt := 15) dX9_bringUp_4 (by decide) (fun h4 => ?_) (fun h4 => ?_)) | ((with_reducible refine mk_n ?_); refine n_if_eq (tgt := 15) dX9_bringUp_4 (by decide) (by omega) (fun h4 => ?_) (fun h4 => ?_)) | refine e_if_eq (tgt := 15) dX9_bringUp_4 (by decide) (fun h4 => ?_) (fun h4 => ?_)
      · try first | contradiction | omega | (simp only [decide_eq_true_eq, decide_eq_false_iff_not] at h4; omega)
        all_goals
          refine e_iconst (v := nI 0) dX9_bringUp_15 rfl ?_
          first | ((with_reducible refine mk_b ?_); refine e_ret (some _) rfl (r_bool dX9_bringUp_16 rfl) ?_) | ((with_reducible refine mk_n1 ?_); refine e_ret (some _) rfl (r_b1 dX9_bringUp_16 rfl) ?_) | ((with_reducible refine mk_n0 ?_); refine e_ret (some _) rfl (r_b0 dX9_bringUp_16 rfl) ?_)
          exact kq rfl hF hK
      · try first | contradiction | omega | (simp only [decide_eq_true_eq, decide_eq_false_iff_not] at h4; omega)
        all_goals
          refine e_aload_n dX9_bringUp_7 rfl rfl ?_
          refine e_iload_n dX9_bringUp_8 rfl rfl ?_
          refine x_V1 (M' := mX9_isUp) dX9_bringUp_9 ml_X9_73 ok_X9_isUp (by decide) rfl im_X9_isUp se_X9_isUp (ct_X9_isUp cm iv hK (by omega)) (Nat.le_of_ble_eq_true rfl) (by decide) (Nat.le_of_ble_eq_true rfl) ?_
          rw [e2]
          first | ((with_reducible refine mk_b ?_); refine b_if_eq (tgt := 17) dX9_bringUp_12 (by decide) (fun h12 => ?_) (fun h12 => ?_)) | ((with_reducible refine mk_ll ?_); refine m_if_eq (tgt := 17) dX9_bringUp_12 (by decide) (by omega) (by omega) (fun h12 => ?_) (fun h12 => ?_)) | ((with_reducible refine mk_lc ?_); refine l_if_eq (tgt := 17) dX9_bringUp_12 (by decide) (fun h12 => ?_) (fun h12 => ?_)) | ((with_reducible refine mk_n ?_); refine n_if_eq (tgt := 17) dX9_bringUp_12 (by decide) (by omega) (fun h12 => ?_) (fun h12 => ?_)) | refine e_if_eq (tgt := 17) dX9_bringUp_12 (by decide) (fun h12 => ?_) (fun h12 => ?_)
          · try first | contradiction | omega | (simp only [decide_eq_true_eq, decide_eq_false_iff_not] at h12; omega)
            all_goals
              contradiction
          · try first | contradiction | omega | (simp only [decide_eq_true_eq, decide_eq_false_iff_not] at h12; omega)
            all_goals
              refine e_iconst (v := nI 0) dX9_bringUp_15 rfl ?_
              first | ((with_reducible refine mk_b ?_); refine e_ret (some _) rfl (r_bool dX9_bringUp_16 rfl) ?_) | ((with_reducible refine mk_n1 ?_); refine e_ret (some _) rfl (r_b1 dX9_bringUp_16 rfl) ?_) | ((with_reducible refine mk_n0 ?_); refine e_ret (some _) rfl (r_b0 dX9_bringUp_16 rfl) ?_)
              exact kq rfl hF hK
    · rw [decide_eq_true e, if_pos rfl]
      have e2 : decide (w (4 + s) = 1) = false := decide_eq_false e
      refine e_iload_n dX9_bringUp_0 rfl rfl ?_
      refine x_N1 (M' := mX10_isServer) dX9_bringUp_1 (List.mem_of_getElem? (i := 9) rfl) ok_X10_isServer sc_X10_isServer (ct_X10_isServer _) (Nat.le_of_ble_eq_true rfl) (by decide) (Nat.le_of_ble_eq_true rfl) ?_
      rw [hx]
      first | ((with_reducible refine mk_b ?_); refine b_if_eq (tgt := 15) dX9_bringUp_4 (by decide) (fun h4 => ?_) (fun h4 => ?_)) | ((with_reducible refine mk_ll ?_); refine m_if_eq (tgt := 15) dX9_bringUp_4 (by decide) (by omega) (by omega) (fun h4 => ?_) (fun h4 => ?_)) | ((with_reducible refine mk_lc ?_); refine l_if_eq (tgt := 15) dX9_bringUp_4 (by decide) (fun h4 => ?_) (fun h4 => ?_)) | ((with_reducible refine mk_n ?_); refine n_if_eq (tgt := 15) dX9_bringUp_4 (by decide) (by omega) (fun h4 => ?_) (fun h4 => ?_)) | refine e_if_eq (tgt := 15) dX9_bringUp_4 (by decide) (fun h4 => ?_) (fun h4 => ?_)
      · try first | contradiction | omega | (simp only [decide_eq_true_eq, decide_eq_false_iff_not] at h4; omega)
        all_goals
          refine e_iconst (v := nI 0) dX9_bringUp_15 rfl ?_
          first | ((with_reducible refine mk_b ?_); refine e_ret (some _) rfl (r_bool dX9_bringUp_16 rfl) ?_) | ((with_reducible refine mk_n1 ?_); refine e_ret (some _) rfl (r_b1 dX9_bringUp_16 rfl) ?_) | ((with_reducible refine mk_n0 ?_); refine e_ret (some _) rfl (r_b0 dX9_bringUp_16 rfl) ?_)
          exact kq rfl hF hK
      · try first | contradiction | omega | (simp only [decide_eq_true_eq, decide_eq_false_iff_not] at h4; omega)
        all_goals
          refine e_aload_n dX9_bringUp_7 rfl rfl ?_
          refine e_iload_n dX9_bringUp_8 rfl rfl ?_
          refine x_V1 (M' := mX9_isUp) dX9_bringUp_9 ml_X9_73 ok_X9_isUp (by decide) rfl im_X9_isUp se_X9_isUp (ct_X9_isUp cm iv hK (by omega)) (Nat.le_of_ble_eq_true rfl) (by decide) (Nat.le_of_ble_eq_true rfl) ?_
          rw [e2]
          first | ((with_reducible refine mk_b ?_); refine b_if_eq (tgt := 17) dX9_bringUp_12 (by decide) (fun h12 => ?_) (fun h12 => ?_)) | ((with_reducible refine mk_ll ?_); refine m_if_eq (tgt := 17) dX9_bringUp_12 (by decide) (by omega) (by omega) (fun h12 => ?_) (fun h12 => ?_)) | ((with_reducible refine mk_lc ?_); refine l_if_eq (tgt := 17) dX9_bringUp_12 (by decide) (fun h12 => ?_) (fun h12 => ?_)) | ((with_reducible refine mk_n ?_); refine n_if_eq (tgt := 17) dX9_bringUp_12 (by decide) (by omega) (fun h12 => ?_) (fun h12 => ?_)) | refine e_if_eq (tgt := 17) dX9_bringUp_12 (by decide) (fun h12 => ?_) (fun h12 => ?_)
          · try first | contradiction | omega | (simp only [decide_eq_true_eq, decide_eq_false_iff_not] at h12; omega)
            all_goals
              refine e_aload_n dX9_bringUp_17 rfl rfl ?_
              refine e_dup dX9_bringUp_18 rfl ?_
              refine e_getE dX9_bringUp_19 fl_X9_47 rfl (k_up hK) ?_
              refine e_iconst (v := nI 1) dX9_bringUp_22 rfl ?_
              refine e_iload_n dX9_bringUp_23 rfl rfl ?_
              refine e_ishl dX9_bringUp_24 ?_
              refine e_ior dX9_bringUp_25 ?_
              rw [up_or _ hb.1 _ hs (by omega), ← ub_set iv hs (by omega)]
              refine e_pup dX9_bringUp_26 fl_X9_47 bd hK hs rfl hF (fun fi hF hK => ?_)
              refine e_iconst (v := nI 1) dX9_bringUp_29 rfl ?_
              first | ((with_reducible refine mk_b ?_); refine e_ret (some _) rfl (r_bool dX9_bringUp_30 rfl) ?_) | ((with_reducible refine mk_n1 ?_); refine e_ret (some _) rfl (r_b1 dX9_bringUp_30 rfl) ?_) | ((with_reducible refine mk_n0 ?_); refine e_ret (some _) rfl (r_b0 dX9_bringUp_30 rfl) ?_)
              exact kq rfl hF hK
          · try first | contradiction | omega | (simp only [decide_eq_true_eq, decide_eq_false_iff_not] at h12; omega)
            all_goals
              refine e_iconst (v := nI 0) dX9_bringUp_15 rfl ?_
              first | ((with_reducible refine mk_b ?_); refine e_ret (some _) rfl (r_bool dX9_bringUp_16 rfl) ?_) | ((with_reducible refine mk_n1 ?_); refine e_ret (some _) rfl (r_b1 dX9_bringUp_16 rfl) ?_) | ((with_reducible refine mk_n0 ?_); refine e_ret (some _) rfl (r_b0 dX9_bringUp_16 rfl) ?_)
              exact kq rfl hF hK
theorem ct_X9_tellChunk {fi : FI} {fr : FR} {ai : FI} {ar : FR} {N : Nat} {w lg : Nat → Nat} {E : Nat} (cm : CM fr ar) (iv : Inv w) (hK : K fi ai w lg E) (x : Int32) : CP mX9_tellChunk 0 0 0 [.ref (rf 9 1), .int x] fi fr ai ar N (kQ (some (.int (bI (decide (1 ≤ x.toInt ∧ x.toInt ≤ 16))))) fi fr ai ar N (fun fi ai => K fi ai (if decide (1 ≤ x.toInt ∧ x.toInt ≤ 16) then upN w 2 x.toNatClampNeg else w) lg E)) := by
  have h1 := iv_n iv
  have h3 := iv_mm iv
  have bd := Bd_iv iv
  have hF : FR1 fi ai fi ai := FR1_rf
  change EV mX9_tellChunk 0 0 0 0 [some (.ref (rf 9 1)), some (.int x)] [] fi fr ai ar N (kQ (some (.int (bI (decide (1 ≤ x.toInt ∧ x.toInt ≤ 16))))) fi fr ai ar N (fun fi ai => K fi ai (if decide (1 ≤ x.toInt ∧ x.toInt ≤ 16) then upN w 2 x.toNatClampNeg else w) lg E))
  have t1 : (nI 1).toInt = 1 := by decide
  have t16 : (nI 16).toInt = 16 := by decide
  by_cases e : 1 ≤ x.toInt ∧ x.toInt ≤ 16
  · rw [decide_eq_true e, if_pos rfl]
    obtain ⟨a, ha, ha2, rfl⟩ := inR_ex (x := x) (n := 17) (by unfold inR; exact decide_eq_true (by omega))
    rw [nI_clamp ha2]
    rw [nI_toInt (b31 ha2)] at e
    refine e_iload_n dX9_tellChunk_0 rfl rfl ?_
    refine e_iconst (v := nI 1) dX9_tellChunk_1 rfl ?_
    first | ((with_reducible refine mk_nn ?_); refine n_icmp_lt (tgt := 11) dX9_tellChunk_2 (by decide) (by omega) (by omega) (fun h2 => ?_) (fun h2 => ?_)) | refine e_icmp_lt (tgt := 11) dX9_tellChunk_2 (by decide) (fun h2 => ?_) (fun h2 => ?_)
    · try first | contradiction | omega
      all_goals
        omega
    · try first | contradiction | omega
      all_goals
        refine e_iload_n dX9_tellChunk_5 rfl rfl ?_
        refine e_bipush (v := nI 16) dX9_tellChunk_6 rfl ?_
        first | ((with_reducible refine mk_nn ?_); refine n_icmp_le (tgt := 13) dX9_tellChunk_8 (by decide) (by omega) (by omega) (fun h8 => ?_) (fun h8 => ?_)) | refine e_icmp_le (tgt := 13) dX9_tellChunk_8 (by decide) (fun h8 => ?_) (fun h8 => ?_)
        · try first | contradiction | omega
          all_goals
            refine e_aload_n dX9_tellChunk_13 rfl rfl ?_
            refine e_iload_n dX9_tellChunk_14 rfl rfl ?_
            refine e_pch dX9_tellChunk_15 fl_X9_50 bd hK hF (fun fi hF hK => ?_)
            refine e_iconst (v := nI 1) dX9_tellChunk_18 rfl ?_
            first | ((with_reducible refine mk_b ?_); refine e_ret (some _) rfl (r_bool dX9_tellChunk_19 rfl) ?_) | ((with_reducible refine mk_n1 ?_); refine e_ret (some _) rfl (r_b1 dX9_tellChunk_19 rfl) ?_) | ((with_reducible refine mk_n0 ?_); refine e_ret (some _) rfl (r_b0 dX9_tellChunk_19 rfl) ?_)
            exact kq rfl hF hK
        · try first | contradiction | omega
          all_goals
            omega
  · rw [decide_eq_false e, if_neg (by decide)]
    refine e_iload_n dX9_tellChunk_0 rfl rfl ?_
    refine e_iconst (v := nI 1) dX9_tellChunk_1 rfl ?_
    first | ((with_reducible refine mk_nn ?_); refine n_icmp_lt (tgt := 11) dX9_tellChunk_2 (by decide) (by omega) (by omega) (fun h2 => ?_) (fun h2 => ?_)) | refine e_icmp_lt (tgt := 11) dX9_tellChunk_2 (by decide) (fun h2 => ?_) (fun h2 => ?_)
    · try first | contradiction | omega
      all_goals
        refine e_iconst (v := nI 0) dX9_tellChunk_11 rfl ?_
        first | ((with_reducible refine mk_b ?_); refine e_ret (some _) rfl (r_bool dX9_tellChunk_12 rfl) ?_) | ((with_reducible refine mk_n1 ?_); refine e_ret (some _) rfl (r_b1 dX9_tellChunk_12 rfl) ?_) | ((with_reducible refine mk_n0 ?_); refine e_ret (some _) rfl (r_b0 dX9_tellChunk_12 rfl) ?_)
        exact kq rfl hF hK
    · try first | contradiction | omega
      all_goals
        refine e_iload_n dX9_tellChunk_5 rfl rfl ?_
        refine e_bipush (v := nI 16) dX9_tellChunk_6 rfl ?_
        first | ((with_reducible refine mk_nn ?_); refine n_icmp_le (tgt := 13) dX9_tellChunk_8 (by decide) (by omega) (by omega) (fun h8 => ?_) (fun h8 => ?_)) | refine e_icmp_le (tgt := 13) dX9_tellChunk_8 (by decide) (fun h8 => ?_) (fun h8 => ?_)
        · try first | contradiction | omega
          all_goals
            exfalso; simp only [Int32.lt_iff_toInt_lt, Int32.le_iff_toInt_le, t1, t16] at *; omega
        · try first | contradiction | omega
          all_goals
            refine e_iconst (v := nI 0) dX9_tellChunk_11 rfl ?_
            first | ((with_reducible refine mk_b ?_); refine e_ret (some _) rfl (r_bool dX9_tellChunk_12 rfl) ?_) | ((with_reducible refine mk_n1 ?_); refine e_ret (some _) rfl (r_b1 dX9_tellChunk_12 rfl) ?_) | ((with_reducible refine mk_n0 ?_); refine e_ret (some _) rfl (r_b0 dX9_tellChunk_12 rfl) ?_)
            exact kq rfl hF hK
theorem ct_X9_halveWeights {fi : FI} {fr : FR} {ai : FI} {ar : FR} {N : Nat} {w lg : Nat → Nat} {E : Nat} (cm : CM fr ar) (iv : Inv w) (hK : K fi ai w lg E)  : CP mX9_halveWeights 0 0 0 [.ref (rf 9 1)] fi fr ai ar N (kQ (some (.long (lN (rs (fun k => ageW w (106 + k)) 0 1000)))) fi fr ai ar N (fun fi ai => K fi ai (ageW w) lg E)) := by
  have h1 := iv_n iv
  have h3 := iv_mm iv
  have bd := Bd_iv iv
  have hF : FR1 fi ai fi ai := FR1_rf
  change EV mX9_halveWeights 0 0 0 0 [some (.ref (rf 9 1)), none, none, none] [] fi fr ai ar N (kQ (some (.long (lN (rs (fun k => ageW w (106 + k)) 0 1000)))) fi fr ai ar N (fun fi ai => K fi ai (ageW w) lg E))
  have key := ev_up (P := (fun j => ∀ fi2 ai2, FR1 fi ai fi2 ai2 → K fi2 ai2 (agF w j) lg E → EV mX9_halveWeights 0 0 0 4 [some (.ref (rf 9 1)), some (.long (lN (rs (fun k => w (106 + k) / 2) 0 j))), none, some (.int (nI j))] [] fi2 fr ai2 ar N (kQ (some (.long (lN (rs (fun k => ageW w (106 + k)) 0 1000)))) fi fr ai ar N (fun fi ai => K fi ai (ageW w) lg E)))) (1000) (fun j hj ih fi2 ai2 hF hK => by
    have hw := iv_wt iv hj
    have bd := Bd_fr2 (w := w) (fun q hq => agF_fr (j := j) (by omega)) bd
    have ha : agF w j (106 + j) = w (106 + j) := agF_fr (by omega)
    refine e_iload_n dX9_halveWeights_4 rfl rfl ?_
    refine e_sipush (v := nI 1000) dX9_halveWeights_5 rfl ?_
    first | ((with_reducible refine mk_nn ?_); refine n_icmp_ge (tgt := 37) dX9_halveWeights_8 (by decide) (by omega) (by omega) (fun h8 => ?_) (fun h8 => ?_)) | refine e_icmp_ge (tgt := 37) dX9_halveWeights_8 (by decide) (fun h8 => ?_) (fun h8 => ?_)
    · try first | contradiction | omega
      all_goals
        refine e_lload_n dX9_halveWeights_37 rfl rfl ?_
        refine e_ret (some _) rfl (r_long dX9_halveWeights_38 rfl) ?_
        exact xq (by first | rfl | simp_all [bI_t, bI_f]) rfl rfl rfl rfl rfl
    · try first | contradiction | omega
      all_goals
        refine e_aload_n dX9_halveWeights_11 rfl rfl ?_
        refine e_getR dX9_halveWeights_12 fl_X9_15 rfl (cm_wts cm) ?_
        refine e_iload_n dX9_halveWeights_15 rfl rfl ?_
        refine e_dup2 dX9_halveWeights_16 rfl rfl ?_
        refine e_iadE _ dX9_halveWeights_17 ⟨by decide, by decide⟩ rfl rfl (by simp only [lenK]; omega) (k_wt hK (by first | omega | (simp (disch := omega) only [upN_n, upN_s]; omega))) ?_
        rw [ha]
        refine e_iconst (v := nI 2) dX9_halveWeights_18 rfl ?_
        first | ((with_reducible refine mk_nn ?_); refine n_idiv dX9_halveWeights_19 (by omega) (by omega) (by omega) ?_) | refine e_idiv dX9_halveWeights_19 (by decide) ?_
        refine e_sw dX9_halveWeights_20 bd hK (by first | omega | (simp (disch := omega) only [upN_n, upN_s]; omega)) hF (fun ai hF hK => ?_)
        have bd := Bd_K bd hK (by omega)
        refine e_lload_n dX9_halveWeights_21 rfl rfl ?_
        refine e_aload_n dX9_halveWeights_22 rfl rfl ?_
        refine e_getR dX9_halveWeights_23 fl_X9_15 rfl (cm_wts cm) ?_
        refine e_iload_n dX9_halveWeights_26 rfl rfl ?_
        refine e_iadE _ dX9_halveWeights_27 ⟨by decide, by decide⟩ rfl rfl (by simp only [lenK]; omega) (k_wt hK (by first | omega | (simp (disch := omega) only [upN_n, upN_s]; omega))) ?_
        rw [upN_s]
        first | ((with_reducible refine mk_n ?_); refine n_i2l dX9_halveWeights_28 (by omega) ?_) | refine e_i2l dX9_halveWeights_28 ?_
        first | ((with_reducible refine mk_LL ?_); refine n_ladd dX9_halveWeights_29 ?_) | refine e_ladd dX9_halveWeights_29 ?_
        refine e_lstore_n dX9_halveWeights_30 rfl (Nat.le_of_ble_eq_true rfl) rfl ?_
        first | refine n_inc dX9_halveWeights_31 rfl (Nat.le_of_ble_eq_true rfl) rfl ?_ | refine e_iinc dX9_halveWeights_31 rfl rfl (Nat.le_of_ble_eq_true rfl) rfl ?_
        refine e_goto (tgt := 4) dX9_halveWeights_34 (by decide) ?_
        have ih := ih _ _ hF (K_eq hK (agF_s w j))
        rw [rs_s, Nat.zero_add] at ih
        exact ih
    ) (fun fi2 ai2 hF hK => by
    refine e_iload_n dX9_halveWeights_4 rfl rfl ?_
    refine e_sipush (v := nI 1000) dX9_halveWeights_5 rfl ?_
    first | ((with_reducible refine mk_nn ?_); refine n_icmp_ge (tgt := 37) dX9_halveWeights_8 (by decide) (by omega) (by omega) (fun h8 => ?_) (fun h8 => ?_)) | refine e_icmp_ge (tgt := 37) dX9_halveWeights_8 (by decide) (fun h8 => ?_) (fun h8 => ?_)
    · try first | contradiction | omega
      all_goals
        refine e_lload_n dX9_halveWeights_37 rfl rfl ?_
        refine e_ret (some _) rfl (r_long dX9_halveWeights_38 rfl) ?_
        refine kq ?_ hF hK
        rw [rs_ext (f := fun k => ageW w (106 + k)) (g := fun k => w (106 + k) / 2) 1000 (fun j hj => by show ageW w (106 + (0 + j)) = w (106 + (0 + j)) / 2; unfold ageW agF; rw [if_pos (by omega)])]
    · try first | contradiction | omega
      all_goals
        refine e_aload_n dX9_halveWeights_11 rfl rfl ?_
        refine e_getR dX9_halveWeights_12 fl_X9_15 rfl (cm_wts cm) ?_
        refine e_iload_n dX9_halveWeights_15 rfl rfl ?_
        refine e_dup2 dX9_halveWeights_16 rfl rfl ?_
        refine e_iadE _ dX9_halveWeights_17 ⟨by decide, by decide⟩ rfl rfl (by simp only [lenK]; omega) (k_wt hK (by first | omega | (simp (disch := omega) only [upN_n, upN_s]; omega))) ?_
        refine e_iconst (v := nI 2) dX9_halveWeights_18 rfl ?_
        first | ((with_reducible refine mk_nn ?_); refine n_idiv dX9_halveWeights_19 (by omega) (by omega) (by omega) ?_) | refine e_idiv dX9_halveWeights_19 (by decide) ?_
        refine e_sw dX9_halveWeights_20 bd hK (by first | omega | (simp (disch := omega) only [upN_n, upN_s]; omega)) hF (fun ai hF hK => ?_)
        have bd := Bd_K bd hK (by omega)
        refine e_lload_n dX9_halveWeights_21 rfl rfl ?_
        refine e_aload_n dX9_halveWeights_22 rfl rfl ?_
        refine e_getR dX9_halveWeights_23 fl_X9_15 rfl (cm_wts cm) ?_
        refine e_iload_n dX9_halveWeights_26 rfl rfl ?_
        refine e_iadE _ dX9_halveWeights_27 ⟨by decide, by decide⟩ rfl rfl (by simp only [lenK]; omega) (k_wt hK (by first | omega | (simp (disch := omega) only [upN_n, upN_s]; omega))) ?_
        first | ((with_reducible refine mk_n ?_); refine n_i2l dX9_halveWeights_28 (by omega) ?_) | refine e_i2l dX9_halveWeights_28 ?_
        first | ((with_reducible refine mk_LL ?_); refine n_ladd dX9_halveWeights_29 ?_) | refine e_ladd dX9_halveWeights_29 ?_
        refine e_lstore_n dX9_halveWeights_30 rfl (Nat.le_of_ble_eq_true rfl) rfl ?_
        first | refine n_inc dX9_halveWeights_31 rfl (Nat.le_of_ble_eq_true rfl) rfl ?_ | refine e_iinc dX9_halveWeights_31 rfl rfl (Nat.le_of_ble_eq_true rfl) rfl ?_
        refine e_goto (tgt := 4) dX9_halveWeights_34 (by decide) ?_
        contradiction
    )
  refine e_lconst (v := lN 0) dX9_halveWeights_0 rfl ?_
  refine e_lstore_n dX9_halveWeights_1 rfl (Nat.le_of_ble_eq_true rfl) rfl ?_
  refine e_iconst (v := nI 0) dX9_halveWeights_2 rfl ?_
  refine e_istore_n dX9_halveWeights_3 rfl (Nat.le_of_ble_eq_true rfl) rfl ?_
  exact key 0 (by omega) _ _ hF (K_eq hK (agF_0 _).symm)
theorem ct_X3_add {fi : FI} {fr : FR} {ai : FI} {ar : FR} {N : Nat} {w lg : Nat → Nat} {E : Nat} (cm : CM fr ar) (bd : Bd w) (hK : K fi ai w lg E) {j v : Nat} (hj : j < 15) : CP mX3_add 0 0 0 [.ref (rf 3 58), .int (nI j), .int (nI v)] fi fr ai ar N (kQ (none) fi fr ai ar N (fun fi ai => K fi ai (upN w (8558 + j) (w (8558 + j) + v)) lg E)) := by
  have h1 := bd.1
  have h3 := bd.2.1
  have hF : FR1 fi ai fi ai := FR1_rf
  change EV mX3_add 0 0 0 0 [some (.ref (rf 3 58)), some (.int (nI j)), some (.int (nI v))] [] fi fr ai ar N (kQ (none) fi fr ai ar N (fun fi ai => K fi ai (upN w (8558 + j) (w (8558 + j) + v)) lg E))
  refine e_aload_n dX3_add_0 rfl rfl ?_
  refine e_getR dX3_add_1 fl_X3_9 rfl (cl_cnt cm) ?_
  refine e_iload_n dX3_add_4 rfl rfl ?_
  refine e_dup2 dX3_add_5 rfl rfl ?_
  refine e_iadE _ dX3_add_6 ⟨by decide, by decide⟩ rfl rfl (by simp only [lenK]; omega) (k_cnt hK (by first | omega | (simp (disch := omega) only [upN_n, upN_s]; omega))) ?_
  refine e_iload_n dX3_add_7 rfl rfl ?_
  first | ((with_reducible refine mk_nn ?_); refine n_iadd dX3_add_8 ?_) | refine e_iadd dX3_add_8 ?_
  refine e_sc dX3_add_9 bd hK (by first | omega | (simp (disch := omega) only [upN_n, upN_s]; omega)) hF (fun ai hF hK => ?_)
  have bd := Bd_K bd hK (by omega)
  refine e_ret none rfl (r_void dX3_add_10 rfl) ?_
  exact kq rfl hF hK
/-- the answer is noted: a is the answer, d the count of what was done -/
def ntW (w : Nat → Nat) (c a d e : Nat) : Nat → Nat := if a = 0 then upN (upN (upN w (8573 + 4 * c) (w (8573 + 4 * c) + 1)) (8573 + 4 * c + 1) (w (8573 + 4 * c + 1) + 1)) (8558 + d) (w (8558 + d) + 1)
  else if a = 3 then upN (upN (upN (upN w (8573 + 4 * c) (w (8573 + 4 * c) + 1)) (8558 + (1 + a)) (w (8558 + (1 + a)) + 1)) (8573 + 4 * c + 2) (w (8573 + 4 * c + 2) + 1)) (8573 + 4 * c + 3) e
  else upN (upN w (8573 + 4 * c) (w (8573 + 4 * c) + 1)) (8558 + (1 + a)) (w (8558 + (1 + a)) + 1)
theorem ct_X3_noteAnswer {fi : FI} {fr : FR} {ai : FI} {ar : FR} {N : Nat} {w lg : Nat → Nat} {E : Nat} (cm : CM fr ar) (bd : Bd w) (hK : K fi ai w lg E) {c a dn e : Nat} (hc : c < 6) (ha : a ≤ 4) (hd : dn < 2) : CP mX3_noteAnswer 0 0 0 [.ref (rf 3 58), .int (nI c), .int (nI a), .int (nI dn), .int (nI e)] fi fr ai ar N (kQ (none) fi fr ai ar N (fun fi ai => K fi ai (ntW w c a dn e) lg E)) := by
  have h1 := bd.1
  have h3 := bd.2.1
  have hF : FR1 fi ai fi ai := FR1_rf
  change EV mX3_noteAnswer 0 0 0 0 [some (.ref (rf 3 58)), some (.int (nI c)), some (.int (nI a)), some (.int (nI dn)), some (.int (nI e))] [] fi fr ai ar N (kQ (none) fi fr ai ar N (fun fi ai => K fi ai (ntW w c a dn e) lg E))
  refine e_aload_n dX3_noteAnswer_0 rfl rfl ?_
  refine e_getR dX3_noteAnswer_1 fl_X3_15 rfl (cl_as cm) ?_
  refine e_iload_n dX3_noteAnswer_4 rfl rfl ?_
  refine e_dup2 dX3_noteAnswer_5 rfl rfl ?_
  refine e_iadE _ dX3_noteAnswer_6 ⟨by decide, by decide⟩ rfl rfl (by simp only [lenK]; omega) (k_as hK (by first | omega | (simp (disch := omega) only [upN_n, upN_s]; omega))) ?_
  try simp (disch := omega) only [upN_n, upN_s]
  refine e_iconst (v := nI 1) dX3_noteAnswer_7 rfl ?_
  first | ((with_reducible refine mk_nn ?_); refine n_iadd dX3_noteAnswer_8 ?_) | refine e_iadd dX3_noteAnswer_8 ?_
  refine e_sa0 dX3_noteAnswer_9 bd hK (by first | omega | (simp (disch := omega) only [upN_n, upN_s]; omega)) hF (fun ai hF hK => ?_)
  have bd := Bd_K bd hK (by omega)
  refine e_iload_n dX3_noteAnswer_10 rfl rfl ?_
  first | ((with_reducible refine mk_b ?_); refine b_if_ne (tgt := 35) dX3_noteAnswer_11 (by decide) (fun h11 => ?_) (fun h11 => ?_)) | ((with_reducible refine mk_ll ?_); refine m_if_ne (tgt := 35) dX3_noteAnswer_11 (by decide) (by omega) (by omega) (fun h11 => ?_) (fun h11 => ?_)) | ((with_reducible refine mk_lc ?_); refine l_if_ne (tgt := 35) dX3_noteAnswer_11 (by decide) (fun h11 => ?_) (fun h11 => ?_)) | ((with_reducible refine mk_n ?_); refine n_if_ne (tgt := 35) dX3_noteAnswer_11 (by decide) (by omega) (fun h11 => ?_) (fun h11 => ?_)) | refine e_if_ne (tgt := 35) dX3_noteAnswer_11 (by decide) (fun h11 => ?_) (fun h11 => ?_)
  · try first | contradiction | omega | (simp only [decide_eq_true_eq, decide_eq_false_iff_not] at h11; omega)
    all_goals
      refine e_aload_n dX3_noteAnswer_35 rfl rfl ?_
      refine e_getR dX3_noteAnswer_36 fl_X3_9 rfl (cl_cnt cm) ?_
      refine e_iconst (v := nI 1) dX3_noteAnswer_39 rfl ?_
      refine e_iload_n dX3_noteAnswer_40 rfl rfl ?_
      first | ((with_reducible refine mk_nn ?_); refine n_iadd dX3_noteAnswer_41 ?_) | refine e_iadd dX3_noteAnswer_41 ?_
      refine e_dup2 dX3_noteAnswer_42 rfl rfl ?_
      refine e_iadE _ dX3_noteAnswer_43 ⟨by decide, by decide⟩ rfl rfl (by simp only [lenK]; omega) (k_cnt hK (by first | omega | (simp (disch := omega) only [upN_n, upN_s]; omega))) ?_
      try simp (disch := omega) only [upN_n, upN_s]
      refine e_iconst (v := nI 1) dX3_noteAnswer_44 rfl ?_
      first | ((with_reducible refine mk_nn ?_); refine n_iadd dX3_noteAnswer_45 ?_) | refine e_iadd dX3_noteAnswer_45 ?_
      refine e_sc dX3_noteAnswer_46 bd hK (by first | omega | (simp (disch := omega) only [upN_n, upN_s]; omega)) hF (fun ai hF hK => ?_)
      have bd := Bd_K bd hK (by omega)
      refine e_iload_n dX3_noteAnswer_47 rfl rfl ?_
      refine e_iconst (v := nI 3) dX3_noteAnswer_48 rfl ?_
      first | ((with_reducible refine mk_mo ?_); refine p_icmp_ne (tgt := 70) dX3_noteAnswer_49 (by decide) (fun h49 => ?_) (fun h49 => ?_)) | ((with_reducible refine mk_ms ?_); refine s_icmp_ne (tgt := 70) dX3_noteAnswer_49 (by decide) (by omega) (fun h49 => ?_) (fun h49 => ?_)) | ((with_reducible refine mk_mn ?_); refine q_icmp_ne (tgt := 70) dX3_noteAnswer_49 (by decide) (by omega) (fun h49 => ?_) (fun h49 => ?_)) | ((with_reducible refine mk_nn ?_); refine n_icmp_ne (tgt := 70) dX3_noteAnswer_49 (by decide) (by omega) (by omega) (fun h49 => ?_) (fun h49 => ?_)) | refine e_icmp_ne (tgt := 70) dX3_noteAnswer_49 (by decide) (fun h49 => ?_) (fun h49 => ?_)
      · try first | contradiction | omega
        all_goals
          refine e_ret none rfl (r_void dX3_noteAnswer_70 rfl) ?_
          refine kq rfl hF (K_eq hK ?_)
          unfold ntW
          first | (rw [if_pos (by omega)]; done) | (rw [if_neg (by omega), if_pos (by omega)]; done) | (rw [if_neg (by omega), if_neg (by omega)]; done)
      · try first | contradiction | omega
        all_goals
          refine e_aload_n dX3_noteAnswer_52 rfl rfl ?_
          refine e_getR dX3_noteAnswer_53 fl_X3_21 rfl (cl_tu cm) ?_
          refine e_iload_n dX3_noteAnswer_56 rfl rfl ?_
          refine e_dup2 dX3_noteAnswer_57 rfl rfl ?_
          refine e_iadE _ dX3_noteAnswer_58 ⟨by decide, by decide⟩ rfl rfl (by simp only [lenK]; omega) (k_tu hK (by first | omega | (simp (disch := omega) only [upN_n, upN_s]; omega))) ?_
          try simp (disch := omega) only [upN_n, upN_s]
          refine e_iconst (v := nI 1) dX3_noteAnswer_59 rfl ?_
          first | ((with_reducible refine mk_nn ?_); refine n_iadd dX3_noteAnswer_60 ?_) | refine e_iadd dX3_noteAnswer_60 ?_
          refine e_sa2 dX3_noteAnswer_61 bd hK (by first | omega | (simp (disch := omega) only [upN_n, upN_s]; omega)) hF (fun ai hF hK => ?_)
          have bd := Bd_K bd hK (by omega)
          refine e_aload_n dX3_noteAnswer_62 rfl rfl ?_
          refine e_getR dX3_noteAnswer_63 fl_X3_24 rfl (cl_nm cm) ?_
          refine e_iload_n dX3_noteAnswer_66 rfl rfl ?_
          refine e_iload dX3_noteAnswer_67 rfl ?_
          refine e_sa3 dX3_noteAnswer_69 bd hK (by first | omega | (simp (disch := omega) only [upN_n, upN_s]; omega)) hF (fun ai hF hK => ?_)
          have bd := Bd_K bd hK (by omega)
          refine e_ret none rfl (r_void dX3_noteAnswer_70 rfl) ?_
          refine kq rfl hF (K_eq hK ?_)
          unfold ntW
          first | (rw [if_pos (by omega)]; done) | (rw [if_neg (by omega), if_pos (by omega)]; done) | (rw [if_neg (by omega), if_neg (by omega)]; done)
  · try first | contradiction | omega | (simp only [decide_eq_true_eq, decide_eq_false_iff_not] at h11; omega)
    all_goals
      refine e_aload_n dX3_noteAnswer_14 rfl rfl ?_
      refine e_getR dX3_noteAnswer_15 fl_X3_18 rfl (cl_an cm) ?_
      refine e_iload_n dX3_noteAnswer_18 rfl rfl ?_
      refine e_dup2 dX3_noteAnswer_19 rfl rfl ?_
      refine e_iadE _ dX3_noteAnswer_20 ⟨by decide, by decide⟩ rfl rfl (by simp only [lenK]; omega) (k_an hK (by first | omega | (simp (disch := omega) only [upN_n, upN_s]; omega))) ?_
      try simp (disch := omega) only [upN_n, upN_s]
      refine e_iconst (v := nI 1) dX3_noteAnswer_21 rfl ?_
      first | ((with_reducible refine mk_nn ?_); refine n_iadd dX3_noteAnswer_22 ?_) | refine e_iadd dX3_noteAnswer_22 ?_
      refine e_sa1 dX3_noteAnswer_23 bd hK (by first | omega | (simp (disch := omega) only [upN_n, upN_s]; omega)) hF (fun ai hF hK => ?_)
      have bd := Bd_K bd hK (by omega)
      refine e_aload_n dX3_noteAnswer_24 rfl rfl ?_
      refine e_getR dX3_noteAnswer_25 fl_X3_9 rfl (cl_cnt cm) ?_
      refine e_iload_n dX3_noteAnswer_28 rfl rfl ?_
      refine e_dup2 dX3_noteAnswer_29 rfl rfl ?_
      refine e_iadE _ dX3_noteAnswer_30 ⟨by decide, by decide⟩ rfl rfl (by simp only [lenK]; omega) (k_cnt hK (by first | omega | (simp (disch := omega) only [upN_n, upN_s]; omega))) ?_
      try simp (disch := omega) only [upN_n, upN_s]
      refine e_iconst (v := nI 1) dX3_noteAnswer_31 rfl ?_
      first | ((with_reducible refine mk_nn ?_); refine n_iadd dX3_noteAnswer_32 ?_) | refine e_iadd dX3_noteAnswer_32 ?_
      refine e_sc dX3_noteAnswer_33 bd hK (by first | omega | (simp (disch := omega) only [upN_n, upN_s]; omega)) hF (fun ai hF hK => ?_)
      have bd := Bd_K bd hK (by omega)
      refine e_ret none rfl (r_void dX3_noteAnswer_34 rfl) ?_
      refine kq rfl hF (K_eq hK ?_)
      unfold ntW
      first | (rw [if_pos (by omega)]; done) | (rw [if_neg (by omega), if_pos (by omega)]; done) | (rw [if_neg (by omega), if_neg (by omega)]; done)
theorem ct_X3_noteChange {fi : FI} {fr : FR} {ai : FI} {ar : FR} {N : Nat} {w lg : Nat → Nat} {E : Nat} (cm : CM fr ar) (bd : Bd w) (hK : K fi ai w lg E) {e kd lo ow : Nat} (he : e < 2048) (hE : e ≤ E + 1) : CP mX3_noteChange 0 0 0 [.ref (rf 3 58), .int (nI e), .int (nI kd), .int (nI lo), .int (nI ow)] fi fr ai ar N (kQ (none) fi fr ai ar N (fun fi ai => K fi ai w (upN lg e ((lo * 6 + ow) * 4 + kd)) e)) := by
  have h1 := bd.1
  have h3 := bd.2.1
  have hF : FR1 fi ai fi ai := FR1_rf
  change EV mX3_noteChange 0 0 0 0 [some (.ref (rf 3 58)), some (.int (nI e)), some (.int (nI kd)), some (.int (nI lo)), some (.int (nI ow))] [] fi fr ai ar N (kQ (none) fi fr ai ar N (fun fi ai => K fi ai w (upN lg e ((lo * 6 + ow) * 4 + kd)) e))
  refine e_iload_n dX3_noteChange_0 rfl rfl ?_
  first | ((with_reducible refine mk_ll ?_); refine m_if_lt (tgt := 28) dX3_noteChange_1 (by decide) (by omega) (by omega) (fun h1 => ?_) (fun h1 => ?_)) | ((with_reducible refine mk_lc ?_); refine l_if_lt (tgt := 28) dX3_noteChange_1 (by decide) (fun h1 => ?_) (fun h1 => ?_)) | ((with_reducible refine mk_n ?_); refine n_if_lt (tgt := 28) dX3_noteChange_1 (by decide) (by omega) (fun h1 => ?_) (fun h1 => ?_)) | refine e_if_lt (tgt := 28) dX3_noteChange_1 (by decide) (fun h1 => ?_) (fun h1 => ?_)
  · try first | contradiction | omega
    all_goals
      refine e_ret none rfl (r_void dX3_noteChange_28 rfl) ?_
      first | exact kq rfl hF hK | (exfalso; omega)
  · try first | contradiction | omega
    all_goals
      refine e_iload_n dX3_noteChange_4 rfl rfl ?_
      refine e_sipush (v := nI 2048) dX3_noteChange_5 rfl ?_
      first | ((with_reducible refine mk_nn ?_); refine n_icmp_ge (tgt := 28) dX3_noteChange_8 (by decide) (by omega) (by omega) (fun h8 => ?_) (fun h8 => ?_)) | refine e_icmp_ge (tgt := 28) dX3_noteChange_8 (by decide) (fun h8 => ?_) (fun h8 => ?_)
      · try first | contradiction | omega
        all_goals
          refine e_ret none rfl (r_void dX3_noteChange_28 rfl) ?_
          first | exact kq rfl hF hK | (exfalso; omega)
      · try first | contradiction | omega
        all_goals
          refine e_aload_n dX3_noteChange_11 rfl rfl ?_
          refine e_getR dX3_noteChange_12 fl_X3_27 rfl (cl_row cm) ?_
          refine e_iload_n dX3_noteChange_15 rfl rfl ?_
          refine e_iload_n dX3_noteChange_16 rfl rfl ?_
          refine e_bipush (v := nI 6) dX3_noteChange_17 rfl ?_
          first | ((with_reducible refine mk_nn ?_); refine n_imul dX3_noteChange_19 ?_) | refine e_imul dX3_noteChange_19 ?_
          refine e_iload dX3_noteChange_20 rfl ?_
          first | ((with_reducible refine mk_nn ?_); refine n_iadd dX3_noteChange_22 ?_) | refine e_iadd dX3_noteChange_22 ?_
          refine e_iconst (v := nI 4) dX3_noteChange_23 rfl ?_
          first | ((with_reducible refine mk_nn ?_); refine n_imul dX3_noteChange_24 ?_) | refine e_imul dX3_noteChange_24 ?_
          refine e_iload_n dX3_noteChange_25 rfl rfl ?_
          first | ((with_reducible refine mk_nn ?_); refine n_iadd dX3_noteChange_26 ?_) | refine e_iadd dX3_noteChange_26 ?_
          refine e_iast _ dX3_noteChange_27 ⟨by decide, by decide⟩ rfl rfl (by simp only [lenK]; omega) ?_
          have hF := FR1_a (x := nI ((lo * 6 + ow) * 4 + kd)) (j := e) (κ := 24) (n := 64) hF (by decide) (by omega)
          have hK := k_pr (v := (lo * 6 + ow) * 4 + kd) bd hK hE
          refine e_ret none rfl (r_void dX3_noteChange_28 rfl) ?_
          first | exact kq rfl hF hK | (exfalso; omega)
theorem ct_X4_countDown {fi : FI} {fr : FR} {ai : FI} {ar : FR} {N : Nat} {w lg : Nat → Nat} {E : Nat} (cm : CM fr ar) (bd : Bd w) (hK : K fi ai w lg E) {m : Nat} (hm : m < w 3) (h99 : w (7694 + 72 * m + 10) ≤ 99) : CP mX4_countDown 0 0 0 [.ref (rf 4 (34 + 2 * m))] fi fr ai ar N (kQ (some (.int (bI (decide (w (7694 + 72 * m + 10) = 1))))) fi fr ai ar N (fun fi ai => K fi ai (if 0 < w (7694 + 72 * m + 10) then upN w (7694 + 72 * m + 10) (w (7694 + 72 * m + 10) - 1) else w) lg E)) := by
  have h1 := bd.1
  have h3 := bd.2.1
  have hF : FR1 fi ai fi ai := FR1_rf
  change EV mX4_countDown 0 0 0 0 [some (.ref (rf 4 (34 + 2 * m)))] [] fi fr ai ar N (kQ (some (.int (bI (decide (w (7694 + 72 * m + 10) = 1))))) fi fr ai ar N (fun fi ai => K fi ai (if 0 < w (7694 + 72 * m + 10) then upN w (7694 + 72 * m + 10) (w (7694 + 72 * m + 10) - 1) else w) lg E))
  refine e_aload_n dX4_countDown_0 rfl rfl ?_
  refine e_getE dX4_countDown_1 fl_X4_47 rfl (k_m11 hK (by first | omega | (simp (disch := omega) only [upN_n, upN_s]; omega))) ?_
  try simp (disch := omega) only [upN_n, upN_s]
  first | ((with_reducible refine mk_b ?_); refine b_if_ne (tgt := 9) dX4_countDown_4 (by decide) (fun h4 => ?_) (fun h4 => ?_)) | ((with_reducible refine mk_ll ?_); refine m_if_ne (tgt := 9) dX4_countDown_4 (by decide) (by omega) (by omega) (fun h4 => ?_) (fun h4 => ?_)) | ((with_reducible refine mk_lc ?_); refine l_if_ne (tgt := 9) dX4_countDown_4 (by decide) (fun h4 => ?_) (fun h4 => ?_)) | ((with_reducible refine mk_n ?_); refine n_if_ne (tgt := 9) dX4_countDown_4 (by decide) (by omega) (fun h4 => ?_) (fun h4 => ?_)) | refine e_if_ne (tgt := 9) dX4_countDown_4 (by decide) (fun h4 => ?_) (fun h4 => ?_)
  · try first | contradiction | omega | (simp only [decide_eq_true_eq, decide_eq_false_iff_not] at h4; omega)
    all_goals
      refine e_aload_n dX4_countDown_9 rfl rfl ?_
      refine e_dup dX4_countDown_10 rfl ?_
      refine e_getE dX4_countDown_11 fl_X4_47 rfl (k_m11 hK (by first | omega | (simp (disch := omega) only [upN_n, upN_s]; omega))) ?_
      try simp (disch := omega) only [upN_n, upN_s]
      refine e_iconst (v := nI 1) dX4_countDown_14 rfl ?_
      first | ((with_reducible refine mk_nn ?_); refine n_isub dX4_countDown_15 (by omega) ?_) | refine e_isub dX4_countDown_15 ?_
      refine e_pm (f := 11) (dd := 10) dX4_countDown_16 fl_X4_47 (by decide) rfl rfl rfl rfl rfl bd hK (by first | omega | (simp (disch := omega) only [upN_n, upN_s]; omega)) hF (fun fi hF hK => ?_)
      have bd := Bd_K bd hK (by omega)
      refine e_aload_n dX4_countDown_19 rfl rfl ?_
      refine e_getE dX4_countDown_20 fl_X4_47 rfl (k_m11 hK (by first | omega | (simp (disch := omega) only [upN_n, upN_s]; omega))) ?_
      try simp (disch := omega) only [upN_n, upN_s]
      first | ((with_reducible refine mk_b ?_); refine b_if_ne (tgt := 30) dX4_countDown_23 (by decide) (fun h23 => ?_) (fun h23 => ?_)) | ((with_reducible refine mk_ll ?_); refine m_if_ne (tgt := 30) dX4_countDown_23 (by decide) (by omega) (by omega) (fun h23 => ?_) (fun h23 => ?_)) | ((with_reducible refine mk_lc ?_); refine l_if_ne (tgt := 30) dX4_countDown_23 (by decide) (fun h23 => ?_) (fun h23 => ?_)) | ((with_reducible refine mk_n ?_); refine n_if_ne (tgt := 30) dX4_countDown_23 (by decide) (by omega) (fun h23 => ?_) (fun h23 => ?_)) | refine e_if_ne (tgt := 30) dX4_countDown_23 (by decide) (fun h23 => ?_) (fun h23 => ?_)
      · try first | contradiction | omega | (simp only [decide_eq_true_eq, decide_eq_false_iff_not] at h23; omega)
        all_goals
          refine e_iconst (v := nI 0) dX4_countDown_30 rfl ?_
          first | ((with_reducible refine mk_b ?_); refine e_ret (some _) rfl (r_bool dX4_countDown_31 rfl) ?_) | ((with_reducible refine mk_n1 ?_); refine e_ret (some _) rfl (r_b1 dX4_countDown_31 rfl) ?_) | ((with_reducible refine mk_n0 ?_); refine e_ret (some _) rfl (r_b0 dX4_countDown_31 rfl) ?_)
          first | (rw [if_pos (by omega)]; first | (rw [decide_eq_true (by omega)]; exact kq rfl hF hK) | (rw [decide_eq_false (by omega)]; exact kq rfl hF hK)) | (rw [if_neg (by omega), decide_eq_false (by omega)]; exact kq rfl hF hK)
      · try first | contradiction | omega | (simp only [decide_eq_true_eq, decide_eq_false_iff_not] at h23; omega)
        all_goals
          refine e_iconst (v := nI 1) dX4_countDown_26 rfl ?_
          refine e_goto (tgt := 31) dX4_countDown_27 (by decide) ?_
          first | ((with_reducible refine mk_b ?_); refine e_ret (some _) rfl (r_bool dX4_countDown_31 rfl) ?_) | ((with_reducible refine mk_n1 ?_); refine e_ret (some _) rfl (r_b1 dX4_countDown_31 rfl) ?_) | ((with_reducible refine mk_n0 ?_); refine e_ret (some _) rfl (r_b0 dX4_countDown_31 rfl) ?_)
          first | (rw [if_pos (by omega)]; first | (rw [decide_eq_true (by omega)]; exact kq rfl hF hK) | (rw [decide_eq_false (by omega)]; exact kq rfl hF hK)) | (rw [if_neg (by omega), decide_eq_false (by omega)]; exact kq rfl hF hK)
  · try first | contradiction | omega | (simp only [decide_eq_true_eq, decide_eq_false_iff_not] at h4; omega)
    all_goals
      refine e_iconst (v := nI 0) dX4_countDown_7 rfl ?_
      first | ((with_reducible refine mk_b ?_); refine e_ret (some _) rfl (r_bool dX4_countDown_8 rfl) ?_) | ((with_reducible refine mk_n1 ?_); refine e_ret (some _) rfl (r_b1 dX4_countDown_8 rfl) ?_) | ((with_reducible refine mk_n0 ?_); refine e_ret (some _) rfl (r_b0 dX4_countDown_8 rfl) ?_)
      first | (rw [if_pos (by omega)]; first | (rw [decide_eq_true (by omega)]; exact kq rfl hF hK) | (rw [decide_eq_false (by omega)]; exact kq rfl hF hK)) | (rw [if_neg (by omega), decide_eq_false (by omega)]; exact kq rfl hF hK)
theorem ct_X4_breakBy {fi : FI} {fr : FR} {ai : FI} {ar : FR} {N : Nat} {w lg : Nat → Nat} {E : Nat} (cm : CM fr ar) (bd : Bd w) (hK : K fi ai w lg E) {m v : Nat} (hm : m < w 3) : CP mX4_breakBy 0 0 0 [.ref (rf 4 (34 + 2 * m)), .int (nI v)] fi fr ai ar N (kQ (none) fi fr ai ar N (fun fi ai => K fi ai (upN (upN w (7694 + 72 * m + 7) 1) (7694 + 72 * m + 8) v) lg E)) := by
  have h1 := bd.1
  have h3 := bd.2.1
  have hF : FR1 fi ai fi ai := FR1_rf
  change EV mX4_breakBy 0 0 0 0 [some (.ref (rf 4 (34 + 2 * m))), some (.int (nI v))] [] fi fr ai ar N (kQ (none) fi fr ai ar N (fun fi ai => K fi ai (upN (upN w (7694 + 72 * m + 7) 1) (7694 + 72 * m + 8) v) lg E))
  refine e_aload_n dX4_breakBy_0 rfl rfl ?_
  refine e_iconst (v := nI 1) dX4_breakBy_1 rfl ?_
  refine e_pm (f := 8) (dd := 7) dX4_breakBy_2 fl_X4_37 (by decide) rfl rfl rfl rfl rfl bd hK (by first | omega | (simp (disch := omega) only [upN_n, upN_s]; omega)) hF (fun fi hF hK => ?_)
  have bd := Bd_K bd hK (by omega)
  refine e_aload_n dX4_breakBy_5 rfl rfl ?_
  refine e_iload_n dX4_breakBy_6 rfl rfl ?_
  refine e_pm (f := 9) (dd := 8) dX4_breakBy_7 fl_X4_41 (by decide) rfl rfl rfl rfl rfl bd hK (by first | omega | (simp (disch := omega) only [upN_n, upN_s]; omega)) hF (fun fi hF hK => ?_)
  have bd := Bd_K bd hK (by omega)
  refine e_ret none rfl (r_void dX4_breakBy_10 rfl) ?_
  exact kq rfl hF hK
