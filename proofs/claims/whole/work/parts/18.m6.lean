def lsub (a b : List (Option Value)) : Prop := ∀ (i : Nat) (v : Value), a[i]? = some (some v) → b[i]? = some (some v)
theorem lsub_0 {b : List (Option Value)} : lsub [] b := fun i v h => by simp at h
theorem lsub_n {a b : List (Option Value)} {y : Option Value} (h : lsub a b) : lsub (none :: a) (y :: b) := fun i v => by
  cases i with
  | zero => intro h; cases Option.some.inj h
  | succ i => exact h i v
theorem lsub_s {a b : List (Option Value)} {y : Value} (h : lsub a b) : lsub (some y :: a) (some y :: b) := fun i v => by
  cases i with
  | zero => intro h; exact h
  | succ i => exact h i v
theorem EV_ls {M : MD} {d k z pc : Nat} {ls ls' : List (Option Value)} {st : List Value} {fi : FI} {fr : FR} {ai : FI} {ar : FR} {N : Nat} {Q : EQ} (hs : lsub ls ls') (h : EV M d k z pc ls st fi fr ai ar N Q) : EV M d k z pc ls' st fi fr ai ar N Q := by
  intro p l e R s m args below meth c A D ad0 kd0 N0 Q' H locs cells slots ad cs kd lr C T h1 h2 hS hR hE hX hT hv hl
  exact h p l e R s m args below meth c A D ad0 kd0 N0 Q' H locs cells slots ad cs kd lr C T h1 h2 hS hR hE hX hT hv ⟨hl.1, hl.2.1, fun i v hi => hl.2.2 i v (hs i v hi)⟩
theorem mdO_in {w : Nat → Nat} (h : Inv w) {i k : Nat} (hi : i < w 1) (hm : mdO w i = some k) : w (10 + i) < k ∧ k < enF w i := by
  unfold mdO at hm
  have he := enF_le h hi
  split at hm
  · cases hm
  · rw [Option.map_eq_some_iff] at hm
    obtain ⟨j, hj, e⟩ := hm
    unfold fO at hj
    split at hj
    · obtain rfl := Option.some.inj hj
      omega
    · cases hj
theorem mdO_k {w : Nat → Nat} (h : Inv w) {i k : Nat} (hi : i < w 1) (hm : mdO w i = some k) : k < 1000 := by
  have := mdO_in h hi hm
  have := enF_le h hi
  omega
theorem mdO_lt {w : Nat → Nat} (h : Inv w) {i k : Nat} (hi : i < w 1) (hm : mdO w i = some k) : k < 1000 := mdO_k h hi hm
theorem ct_X11_heaviestOf {fi : FI} {fr : FR} {ai : FI} {ar : FR} {N : Nat} {w : Nat → Nat} (sm : SM fr) (iv : Inv w) {s : Nat} (hs : s < 2147483648) : CP mX11_heaviestOf 3 0 0 [.ref (rf 11 80), .int (nI s)] fi fr (mW ai w) ar N (xQ (some (.int (oI (hvO w s)))) fi fr (mW ai w) ar N) := by
  obtain ⟨sW, sA, sK, sU, sC, sKC, sT, sCl⟩ := id sm
  have h1 := iv_n iv
  have h3 := iv_mm iv
  change EV mX11_heaviestOf 3 0 0 0 [some (.ref (rf 11 80)), some (.int (nI s)), none, none] [] fi fr (mW ai w) ar N (xQ (some (.int (oI (hvO w s)))) fi fr (mW ai w) ar N)
  have key := ev_up (P := (fun j => EV mX11_heaviestOf 3 0 0 4 [some (.ref (rf 11 80)), some (.int (nI s)), some (.int (oI (bst (fun i => decide (w (42 + i) = s) && (mvL w (w (10 + i))).isNone) (fun i q => decide (wtF w q < wtF w i)) j))), some (.int (nI j))] [] fi fr (mW ai w) ar N (xQ (some (.int (oI (hvO w s)))) fi fr (mW ai w) ar N))) (w 1) (fun j hj ih => by
    have ho := iv_own iv hj
    have hw := wtF_le iv hj
    cases hmv : mvL w (w (10 + j)) with
    | none =>
      cases hb : bst (fun i => decide (w (42 + i) = s) && (mvL w (w (10 + i))).isNone) (fun i q => decide (wtF w q < wtF w i)) j with
      | none =>
        refine e_iload_n dX11_heaviestOf_4 rfl rfl ?_
        refine e_aload_n dX11_heaviestOf_5 rfl rfl ?_
        refine e_getR dX11_heaviestOf_6 fl_X11_7 rfl (by assumption) ?_
        refine e_iconst (v := nI 1) dX11_heaviestOf_9 rfl ?_
        first | ((with_reducible refine mk_ldw ?_); refine e_ldw dX11_heaviestOf_10 (by omega) ?_) | refine e_iald _ dX11_heaviestOf_10 ⟨by decide, by decide⟩ rfl rfl (by simp only [lenK]; omega) ?_
        first | ((with_reducible refine mk_nn ?_); refine n_icmp_ge (tgt := 66) dX11_heaviestOf_11 (by decide) (by omega) (by omega) (fun h11 => ?_) (fun h11 => ?_)) | refine e_icmp_ge (tgt := 66) dX11_heaviestOf_11 (by decide) (fun h11 => ?_) (fun h11 => ?_)
        · try first | contradiction | omega
          all_goals
            refine e_iload_n dX11_heaviestOf_66 rfl rfl ?_
            refine e_ret (some _) rfl (r_int dX11_heaviestOf_67 rfl) ?_
            exact xq (by first | rfl | simp_all [bI_t, bI_f]) rfl rfl rfl rfl rfl
        · try first | contradiction | omega
          all_goals
            refine e_aload_n dX11_heaviestOf_14 rfl rfl ?_
            refine e_getR dX11_heaviestOf_15 fl_X11_7 rfl (by assumption) ?_
            refine e_bipush (v := nI 42) dX11_heaviestOf_18 rfl ?_
            refine e_iload_n dX11_heaviestOf_20 rfl rfl ?_
            first | ((with_reducible refine mk_nn ?_); refine n_iadd dX11_heaviestOf_21 ?_) | refine e_iadd dX11_heaviestOf_21 ?_
            first | ((with_reducible refine mk_ldw ?_); refine e_ldw dX11_heaviestOf_22 (by omega) ?_) | refine e_iald _ dX11_heaviestOf_22 ⟨by decide, by decide⟩ rfl rfl (by simp only [lenK]; omega) ?_
            refine e_iload_n dX11_heaviestOf_23 rfl rfl ?_
            first | ((with_reducible refine mk_mo ?_); refine p_icmp_ne (tgt := 60) dX11_heaviestOf_24 (by decide) (fun h24 => ?_) (fun h24 => ?_)) | ((with_reducible refine mk_ms ?_); refine s_icmp_ne (tgt := 60) dX11_heaviestOf_24 (by decide) (by omega) (fun h24 => ?_) (fun h24 => ?_)) | ((with_reducible refine mk_mn ?_); refine q_icmp_ne (tgt := 60) dX11_heaviestOf_24 (by decide) (by omega) (fun h24 => ?_) (fun h24 => ?_)) | ((with_reducible refine mk_nn ?_); refine n_icmp_ne (tgt := 60) dX11_heaviestOf_24 (by decide) (by omega) (by omega) (fun h24 => ?_) (fun h24 => ?_)) | refine e_icmp_ne (tgt := 60) dX11_heaviestOf_24 (by decide) (fun h24 => ?_) (fun h24 => ?_)
            · try first | contradiction | omega
              all_goals
                first | refine n_inc dX11_heaviestOf_60 rfl (Nat.le_of_ble_eq_true rfl) rfl ?_ | refine e_iinc dX11_heaviestOf_60 rfl rfl (Nat.le_of_ble_eq_true rfl) rfl ?_
                refine e_goto (tgt := 4) dX11_heaviestOf_63 (by decide) ?_
                first | (rw [bst_f (c := fun i => decide (w (42 + i) = s) && (mvL w (w (10 + i))).isNone) (b := fun i q => decide (wtF w q < wtF w i)) (n := j) (by grind), hb] at ih; first | exact ih | exact EV_ls (by repeat (first | exact lsub_0 | refine lsub_n ?_ | refine lsub_s ?_)) ih) | (rw [bst_0 (c := fun i => decide (w (42 + i) = s) && (mvL w (w (10 + i))).isNone) (b := fun i q => decide (wtF w q < wtF w i)) (n := j) (by grind) hb] at ih; first | exact ih | exact EV_ls (by repeat (first | exact lsub_0 | refine lsub_n ?_ | refine lsub_s ?_)) ih)
            · try first | contradiction | omega
              all_goals
                refine e_aload_n dX11_heaviestOf_27 rfl rfl ?_
                refine e_iload_n dX11_heaviestOf_28 rfl rfl ?_
                refine x_V1 (M' := mX11_moveOfSpan) dX11_heaviestOf_29 ml_X11_79 ok_X11_moveOfSpan (by decide) rfl im_X11_moveOfSpan se_X11_moveOfSpan (ct_X11_moveOfSpan ‹_› ‹_› (by omega)) (Nat.le_of_ble_eq_true rfl) (by decide) (Nat.le_of_ble_eq_true rfl) ?_
                rw [hmv]
                refine e_iconst (v := -1) dX11_heaviestOf_32 rfl ?_
                first | ((with_reducible refine mk_mo ?_); refine p_icmp_eq (tgt := 39) dX11_heaviestOf_33 (by decide) (fun h33 => ?_) (fun h33 => ?_)) | ((with_reducible refine mk_ms ?_); refine s_icmp_eq (tgt := 39) dX11_heaviestOf_33 (by decide) (by omega) (fun h33 => ?_) (fun h33 => ?_)) | ((with_reducible refine mk_mn ?_); refine q_icmp_eq (tgt := 39) dX11_heaviestOf_33 (by decide) (by omega) (fun h33 => ?_) (fun h33 => ?_)) | ((with_reducible refine mk_nn ?_); refine n_icmp_eq (tgt := 39) dX11_heaviestOf_33 (by decide) (by omega) (by omega) (fun h33 => ?_) (fun h33 => ?_)) | refine e_icmp_eq (tgt := 39) dX11_heaviestOf_33 (by decide) (fun h33 => ?_) (fun h33 => ?_)
                · try first | contradiction | omega
                  all_goals
                    refine e_iload_n dX11_heaviestOf_39 rfl rfl ?_
                    refine e_iconst (v := -1) dX11_heaviestOf_40 rfl ?_
                    first | ((with_reducible refine mk_mo ?_); refine p_icmp_eq (tgt := 58) dX11_heaviestOf_41 (by decide) (fun h41 => ?_) (fun h41 => ?_)) | ((with_reducible refine mk_ms ?_); refine s_icmp_eq (tgt := 58) dX11_heaviestOf_41 (by decide) (by omega) (fun h41 => ?_) (fun h41 => ?_)) | ((with_reducible refine mk_mn ?_); refine q_icmp_eq (tgt := 58) dX11_heaviestOf_41 (by decide) (by omega) (fun h41 => ?_) (fun h41 => ?_)) | ((with_reducible refine mk_nn ?_); refine n_icmp_eq (tgt := 58) dX11_heaviestOf_41 (by decide) (by omega) (by omega) (fun h41 => ?_) (fun h41 => ?_)) | refine e_icmp_eq (tgt := 58) dX11_heaviestOf_41 (by decide) (fun h41 => ?_) (fun h41 => ?_)
                    · try first | contradiction | omega
                      all_goals
                        refine e_iload_n dX11_heaviestOf_58 rfl rfl ?_
                        refine e_istore_n dX11_heaviestOf_59 rfl (Nat.le_of_ble_eq_true rfl) rfl ?_
                        first | refine n_inc dX11_heaviestOf_60 rfl (Nat.le_of_ble_eq_true rfl) rfl ?_ | refine e_iinc dX11_heaviestOf_60 rfl rfl (Nat.le_of_ble_eq_true rfl) rfl ?_
                        refine e_goto (tgt := 4) dX11_heaviestOf_63 (by decide) ?_
                        first | (rw [bst_f (c := fun i => decide (w (42 + i) = s) && (mvL w (w (10 + i))).isNone) (b := fun i q => decide (wtF w q < wtF w i)) (n := j) (by grind), hb] at ih; first | exact ih | exact EV_ls (by repeat (first | exact lsub_0 | refine lsub_n ?_ | refine lsub_s ?_)) ih) | (rw [bst_0 (c := fun i => decide (w (42 + i) = s) && (mvL w (w (10 + i))).isNone) (b := fun i q => decide (wtF w q < wtF w i)) (n := j) (by grind) hb] at ih; first | exact ih | exact EV_ls (by repeat (first | exact lsub_0 | refine lsub_n ?_ | refine lsub_s ?_)) ih)
                    · try first | contradiction | omega
                      all_goals
                        refine e_aload_n dX11_heaviestOf_44 rfl rfl ?_
                        refine e_iload_n dX11_heaviestOf_45 rfl rfl ?_
                        refine x_V1 (M' := mX11_weightOf) dX11_heaviestOf_46 ml_X11_73 ok_X11_weightOf (by decide) rfl im_X11_weightOf se_X11_weightOf (ct_X11_weightOf ‹_› ‹_› (by omega)) (Nat.le_of_ble_eq_true rfl) (by decide) (Nat.le_of_ble_eq_true rfl) ?_
                        refine e_aload_n dX11_heaviestOf_49 rfl rfl ?_
                        refine e_iload_n dX11_heaviestOf_50 rfl rfl ?_
                        refine x_V1 (M' := mX11_weightOf) dX11_heaviestOf_51 ml_X11_73 ok_X11_weightOf (by decide) rfl im_X11_weightOf se_X11_weightOf (ct_X11_weightOf ‹_› ‹_› (by omega)) (Nat.le_of_ble_eq_true rfl) (by decide) (Nat.le_of_ble_eq_true rfl) ?_
                        refine e_lcmp dX11_heaviestOf_54 ?_
                        first | ((with_reducible refine mk_ll ?_); refine m_if_le (tgt := 60) dX11_heaviestOf_55 (by decide) (by omega) (by omega) (fun h55 => ?_) (fun h55 => ?_)) | ((with_reducible refine mk_lc ?_); refine l_if_le (tgt := 60) dX11_heaviestOf_55 (by decide) (fun h55 => ?_) (fun h55 => ?_)) | ((with_reducible refine mk_n ?_); refine n_if_le (tgt := 60) dX11_heaviestOf_55 (by decide) (by omega) (fun h55 => ?_) (fun h55 => ?_)) | refine e_if_le (tgt := 60) dX11_heaviestOf_55 (by decide) (fun h55 => ?_) (fun h55 => ?_)
                        · try first | contradiction | omega
                          all_goals
                            first | refine n_inc dX11_heaviestOf_60 rfl (Nat.le_of_ble_eq_true rfl) rfl ?_ | refine e_iinc dX11_heaviestOf_60 rfl rfl (Nat.le_of_ble_eq_true rfl) rfl ?_
                            refine e_goto (tgt := 4) dX11_heaviestOf_63 (by decide) ?_
                            first | (rw [bst_f (c := fun i => decide (w (42 + i) = s) && (mvL w (w (10 + i))).isNone) (b := fun i q => decide (wtF w q < wtF w i)) (n := j) (by grind), hb] at ih; first | exact ih | exact EV_ls (by repeat (first | exact lsub_0 | refine lsub_n ?_ | refine lsub_s ?_)) ih) | (rw [bst_0 (c := fun i => decide (w (42 + i) = s) && (mvL w (w (10 + i))).isNone) (b := fun i q => decide (wtF w q < wtF w i)) (n := j) (by grind) hb] at ih; first | exact ih | exact EV_ls (by repeat (first | exact lsub_0 | refine lsub_n ?_ | refine lsub_s ?_)) ih)
                        · try first | contradiction | omega
                          all_goals
                            refine e_iload_n dX11_heaviestOf_58 rfl rfl ?_
                            refine e_istore_n dX11_heaviestOf_59 rfl (Nat.le_of_ble_eq_true rfl) rfl ?_
                            first | refine n_inc dX11_heaviestOf_60 rfl (Nat.le_of_ble_eq_true rfl) rfl ?_ | refine e_iinc dX11_heaviestOf_60 rfl rfl (Nat.le_of_ble_eq_true rfl) rfl ?_
                            refine e_goto (tgt := 4) dX11_heaviestOf_63 (by decide) ?_
                            first | (rw [bst_f (c := fun i => decide (w (42 + i) = s) && (mvL w (w (10 + i))).isNone) (b := fun i q => decide (wtF w q < wtF w i)) (n := j) (by grind), hb] at ih; first | exact ih | exact EV_ls (by repeat (first | exact lsub_0 | refine lsub_n ?_ | refine lsub_s ?_)) ih) | (rw [bst_0 (c := fun i => decide (w (42 + i) = s) && (mvL w (w (10 + i))).isNone) (b := fun i q => decide (wtF w q < wtF w i)) (n := j) (by grind) hb] at ih; first | exact ih | exact EV_ls (by repeat (first | exact lsub_0 | refine lsub_n ?_ | refine lsub_s ?_)) ih)
                · try first | contradiction | omega
                  all_goals
                    refine e_goto (tgt := 60) dX11_heaviestOf_36 (by decide) ?_
                    first | refine n_inc dX11_heaviestOf_60 rfl (Nat.le_of_ble_eq_true rfl) rfl ?_ | refine e_iinc dX11_heaviestOf_60 rfl rfl (Nat.le_of_ble_eq_true rfl) rfl ?_
                    refine e_goto (tgt := 4) dX11_heaviestOf_63 (by decide) ?_
                    first | (rw [bst_f (c := fun i => decide (w (42 + i) = s) && (mvL w (w (10 + i))).isNone) (b := fun i q => decide (wtF w q < wtF w i)) (n := j) (by grind), hb] at ih; first | exact ih | exact EV_ls (by repeat (first | exact lsub_0 | refine lsub_n ?_ | refine lsub_s ?_)) ih) | (rw [bst_0 (c := fun i => decide (w (42 + i) = s) && (mvL w (w (10 + i))).isNone) (b := fun i q => decide (wtF w q < wtF w i)) (n := j) (by grind) hb] at ih; first | exact ih | exact EV_ls (by repeat (first | exact lsub_0 | refine lsub_n ?_ | refine lsub_s ?_)) ih)
      | some q =>
        have hq := (bst_in hb).1
        have hqc := (bst_in hb).2
        rw [oI_s]
        have hw2 := wtF_le iv (i := q) (by omega)
        refine e_iload_n dX11_heaviestOf_4 rfl rfl ?_
        refine e_aload_n dX11_heaviestOf_5 rfl rfl ?_
        refine e_getR dX11_heaviestOf_6 fl_X11_7 rfl (by assumption) ?_
        refine e_iconst (v := nI 1) dX11_heaviestOf_9 rfl ?_
        first | ((with_reducible refine mk_ldw ?_); refine e_ldw dX11_heaviestOf_10 (by omega) ?_) | refine e_iald _ dX11_heaviestOf_10 ⟨by decide, by decide⟩ rfl rfl (by simp only [lenK]; omega) ?_
        first | ((with_reducible refine mk_nn ?_); refine n_icmp_ge (tgt := 66) dX11_heaviestOf_11 (by decide) (by omega) (by omega) (fun h11 => ?_) (fun h11 => ?_)) | refine e_icmp_ge (tgt := 66) dX11_heaviestOf_11 (by decide) (fun h11 => ?_) (fun h11 => ?_)
        · try first | contradiction | omega
          all_goals
            refine e_iload_n dX11_heaviestOf_66 rfl rfl ?_
            refine e_ret (some _) rfl (r_int dX11_heaviestOf_67 rfl) ?_
            exact xq (by first | rfl | simp_all [bI_t, bI_f]) rfl rfl rfl rfl rfl
        · try first | contradiction | omega
          all_goals
            refine e_aload_n dX11_heaviestOf_14 rfl rfl ?_
            refine e_getR dX11_heaviestOf_15 fl_X11_7 rfl (by assumption) ?_
            refine e_bipush (v := nI 42) dX11_heaviestOf_18 rfl ?_
            refine e_iload_n dX11_heaviestOf_20 rfl rfl ?_
            first | ((with_reducible refine mk_nn ?_); refine n_iadd dX11_heaviestOf_21 ?_) | refine e_iadd dX11_heaviestOf_21 ?_
            first | ((with_reducible refine mk_ldw ?_); refine e_ldw dX11_heaviestOf_22 (by omega) ?_) | refine e_iald _ dX11_heaviestOf_22 ⟨by decide, by decide⟩ rfl rfl (by simp only [lenK]; omega) ?_
            refine e_iload_n dX11_heaviestOf_23 rfl rfl ?_
            first | ((with_reducible refine mk_mo ?_); refine p_icmp_ne (tgt := 60) dX11_heaviestOf_24 (by decide) (fun h24 => ?_) (fun h24 => ?_)) | ((with_reducible refine mk_ms ?_); refine s_icmp_ne (tgt := 60) dX11_heaviestOf_24 (by decide) (by omega) (fun h24 => ?_) (fun h24 => ?_)) | ((with_reducible refine mk_mn ?_); refine q_icmp_ne (tgt := 60) dX11_heaviestOf_24 (by decide) (by omega) (fun h24 => ?_) (fun h24 => ?_)) | ((with_reducible refine mk_nn ?_); refine n_icmp_ne (tgt := 60) dX11_heaviestOf_24 (by decide) (by omega) (by omega) (fun h24 => ?_) (fun h24 => ?_)) | refine e_icmp_ne (tgt := 60) dX11_heaviestOf_24 (by decide) (fun h24 => ?_) (fun h24 => ?_)
            · try first | contradiction | omega
              all_goals
                first | refine n_inc dX11_heaviestOf_60 rfl (Nat.le_of_ble_eq_true rfl) rfl ?_ | refine e_iinc dX11_heaviestOf_60 rfl rfl (Nat.le_of_ble_eq_true rfl) rfl ?_
                refine e_goto (tgt := 4) dX11_heaviestOf_63 (by decide) ?_
                first | (rw [bst_f (c := fun i => decide (w (42 + i) = s) && (mvL w (w (10 + i))).isNone) (b := fun i q => decide (wtF w q < wtF w i)) (n := j) (by grind), hb] at ih; first | exact ih | exact EV_ls (by repeat (first | exact lsub_0 | refine lsub_n ?_ | refine lsub_s ?_)) ih) | (rw [bst_0 (c := fun i => decide (w (42 + i) = s) && (mvL w (w (10 + i))).isNone) (b := fun i q => decide (wtF w q < wtF w i)) (n := j) (by grind) hb] at ih; first | exact ih | exact EV_ls (by repeat (first | exact lsub_0 | refine lsub_n ?_ | refine lsub_s ?_)) ih) | (rw [bst_1 (c := fun i => decide (w (42 + i) = s) && (mvL w (w (10 + i))).isNone) (b := fun i q => decide (wtF w q < wtF w i)) (n := j) (by grind) hb (by grind)] at ih; first | exact ih | exact EV_ls (by repeat (first | exact lsub_0 | refine lsub_n ?_ | refine lsub_s ?_)) ih) | (rw [bst_2 (c := fun i => decide (w (42 + i) = s) && (mvL w (w (10 + i))).isNone) (b := fun i q => decide (wtF w q < wtF w i)) (n := j) (by grind) hb (by grind)] at ih; first | exact ih | exact EV_ls (by repeat (first | exact lsub_0 | refine lsub_n ?_ | refine lsub_s ?_)) ih)
            · try first | contradiction | omega
              all_goals
                refine e_aload_n dX11_heaviestOf_27 rfl rfl ?_
                refine e_iload_n dX11_heaviestOf_28 rfl rfl ?_
                refine x_V1 (M' := mX11_moveOfSpan) dX11_heaviestOf_29 ml_X11_79 ok_X11_moveOfSpan (by decide) rfl im_X11_moveOfSpan se_X11_moveOfSpan (ct_X11_moveOfSpan ‹_› ‹_› (by omega)) (Nat.le_of_ble_eq_true rfl) (by decide) (Nat.le_of_ble_eq_true rfl) ?_
                rw [hmv]
                refine e_iconst (v := -1) dX11_heaviestOf_32 rfl ?_
                first | ((with_reducible refine mk_mo ?_); refine p_icmp_eq (tgt := 39) dX11_heaviestOf_33 (by decide) (fun h33 => ?_) (fun h33 => ?_)) | ((with_reducible refine mk_ms ?_); refine s_icmp_eq (tgt := 39) dX11_heaviestOf_33 (by decide) (by omega) (fun h33 => ?_) (fun h33 => ?_)) | ((with_reducible refine mk_mn ?_); refine q_icmp_eq (tgt := 39) dX11_heaviestOf_33 (by decide) (by omega) (fun h33 => ?_) (fun h33 => ?_)) | ((with_reducible refine mk_nn ?_); refine n_icmp_eq (tgt := 39) dX11_heaviestOf_33 (by decide) (by omega) (by omega) (fun h33 => ?_) (fun h33 => ?_)) | refine e_icmp_eq (tgt := 39) dX11_heaviestOf_33 (by decide) (fun h33 => ?_) (fun h33 => ?_)
                · try first | contradiction | omega
                  all_goals
                    refine e_iload_n dX11_heaviestOf_39 rfl rfl ?_
                    refine e_iconst (v := -1) dX11_heaviestOf_40 rfl ?_
                    first | ((with_reducible refine mk_mo ?_); refine p_icmp_eq (tgt := 58) dX11_heaviestOf_41 (by decide) (fun h41 => ?_) (fun h41 => ?_)) | ((with_reducible refine mk_ms ?_); refine s_icmp_eq (tgt := 58) dX11_heaviestOf_41 (by decide) (by omega) (fun h41 => ?_) (fun h41 => ?_)) | ((with_reducible refine mk_mn ?_); refine q_icmp_eq (tgt := 58) dX11_heaviestOf_41 (by decide) (by omega) (fun h41 => ?_) (fun h41 => ?_)) | ((with_reducible refine mk_nn ?_); refine n_icmp_eq (tgt := 58) dX11_heaviestOf_41 (by decide) (by omega) (by omega) (fun h41 => ?_) (fun h41 => ?_)) | refine e_icmp_eq (tgt := 58) dX11_heaviestOf_41 (by decide) (fun h41 => ?_) (fun h41 => ?_)
                    · try first | contradiction | omega
                      all_goals
                        refine e_iload_n dX11_heaviestOf_58 rfl rfl ?_
                        refine e_istore_n dX11_heaviestOf_59 rfl (Nat.le_of_ble_eq_true rfl) rfl ?_
                        first | refine n_inc dX11_heaviestOf_60 rfl (Nat.le_of_ble_eq_true rfl) rfl ?_ | refine e_iinc dX11_heaviestOf_60 rfl rfl (Nat.le_of_ble_eq_true rfl) rfl ?_
                        refine e_goto (tgt := 4) dX11_heaviestOf_63 (by decide) ?_
                        first | (rw [bst_f (c := fun i => decide (w (42 + i) = s) && (mvL w (w (10 + i))).isNone) (b := fun i q => decide (wtF w q < wtF w i)) (n := j) (by grind), hb] at ih; first | exact ih | exact EV_ls (by repeat (first | exact lsub_0 | refine lsub_n ?_ | refine lsub_s ?_)) ih) | (rw [bst_0 (c := fun i => decide (w (42 + i) = s) && (mvL w (w (10 + i))).isNone) (b := fun i q => decide (wtF w q < wtF w i)) (n := j) (by grind) hb] at ih; first | exact ih | exact EV_ls (by repeat (first | exact lsub_0 | refine lsub_n ?_ | refine lsub_s ?_)) ih) | (rw [bst_1 (c := fun i => decide (w (42 + i) = s) && (mvL w (w (10 + i))).isNone) (b := fun i q => decide (wtF w q < wtF w i)) (n := j) (by grind) hb (by grind)] at ih; first | exact ih | exact EV_ls (by repeat (first | exact lsub_0 | refine lsub_n ?_ | refine lsub_s ?_)) ih) | (rw [bst_2 (c := fun i => decide (w (42 + i) = s) && (mvL w (w (10 + i))).isNone) (b := fun i q => decide (wtF w q < wtF w i)) (n := j) (by grind) hb (by grind)] at ih; first | exact ih | exact EV_ls (by repeat (first | exact lsub_0 | refine lsub_n ?_ | refine lsub_s ?_)) ih)
                    · try first | contradiction | omega
                      all_goals
                        refine e_aload_n dX11_heaviestOf_44 rfl rfl ?_
                        refine e_iload_n dX11_heaviestOf_45 rfl rfl ?_
                        refine x_V1 (M' := mX11_weightOf) dX11_heaviestOf_46 ml_X11_73 ok_X11_weightOf (by decide) rfl im_X11_weightOf se_X11_weightOf (ct_X11_weightOf ‹_› ‹_› (by omega)) (Nat.le_of_ble_eq_true rfl) (by decide) (Nat.le_of_ble_eq_true rfl) ?_
                        refine e_aload_n dX11_heaviestOf_49 rfl rfl ?_
                        refine e_iload_n dX11_heaviestOf_50 rfl rfl ?_
                        refine x_V1 (M' := mX11_weightOf) dX11_heaviestOf_51 ml_X11_73 ok_X11_weightOf (by decide) rfl im_X11_weightOf se_X11_weightOf (ct_X11_weightOf ‹_› ‹_› (by omega)) (Nat.le_of_ble_eq_true rfl) (by decide) (Nat.le_of_ble_eq_true rfl) ?_
                        refine e_lcmp dX11_heaviestOf_54 ?_
                        first | ((with_reducible refine mk_ll ?_); refine m_if_le (tgt := 60) dX11_heaviestOf_55 (by decide) (by omega) (by omega) (fun h55 => ?_) (fun h55 => ?_)) | ((with_reducible refine mk_lc ?_); refine l_if_le (tgt := 60) dX11_heaviestOf_55 (by decide) (fun h55 => ?_) (fun h55 => ?_)) | ((with_reducible refine mk_n ?_); refine n_if_le (tgt := 60) dX11_heaviestOf_55 (by decide) (by omega) (fun h55 => ?_) (fun h55 => ?_)) | refine e_if_le (tgt := 60) dX11_heaviestOf_55 (by decide) (fun h55 => ?_) (fun h55 => ?_)
                        · try first | contradiction | omega
                          all_goals
                            first | refine n_inc dX11_heaviestOf_60 rfl (Nat.le_of_ble_eq_true rfl) rfl ?_ | refine e_iinc dX11_heaviestOf_60 rfl rfl (Nat.le_of_ble_eq_true rfl) rfl ?_
                            refine e_goto (tgt := 4) dX11_heaviestOf_63 (by decide) ?_
                            first | (rw [bst_f (c := fun i => decide (w (42 + i) = s) && (mvL w (w (10 + i))).isNone) (b := fun i q => decide (wtF w q < wtF w i)) (n := j) (by grind), hb] at ih; first | exact ih | exact EV_ls (by repeat (first | exact lsub_0 | refine lsub_n ?_ | refine lsub_s ?_)) ih) | (rw [bst_0 (c := fun i => decide (w (42 + i) = s) && (mvL w (w (10 + i))).isNone) (b := fun i q => decide (wtF w q < wtF w i)) (n := j) (by grind) hb] at ih; first | exact ih | exact EV_ls (by repeat (first | exact lsub_0 | refine lsub_n ?_ | refine lsub_s ?_)) ih) | (rw [bst_1 (c := fun i => decide (w (42 + i) = s) && (mvL w (w (10 + i))).isNone) (b := fun i q => decide (wtF w q < wtF w i)) (n := j) (by grind) hb (by grind)] at ih; first | exact ih | exact EV_ls (by repeat (first | exact lsub_0 | refine lsub_n ?_ | refine lsub_s ?_)) ih) | (rw [bst_2 (c := fun i => decide (w (42 + i) = s) && (mvL w (w (10 + i))).isNone) (b := fun i q => decide (wtF w q < wtF w i)) (n := j) (by grind) hb (by grind)] at ih; first | exact ih | exact EV_ls (by repeat (first | exact lsub_0 | refine lsub_n ?_ | refine lsub_s ?_)) ih)
                        · try first | contradiction | omega
                          all_goals
                            refine e_iload_n dX11_heaviestOf_58 rfl rfl ?_
                            refine e_istore_n dX11_heaviestOf_59 rfl (Nat.le_of_ble_eq_true rfl) rfl ?_
                            first | refine n_inc dX11_heaviestOf_60 rfl (Nat.le_of_ble_eq_true rfl) rfl ?_ | refine e_iinc dX11_heaviestOf_60 rfl rfl (Nat.le_of_ble_eq_true rfl) rfl ?_
                            refine e_goto (tgt := 4) dX11_heaviestOf_63 (by decide) ?_
                            first | (rw [bst_f (c := fun i => decide (w (42 + i) = s) && (mvL w (w (10 + i))).isNone) (b := fun i q => decide (wtF w q < wtF w i)) (n := j) (by grind), hb] at ih; first | exact ih | exact EV_ls (by repeat (first | exact lsub_0 | refine lsub_n ?_ | refine lsub_s ?_)) ih) | (rw [bst_0 (c := fun i => decide (w (42 + i) = s) && (mvL w (w (10 + i))).isNone) (b := fun i q => decide (wtF w q < wtF w i)) (n := j) (by grind) hb] at ih; first | exact ih | exact EV_ls (by repeat (first | exact lsub_0 | refine lsub_n ?_ | refine lsub_s ?_)) ih) | (rw [bst_1 (c := fun i => decide (w (42 + i) = s) && (mvL w (w (10 + i))).isNone) (b := fun i q => decide (wtF w q < wtF w i)) (n := j) (by grind) hb (by grind)] at ih; first | exact ih | exact EV_ls (by repeat (first | exact lsub_0 | refine lsub_n ?_ | refine lsub_s ?_)) ih) | (rw [bst_2 (c := fun i => decide (w (42 + i) = s) && (mvL w (w (10 + i))).isNone) (b := fun i q => decide (wtF w q < wtF w i)) (n := j) (by grind) hb (by grind)] at ih; first | exact ih | exact EV_ls (by repeat (first | exact lsub_0 | refine lsub_n ?_ | refine lsub_s ?_)) ih)
                · try first | contradiction | omega
                  all_goals
                    refine e_goto (tgt := 60) dX11_heaviestOf_36 (by decide) ?_
                    first | refine n_inc dX11_heaviestOf_60 rfl (Nat.le_of_ble_eq_true rfl) rfl ?_ | refine e_iinc dX11_heaviestOf_60 rfl rfl (Nat.le_of_ble_eq_true rfl) rfl ?_
                    refine e_goto (tgt := 4) dX11_heaviestOf_63 (by decide) ?_
                    first | (rw [bst_f (c := fun i => decide (w (42 + i) = s) && (mvL w (w (10 + i))).isNone) (b := fun i q => decide (wtF w q < wtF w i)) (n := j) (by grind), hb] at ih; first | exact ih | exact EV_ls (by repeat (first | exact lsub_0 | refine lsub_n ?_ | refine lsub_s ?_)) ih) | (rw [bst_0 (c := fun i => decide (w (42 + i) = s) && (mvL w (w (10 + i))).isNone) (b := fun i q => decide (wtF w q < wtF w i)) (n := j) (by grind) hb] at ih; first | exact ih | exact EV_ls (by repeat (first | exact lsub_0 | refine lsub_n ?_ | refine lsub_s ?_)) ih) | (rw [bst_1 (c := fun i => decide (w (42 + i) = s) && (mvL w (w (10 + i))).isNone) (b := fun i q => decide (wtF w q < wtF w i)) (n := j) (by grind) hb (by grind)] at ih; first | exact ih | exact EV_ls (by repeat (first | exact lsub_0 | refine lsub_n ?_ | refine lsub_s ?_)) ih) | (rw [bst_2 (c := fun i => decide (w (42 + i) = s) && (mvL w (w (10 + i))).isNone) (b := fun i q => decide (wtF w q < wtF w i)) (n := j) (by grind) hb (by grind)] at ih; first | exact ih | exact EV_ls (by repeat (first | exact lsub_0 | refine lsub_n ?_ | refine lsub_s ?_)) ih)
    | some mm =>
      have hmm := mvL_lt hmv
      cases hb : bst (fun i => decide (w (42 + i) = s) && (mvL w (w (10 + i))).isNone) (fun i q => decide (wtF w q < wtF w i)) j with
      | none =>
        refine e_iload_n dX11_heaviestOf_4 rfl rfl ?_
        refine e_aload_n dX11_heaviestOf_5 rfl rfl ?_
        refine e_getR dX11_heaviestOf_6 fl_X11_7 rfl (by assumption) ?_
        refine e_iconst (v := nI 1) dX11_heaviestOf_9 rfl ?_
        first | ((with_reducible refine mk_ldw ?_); refine e_ldw dX11_heaviestOf_10 (by omega) ?_) | refine e_iald _ dX11_heaviestOf_10 ⟨by decide, by decide⟩ rfl rfl (by simp only [lenK]; omega) ?_
        first | ((with_reducible refine mk_nn ?_); refine n_icmp_ge (tgt := 66) dX11_heaviestOf_11 (by decide) (by omega) (by omega) (fun h11 => ?_) (fun h11 => ?_)) | refine e_icmp_ge (tgt := 66) dX11_heaviestOf_11 (by decide) (fun h11 => ?_) (fun h11 => ?_)
        · try first | contradiction | omega
          all_goals
            refine e_iload_n dX11_heaviestOf_66 rfl rfl ?_
            refine e_ret (some _) rfl (r_int dX11_heaviestOf_67 rfl) ?_
            exact xq (by first | rfl | simp_all [bI_t, bI_f]) rfl rfl rfl rfl rfl
        · try first | contradiction | omega
          all_goals
            refine e_aload_n dX11_heaviestOf_14 rfl rfl ?_
            refine e_getR dX11_heaviestOf_15 fl_X11_7 rfl (by assumption) ?_
            refine e_bipush (v := nI 42) dX11_heaviestOf_18 rfl ?_
            refine e_iload_n dX11_heaviestOf_20 rfl rfl ?_
            first | ((with_reducible refine mk_nn ?_); refine n_iadd dX11_heaviestOf_21 ?_) | refine e_iadd dX11_heaviestOf_21 ?_
            first | ((with_reducible refine mk_ldw ?_); refine e_ldw dX11_heaviestOf_22 (by omega) ?_) | refine e_iald _ dX11_heaviestOf_22 ⟨by decide, by decide⟩ rfl rfl (by simp only [lenK]; omega) ?_
            refine e_iload_n dX11_heaviestOf_23 rfl rfl ?_
            first | ((with_reducible refine mk_mo ?_); refine p_icmp_ne (tgt := 60) dX11_heaviestOf_24 (by decide) (fun h24 => ?_) (fun h24 => ?_)) | ((with_reducible refine mk_ms ?_); refine s_icmp_ne (tgt := 60) dX11_heaviestOf_24 (by decide) (by omega) (fun h24 => ?_) (fun h24 => ?_)) | ((with_reducible refine mk_mn ?_); refine q_icmp_ne (tgt := 60) dX11_heaviestOf_24 (by decide) (by omega) (fun h24 => ?_) (fun h24 => ?_)) | ((with_reducible refine mk_nn ?_); refine n_icmp_ne (tgt := 60) dX11_heaviestOf_24 (by decide) (by omega) (by omega) (fun h24 => ?_) (fun h24 => ?_)) | refine e_icmp_ne (tgt := 60) dX11_heaviestOf_24 (by decide) (fun h24 => ?_) (fun h24 => ?_)
            · try first | contradiction | omega
              all_goals
                first | refine n_inc dX11_heaviestOf_60 rfl (Nat.le_of_ble_eq_true rfl) rfl ?_ | refine e_iinc dX11_heaviestOf_60 rfl rfl (Nat.le_of_ble_eq_true rfl) rfl ?_
                refine e_goto (tgt := 4) dX11_heaviestOf_63 (by decide) ?_
                first | (rw [bst_f (c := fun i => decide (w (42 + i) = s) && (mvL w (w (10 + i))).isNone) (b := fun i q => decide (wtF w q < wtF w i)) (n := j) (by grind), hb] at ih; first | exact ih | exact EV_ls (by repeat (first | exact lsub_0 | refine lsub_n ?_ | refine lsub_s ?_)) ih) | (rw [bst_0 (c := fun i => decide (w (42 + i) = s) && (mvL w (w (10 + i))).isNone) (b := fun i q => decide (wtF w q < wtF w i)) (n := j) (by grind) hb] at ih; first | exact ih | exact EV_ls (by repeat (first | exact lsub_0 | refine lsub_n ?_ | refine lsub_s ?_)) ih)
            · try first | contradiction | omega
              all_goals
                refine e_aload_n dX11_heaviestOf_27 rfl rfl ?_
                refine e_iload_n dX11_heaviestOf_28 rfl rfl ?_
                refine x_V1 (M' := mX11_moveOfSpan) dX11_heaviestOf_29 ml_X11_79 ok_X11_moveOfSpan (by decide) rfl im_X11_moveOfSpan se_X11_moveOfSpan (ct_X11_moveOfSpan ‹_› ‹_› (by omega)) (Nat.le_of_ble_eq_true rfl) (by decide) (Nat.le_of_ble_eq_true rfl) ?_
                rw [hmv]
                refine e_iconst (v := -1) dX11_heaviestOf_32 rfl ?_
                first | ((with_reducible refine mk_mo ?_); refine p_icmp_eq (tgt := 39) dX11_heaviestOf_33 (by decide) (fun h33 => ?_) (fun h33 => ?_)) | ((with_reducible refine mk_ms ?_); refine s_icmp_eq (tgt := 39) dX11_heaviestOf_33 (by decide) (by omega) (fun h33 => ?_) (fun h33 => ?_)) | ((with_reducible refine mk_mn ?_); refine q_icmp_eq (tgt := 39) dX11_heaviestOf_33 (by decide) (by omega) (fun h33 => ?_) (fun h33 => ?_)) | ((with_reducible refine mk_nn ?_); refine n_icmp_eq (tgt := 39) dX11_heaviestOf_33 (by decide) (by omega) (by omega) (fun h33 => ?_) (fun h33 => ?_)) | refine e_icmp_eq (tgt := 39) dX11_heaviestOf_33 (by decide) (fun h33 => ?_) (fun h33 => ?_)
                · try first | contradiction | omega
                  all_goals
                    refine e_iload_n dX11_heaviestOf_39 rfl rfl ?_
                    refine e_iconst (v := -1) dX11_heaviestOf_40 rfl ?_
                    first | ((with_reducible refine mk_mo ?_); refine p_icmp_eq (tgt := 58) dX11_heaviestOf_41 (by decide) (fun h41 => ?_) (fun h41 => ?_)) | ((with_reducible refine mk_ms ?_); refine s_icmp_eq (tgt := 58) dX11_heaviestOf_41 (by decide) (by omega) (fun h41 => ?_) (fun h41 => ?_)) | ((with_reducible refine mk_mn ?_); refine q_icmp_eq (tgt := 58) dX11_heaviestOf_41 (by decide) (by omega) (fun h41 => ?_) (fun h41 => ?_)) | ((with_reducible refine mk_nn ?_); refine n_icmp_eq (tgt := 58) dX11_heaviestOf_41 (by decide) (by omega) (by omega) (fun h41 => ?_) (fun h41 => ?_)) | refine e_icmp_eq (tgt := 58) dX11_heaviestOf_41 (by decide) (fun h41 => ?_) (fun h41 => ?_)
                    · try first | contradiction | omega
                      all_goals
                        refine e_iload_n dX11_heaviestOf_58 rfl rfl ?_
                        refine e_istore_n dX11_heaviestOf_59 rfl (Nat.le_of_ble_eq_true rfl) rfl ?_
                        first | refine n_inc dX11_heaviestOf_60 rfl (Nat.le_of_ble_eq_true rfl) rfl ?_ | refine e_iinc dX11_heaviestOf_60 rfl rfl (Nat.le_of_ble_eq_true rfl) rfl ?_
                        refine e_goto (tgt := 4) dX11_heaviestOf_63 (by decide) ?_
                        first | (rw [bst_f (c := fun i => decide (w (42 + i) = s) && (mvL w (w (10 + i))).isNone) (b := fun i q => decide (wtF w q < wtF w i)) (n := j) (by grind), hb] at ih; first | exact ih | exact EV_ls (by repeat (first | exact lsub_0 | refine lsub_n ?_ | refine lsub_s ?_)) ih) | (rw [bst_0 (c := fun i => decide (w (42 + i) = s) && (mvL w (w (10 + i))).isNone) (b := fun i q => decide (wtF w q < wtF w i)) (n := j) (by grind) hb] at ih; first | exact ih | exact EV_ls (by repeat (first | exact lsub_0 | refine lsub_n ?_ | refine lsub_s ?_)) ih)
                    · try first | contradiction | omega
                      all_goals
                        refine e_aload_n dX11_heaviestOf_44 rfl rfl ?_
                        refine e_iload_n dX11_heaviestOf_45 rfl rfl ?_
                        refine x_V1 (M' := mX11_weightOf) dX11_heaviestOf_46 ml_X11_73 ok_X11_weightOf (by decide) rfl im_X11_weightOf se_X11_weightOf (ct_X11_weightOf ‹_› ‹_› (by omega)) (Nat.le_of_ble_eq_true rfl) (by decide) (Nat.le_of_ble_eq_true rfl) ?_
                        refine e_aload_n dX11_heaviestOf_49 rfl rfl ?_
                        refine e_iload_n dX11_heaviestOf_50 rfl rfl ?_
                        refine x_V1 (M' := mX11_weightOf) dX11_heaviestOf_51 ml_X11_73 ok_X11_weightOf (by decide) rfl im_X11_weightOf se_X11_weightOf (ct_X11_weightOf ‹_› ‹_› (by omega)) (Nat.le_of_ble_eq_true rfl) (by decide) (Nat.le_of_ble_eq_true rfl) ?_
                        refine e_lcmp dX11_heaviestOf_54 ?_
                        first | ((with_reducible refine mk_ll ?_); refine m_if_le (tgt := 60) dX11_heaviestOf_55 (by decide) (by omega) (by omega) (fun h55 => ?_) (fun h55 => ?_)) | ((with_reducible refine mk_lc ?_); refine l_if_le (tgt := 60) dX11_heaviestOf_55 (by decide) (fun h55 => ?_) (fun h55 => ?_)) | ((with_reducible refine mk_n ?_); refine n_if_le (tgt := 60) dX11_heaviestOf_55 (by decide) (by omega) (fun h55 => ?_) (fun h55 => ?_)) | refine e_if_le (tgt := 60) dX11_heaviestOf_55 (by decide) (fun h55 => ?_) (fun h55 => ?_)
                        · try first | contradiction | omega
                          all_goals
                            first | refine n_inc dX11_heaviestOf_60 rfl (Nat.le_of_ble_eq_true rfl) rfl ?_ | refine e_iinc dX11_heaviestOf_60 rfl rfl (Nat.le_of_ble_eq_true rfl) rfl ?_
                            refine e_goto (tgt := 4) dX11_heaviestOf_63 (by decide) ?_
                            first | (rw [bst_f (c := fun i => decide (w (42 + i) = s) && (mvL w (w (10 + i))).isNone) (b := fun i q => decide (wtF w q < wtF w i)) (n := j) (by grind), hb] at ih; first | exact ih | exact EV_ls (by repeat (first | exact lsub_0 | refine lsub_n ?_ | refine lsub_s ?_)) ih) | (rw [bst_0 (c := fun i => decide (w (42 + i) = s) && (mvL w (w (10 + i))).isNone) (b := fun i q => decide (wtF w q < wtF w i)) (n := j) (by grind) hb] at ih; first | exact ih | exact EV_ls (by repeat (first | exact lsub_0 | refine lsub_n ?_ | refine lsub_s ?_)) ih)
                        · try first | contradiction | omega
                          all_goals
                            refine e_iload_n dX11_heaviestOf_58 rfl rfl ?_
                            refine e_istore_n dX11_heaviestOf_59 rfl (Nat.le_of_ble_eq_true rfl) rfl ?_
                            first | refine n_inc dX11_heaviestOf_60 rfl (Nat.le_of_ble_eq_true rfl) rfl ?_ | refine e_iinc dX11_heaviestOf_60 rfl rfl (Nat.le_of_ble_eq_true rfl) rfl ?_
                            refine e_goto (tgt := 4) dX11_heaviestOf_63 (by decide) ?_
                            first | (rw [bst_f (c := fun i => decide (w (42 + i) = s) && (mvL w (w (10 + i))).isNone) (b := fun i q => decide (wtF w q < wtF w i)) (n := j) (by grind), hb] at ih; first | exact ih | exact EV_ls (by repeat (first | exact lsub_0 | refine lsub_n ?_ | refine lsub_s ?_)) ih) | (rw [bst_0 (c := fun i => decide (w (42 + i) = s) && (mvL w (w (10 + i))).isNone) (b := fun i q => decide (wtF w q < wtF w i)) (n := j) (by grind) hb] at ih; first | exact ih | exact EV_ls (by repeat (first | exact lsub_0 | refine lsub_n ?_ | refine lsub_s ?_)) ih)
                · try first | contradiction | omega
                  all_goals
                    refine e_goto (tgt := 60) dX11_heaviestOf_36 (by decide) ?_
                    first | refine n_inc dX11_heaviestOf_60 rfl (Nat.le_of_ble_eq_true rfl) rfl ?_ | refine e_iinc dX11_heaviestOf_60 rfl rfl (Nat.le_of_ble_eq_true rfl) rfl ?_
                    refine e_goto (tgt := 4) dX11_heaviestOf_63 (by decide) ?_
                    first | (rw [bst_f (c := fun i => decide (w (42 + i) = s) && (mvL w (w (10 + i))).isNone) (b := fun i q => decide (wtF w q < wtF w i)) (n := j) (by grind), hb] at ih; first | exact ih | exact EV_ls (by repeat (first | exact lsub_0 | refine lsub_n ?_ | refine lsub_s ?_)) ih) | (rw [bst_0 (c := fun i => decide (w (42 + i) = s) && (mvL w (w (10 + i))).isNone) (b := fun i q => decide (wtF w q < wtF w i)) (n := j) (by grind) hb] at ih; first | exact ih | exact EV_ls (by repeat (first | exact lsub_0 | refine lsub_n ?_ | refine lsub_s ?_)) ih)
      | some q =>
        have hq := (bst_in hb).1
        have hqc := (bst_in hb).2
        rw [oI_s]
        have hw2 := wtF_le iv (i := q) (by omega)
        refine e_iload_n dX11_heaviestOf_4 rfl rfl ?_
        refine e_aload_n dX11_heaviestOf_5 rfl rfl ?_
        refine e_getR dX11_heaviestOf_6 fl_X11_7 rfl (by assumption) ?_
        refine e_iconst (v := nI 1) dX11_heaviestOf_9 rfl ?_
        first | ((with_reducible refine mk_ldw ?_); refine e_ldw dX11_heaviestOf_10 (by omega) ?_) | refine e_iald _ dX11_heaviestOf_10 ⟨by decide, by decide⟩ rfl rfl (by simp only [lenK]; omega) ?_
        first | ((with_reducible refine mk_nn ?_); refine n_icmp_ge (tgt := 66) dX11_heaviestOf_11 (by decide) (by omega) (by omega) (fun h11 => ?_) (fun h11 => ?_)) | refine e_icmp_ge (tgt := 66) dX11_heaviestOf_11 (by decide) (fun h11 => ?_) (fun h11 => ?_)
        · try first | contradiction | omega
          all_goals
            refine e_iload_n dX11_heaviestOf_66 rfl rfl ?_
            refine e_ret (some _) rfl (r_int dX11_heaviestOf_67 rfl) ?_
            exact xq (by first | rfl | simp_all [bI_t, bI_f]) rfl rfl rfl rfl rfl
        · try first | contradiction | omega
          all_goals
            refine e_aload_n dX11_heaviestOf_14 rfl rfl ?_
            refine e_getR dX11_heaviestOf_15 fl_X11_7 rfl (by assumption) ?_
            refine e_bipush (v := nI 42) dX11_heaviestOf_18 rfl ?_
            refine e_iload_n dX11_heaviestOf_20 rfl rfl ?_
            first | ((with_reducible refine mk_nn ?_); refine n_iadd dX11_heaviestOf_21 ?_) | refine e_iadd dX11_heaviestOf_21 ?_
            first | ((with_reducible refine mk_ldw ?_); refine e_ldw dX11_heaviestOf_22 (by omega) ?_) | refine e_iald _ dX11_heaviestOf_22 ⟨by decide, by decide⟩ rfl rfl (by simp only [lenK]; omega) ?_
            refine e_iload_n dX11_heaviestOf_23 rfl rfl ?_
            first | ((with_reducible refine mk_mo ?_); refine p_icmp_ne (tgt := 60) dX11_heaviestOf_24 (by decide) (fun h24 => ?_) (fun h24 => ?_)) | ((with_reducible refine mk_ms ?_); refine s_icmp_ne (tgt := 60) dX11_heaviestOf_24 (by decide) (by omega) (fun h24 => ?_) (fun h24 => ?_)) | ((with_reducible refine mk_mn ?_); refine q_icmp_ne (tgt := 60) dX11_heaviestOf_24 (by decide) (by omega) (fun h24 => ?_) (fun h24 => ?_)) | ((with_reducible refine mk_nn ?_); refine n_icmp_ne (tgt := 60) dX11_heaviestOf_24 (by decide) (by omega) (by omega) (fun h24 => ?_) (fun h24 => ?_)) | refine e_icmp_ne (tgt := 60) dX11_heaviestOf_24 (by decide) (fun h24 => ?_) (fun h24 => ?_)
            · try first | contradiction | omega
              all_goals
                first | refine n_inc dX11_heaviestOf_60 rfl (Nat.le_of_ble_eq_true rfl) rfl ?_ | refine e_iinc dX11_heaviestOf_60 rfl rfl (Nat.le_of_ble_eq_true rfl) rfl ?_
                refine e_goto (tgt := 4) dX11_heaviestOf_63 (by decide) ?_
                first | (rw [bst_f (c := fun i => decide (w (42 + i) = s) && (mvL w (w (10 + i))).isNone) (b := fun i q => decide (wtF w q < wtF w i)) (n := j) (by grind), hb] at ih; first | exact ih | exact EV_ls (by repeat (first | exact lsub_0 | refine lsub_n ?_ | refine lsub_s ?_)) ih) | (rw [bst_0 (c := fun i => decide (w (42 + i) = s) && (mvL w (w (10 + i))).isNone) (b := fun i q => decide (wtF w q < wtF w i)) (n := j) (by grind) hb] at ih; first | exact ih | exact EV_ls (by repeat (first | exact lsub_0 | refine lsub_n ?_ | refine lsub_s ?_)) ih) | (rw [bst_1 (c := fun i => decide (w (42 + i) = s) && (mvL w (w (10 + i))).isNone) (b := fun i q => decide (wtF w q < wtF w i)) (n := j) (by grind) hb (by grind)] at ih; first | exact ih | exact EV_ls (by repeat (first | exact lsub_0 | refine lsub_n ?_ | refine lsub_s ?_)) ih) | (rw [bst_2 (c := fun i => decide (w (42 + i) = s) && (mvL w (w (10 + i))).isNone) (b := fun i q => decide (wtF w q < wtF w i)) (n := j) (by grind) hb (by grind)] at ih; first | exact ih | exact EV_ls (by repeat (first | exact lsub_0 | refine lsub_n ?_ | refine lsub_s ?_)) ih)
            · try first | contradiction | omega
              all_goals
                refine e_aload_n dX11_heaviestOf_27 rfl rfl ?_
                refine e_iload_n dX11_heaviestOf_28 rfl rfl ?_
                refine x_V1 (M' := mX11_moveOfSpan) dX11_heaviestOf_29 ml_X11_79 ok_X11_moveOfSpan (by decide) rfl im_X11_moveOfSpan se_X11_moveOfSpan (ct_X11_moveOfSpan ‹_› ‹_› (by omega)) (Nat.le_of_ble_eq_true rfl) (by decide) (Nat.le_of_ble_eq_true rfl) ?_
                rw [hmv]
                refine e_iconst (v := -1) dX11_heaviestOf_32 rfl ?_
                first | ((with_reducible refine mk_mo ?_); refine p_icmp_eq (tgt := 39) dX11_heaviestOf_33 (by decide) (fun h33 => ?_) (fun h33 => ?_)) | ((with_reducible refine mk_ms ?_); refine s_icmp_eq (tgt := 39) dX11_heaviestOf_33 (by decide) (by omega) (fun h33 => ?_) (fun h33 => ?_)) | ((with_reducible refine mk_mn ?_); refine q_icmp_eq (tgt := 39) dX11_heaviestOf_33 (by decide) (by omega) (fun h33 => ?_) (fun h33 => ?_)) | ((with_reducible refine mk_nn ?_); refine n_icmp_eq (tgt := 39) dX11_heaviestOf_33 (by decide) (by omega) (by omega) (fun h33 => ?_) (fun h33 => ?_)) | refine e_icmp_eq (tgt := 39) dX11_heaviestOf_33 (by decide) (fun h33 => ?_) (fun h33 => ?_)
                · try first | contradiction | omega
                  all_goals
                    refine e_iload_n dX11_heaviestOf_39 rfl rfl ?_
                    refine e_iconst (v := -1) dX11_heaviestOf_40 rfl ?_
                    first | ((with_reducible refine mk_mo ?_); refine p_icmp_eq (tgt := 58) dX11_heaviestOf_41 (by decide) (fun h41 => ?_) (fun h41 => ?_)) | ((with_reducible refine mk_ms ?_); refine s_icmp_eq (tgt := 58) dX11_heaviestOf_41 (by decide) (by omega) (fun h41 => ?_) (fun h41 => ?_)) | ((with_reducible refine mk_mn ?_); refine q_icmp_eq (tgt := 58) dX11_heaviestOf_41 (by decide) (by omega) (fun h41 => ?_) (fun h41 => ?_)) | ((with_reducible refine mk_nn ?_); refine n_icmp_eq (tgt := 58) dX11_heaviestOf_41 (by decide) (by omega) (by omega) (fun h41 => ?_) (fun h41 => ?_)) | refine e_icmp_eq (tgt := 58) dX11_heaviestOf_41 (by decide) (fun h41 => ?_) (fun h41 => ?_)
                    · try first | contradiction | omega
                      all_goals
                        refine e_iload_n dX11_heaviestOf_58 rfl rfl ?_
                        refine e_istore_n dX11_heaviestOf_59 rfl (Nat.le_of_ble_eq_true rfl) rfl ?_
                        first | refine n_inc dX11_heaviestOf_60 rfl (Nat.le_of_ble_eq_true rfl) rfl ?_ | refine e_iinc dX11_heaviestOf_60 rfl rfl (Nat.le_of_ble_eq_true rfl) rfl ?_
                        refine e_goto (tgt := 4) dX11_heaviestOf_63 (by decide) ?_
                        first | (rw [bst_f (c := fun i => decide (w (42 + i) = s) && (mvL w (w (10 + i))).isNone) (b := fun i q => decide (wtF w q < wtF w i)) (n := j) (by grind), hb] at ih; first | exact ih | exact EV_ls (by repeat (first | exact lsub_0 | refine lsub_n ?_ | refine lsub_s ?_)) ih) | (rw [bst_0 (c := fun i => decide (w (42 + i) = s) && (mvL w (w (10 + i))).isNone) (b := fun i q => decide (wtF w q < wtF w i)) (n := j) (by grind) hb] at ih; first | exact ih | exact EV_ls (by repeat (first | exact lsub_0 | refine lsub_n ?_ | refine lsub_s ?_)) ih) | (rw [bst_1 (c := fun i => decide (w (42 + i) = s) && (mvL w (w (10 + i))).isNone) (b := fun i q => decide (wtF w q < wtF w i)) (n := j) (by grind) hb (by grind)] at ih; first | exact ih | exact EV_ls (by repeat (first | exact lsub_0 | refine lsub_n ?_ | refine lsub_s ?_)) ih) | (rw [bst_2 (c := fun i => decide (w (42 + i) = s) && (mvL w (w (10 + i))).isNone) (b := fun i q => decide (wtF w q < wtF w i)) (n := j) (by grind) hb (by grind)] at ih; first | exact ih | exact EV_ls (by repeat (first | exact lsub_0 | refine lsub_n ?_ | refine lsub_s ?_)) ih)
                    · try first | contradiction | omega
                      all_goals
                        refine e_aload_n dX11_heaviestOf_44 rfl rfl ?_
                        refine e_iload_n dX11_heaviestOf_45 rfl rfl ?_
                        refine x_V1 (M' := mX11_weightOf) dX11_heaviestOf_46 ml_X11_73 ok_X11_weightOf (by decide) rfl im_X11_weightOf se_X11_weightOf (ct_X11_weightOf ‹_› ‹_› (by omega)) (Nat.le_of_ble_eq_true rfl) (by decide) (Nat.le_of_ble_eq_true rfl) ?_
                        refine e_aload_n dX11_heaviestOf_49 rfl rfl ?_
                        refine e_iload_n dX11_heaviestOf_50 rfl rfl ?_
                        refine x_V1 (M' := mX11_weightOf) dX11_heaviestOf_51 ml_X11_73 ok_X11_weightOf (by decide) rfl im_X11_weightOf se_X11_weightOf (ct_X11_weightOf ‹_› ‹_› (by omega)) (Nat.le_of_ble_eq_true rfl) (by decide) (Nat.le_of_ble_eq_true rfl) ?_
                        refine e_lcmp dX11_heaviestOf_54 ?_
                        first | ((with_reducible refine mk_ll ?_); refine m_if_le (tgt := 60) dX11_heaviestOf_55 (by decide) (by omega) (by omega) (fun h55 => ?_) (fun h55 => ?_)) | ((with_reducible refine mk_lc ?_); refine l_if_le (tgt := 60) dX11_heaviestOf_55 (by decide) (fun h55 => ?_) (fun h55 => ?_)) | ((with_reducible refine mk_n ?_); refine n_if_le (tgt := 60) dX11_heaviestOf_55 (by decide) (by omega) (fun h55 => ?_) (fun h55 => ?_)) | refine e_if_le (tgt := 60) dX11_heaviestOf_55 (by decide) (fun h55 => ?_) (fun h55 => ?_)
                        · try first | contradiction | omega
                          all_goals
                            first | refine n_inc dX11_heaviestOf_60 rfl (Nat.le_of_ble_eq_true rfl) rfl ?_ | refine e_iinc dX11_heaviestOf_60 rfl rfl (Nat.le_of_ble_eq_true rfl) rfl ?_
                            refine e_goto (tgt := 4) dX11_heaviestOf_63 (by decide) ?_
                            first | (rw [bst_f (c := fun i => decide (w (42 + i) = s) && (mvL w (w (10 + i))).isNone) (b := fun i q => decide (wtF w q < wtF w i)) (n := j) (by grind), hb] at ih; first | exact ih | exact EV_ls (by repeat (first | exact lsub_0 | refine lsub_n ?_ | refine lsub_s ?_)) ih) | (rw [bst_0 (c := fun i => decide (w (42 + i) = s) && (mvL w (w (10 + i))).isNone) (b := fun i q => decide (wtF w q < wtF w i)) (n := j) (by grind) hb] at ih; first | exact ih | exact EV_ls (by repeat (first | exact lsub_0 | refine lsub_n ?_ | refine lsub_s ?_)) ih) | (rw [bst_1 (c := fun i => decide (w (42 + i) = s) && (mvL w (w (10 + i))).isNone) (b := fun i q => decide (wtF w q < wtF w i)) (n := j) (by grind) hb (by grind)] at ih; first | exact ih | exact EV_ls (by repeat (first | exact lsub_0 | refine lsub_n ?_ | refine lsub_s ?_)) ih) | (rw [bst_2 (c := fun i => decide (w (42 + i) = s) && (mvL w (w (10 + i))).isNone) (b := fun i q => decide (wtF w q < wtF w i)) (n := j) (by grind) hb (by grind)] at ih; first | exact ih | exact EV_ls (by repeat (first | exact lsub_0 | refine lsub_n ?_ | refine lsub_s ?_)) ih)
                        · try first | contradiction | omega
                          all_goals
                            refine e_iload_n dX11_heaviestOf_58 rfl rfl ?_
                            refine e_istore_n dX11_heaviestOf_59 rfl (Nat.le_of_ble_eq_true rfl) rfl ?_
                            first | refine n_inc dX11_heaviestOf_60 rfl (Nat.le_of_ble_eq_true rfl) rfl ?_ | refine e_iinc dX11_heaviestOf_60 rfl rfl (Nat.le_of_ble_eq_true rfl) rfl ?_
                            refine e_goto (tgt := 4) dX11_heaviestOf_63 (by decide) ?_
                            first | (rw [bst_f (c := fun i => decide (w (42 + i) = s) && (mvL w (w (10 + i))).isNone) (b := fun i q => decide (wtF w q < wtF w i)) (n := j) (by grind), hb] at ih; first | exact ih | exact EV_ls (by repeat (first | exact lsub_0 | refine lsub_n ?_ | refine lsub_s ?_)) ih) | (rw [bst_0 (c := fun i => decide (w (42 + i) = s) && (mvL w (w (10 + i))).isNone) (b := fun i q => decide (wtF w q < wtF w i)) (n := j) (by grind) hb] at ih; first | exact ih | exact EV_ls (by repeat (first | exact lsub_0 | refine lsub_n ?_ | refine lsub_s ?_)) ih) | (rw [bst_1 (c := fun i => decide (w (42 + i) = s) && (mvL w (w (10 + i))).isNone) (b := fun i q => decide (wtF w q < wtF w i)) (n := j) (by grind) hb (by grind)] at ih; first | exact ih | exact EV_ls (by repeat (first | exact lsub_0 | refine lsub_n ?_ | refine lsub_s ?_)) ih) | (rw [bst_2 (c := fun i => decide (w (42 + i) = s) && (mvL w (w (10 + i))).isNone) (b := fun i q => decide (wtF w q < wtF w i)) (n := j) (by grind) hb (by grind)] at ih; first | exact ih | exact EV_ls (by repeat (first | exact lsub_0 | refine lsub_n ?_ | refine lsub_s ?_)) ih)
                · try first | contradiction | omega
                  all_goals
                    refine e_goto (tgt := 60) dX11_heaviestOf_36 (by decide) ?_
                    first | refine n_inc dX11_heaviestOf_60 rfl (Nat.le_of_ble_eq_true rfl) rfl ?_ | refine e_iinc dX11_heaviestOf_60 rfl rfl (Nat.le_of_ble_eq_true rfl) rfl ?_
                    refine e_goto (tgt := 4) dX11_heaviestOf_63 (by decide) ?_
                    first | (rw [bst_f (c := fun i => decide (w (42 + i) = s) && (mvL w (w (10 + i))).isNone) (b := fun i q => decide (wtF w q < wtF w i)) (n := j) (by grind), hb] at ih; first | exact ih | exact EV_ls (by repeat (first | exact lsub_0 | refine lsub_n ?_ | refine lsub_s ?_)) ih) | (rw [bst_0 (c := fun i => decide (w (42 + i) = s) && (mvL w (w (10 + i))).isNone) (b := fun i q => decide (wtF w q < wtF w i)) (n := j) (by grind) hb] at ih; first | exact ih | exact EV_ls (by repeat (first | exact lsub_0 | refine lsub_n ?_ | refine lsub_s ?_)) ih) | (rw [bst_1 (c := fun i => decide (w (42 + i) = s) && (mvL w (w (10 + i))).isNone) (b := fun i q => decide (wtF w q < wtF w i)) (n := j) (by grind) hb (by grind)] at ih; first | exact ih | exact EV_ls (by repeat (first | exact lsub_0 | refine lsub_n ?_ | refine lsub_s ?_)) ih) | (rw [bst_2 (c := fun i => decide (w (42 + i) = s) && (mvL w (w (10 + i))).isNone) (b := fun i q => decide (wtF w q < wtF w i)) (n := j) (by grind) hb (by grind)] at ih; first | exact ih | exact EV_ls (by repeat (first | exact lsub_0 | refine lsub_n ?_ | refine lsub_s ?_)) ih)
    ) (by
    refine e_iload_n dX11_heaviestOf_4 rfl rfl ?_
    refine e_aload_n dX11_heaviestOf_5 rfl rfl ?_
    refine e_getR dX11_heaviestOf_6 fl_X11_7 rfl (by assumption) ?_
    refine e_iconst (v := nI 1) dX11_heaviestOf_9 rfl ?_
    first | ((with_reducible refine mk_ldw ?_); refine e_ldw dX11_heaviestOf_10 (by omega) ?_) | refine e_iald _ dX11_heaviestOf_10 ⟨by decide, by decide⟩ rfl rfl (by simp only [lenK]; omega) ?_
    first | ((with_reducible refine mk_nn ?_); refine n_icmp_ge (tgt := 66) dX11_heaviestOf_11 (by decide) (by omega) (by omega) (fun h11 => ?_) (fun h11 => ?_)) | refine e_icmp_ge (tgt := 66) dX11_heaviestOf_11 (by decide) (fun h11 => ?_) (fun h11 => ?_)
    · try first | contradiction | omega
      all_goals
        refine e_iload_n dX11_heaviestOf_66 rfl rfl ?_
        refine e_ret (some _) rfl (r_int dX11_heaviestOf_67 rfl) ?_
        exact xq rfl rfl rfl rfl rfl rfl
    · try first | contradiction | omega
      all_goals
        refine e_aload_n dX11_heaviestOf_14 rfl rfl ?_
        refine e_getR dX11_heaviestOf_15 fl_X11_7 rfl (by assumption) ?_
        refine e_bipush (v := nI 42) dX11_heaviestOf_18 rfl ?_
        refine e_iload_n dX11_heaviestOf_20 rfl rfl ?_
        first | ((with_reducible refine mk_nn ?_); refine n_iadd dX11_heaviestOf_21 ?_) | refine e_iadd dX11_heaviestOf_21 ?_
        first | ((with_reducible refine mk_ldw ?_); refine e_ldw dX11_heaviestOf_22 (by omega) ?_) | refine e_iald _ dX11_heaviestOf_22 ⟨by decide, by decide⟩ rfl rfl (by simp only [lenK]; omega) ?_
        refine e_iload_n dX11_heaviestOf_23 rfl rfl ?_
        first | ((with_reducible refine mk_mo ?_); refine p_icmp_ne (tgt := 60) dX11_heaviestOf_24 (by decide) (fun h24 => ?_) (fun h24 => ?_)) | ((with_reducible refine mk_ms ?_); refine s_icmp_ne (tgt := 60) dX11_heaviestOf_24 (by decide) (by omega) (fun h24 => ?_) (fun h24 => ?_)) | ((with_reducible refine mk_mn ?_); refine q_icmp_ne (tgt := 60) dX11_heaviestOf_24 (by decide) (by omega) (fun h24 => ?_) (fun h24 => ?_)) | ((with_reducible refine mk_nn ?_); refine n_icmp_ne (tgt := 60) dX11_heaviestOf_24 (by decide) (by omega) (by omega) (fun h24 => ?_) (fun h24 => ?_)) | refine e_icmp_ne (tgt := 60) dX11_heaviestOf_24 (by decide) (fun h24 => ?_) (fun h24 => ?_)
        · try first | contradiction | omega
          all_goals
            first | refine n_inc dX11_heaviestOf_60 rfl (Nat.le_of_ble_eq_true rfl) rfl ?_ | refine e_iinc dX11_heaviestOf_60 rfl rfl (Nat.le_of_ble_eq_true rfl) rfl ?_
            refine e_goto (tgt := 4) dX11_heaviestOf_63 (by decide) ?_
            first | (rw [bst_f (c := fun i => decide (w (42 + i) = s) && (mvL w (w (10 + i))).isNone) (b := fun i q => decide (wtF w q < wtF w i)) (n := j) (by grind), hb] at ih; first | exact ih | exact EV_ls (by repeat (first | exact lsub_0 | refine lsub_n ?_ | refine lsub_s ?_)) ih) | (rw [bst_0 (c := fun i => decide (w (42 + i) = s) && (mvL w (w (10 + i))).isNone) (b := fun i q => decide (wtF w q < wtF w i)) (n := j) (by grind) hb] at ih; first | exact ih | exact EV_ls (by repeat (first | exact lsub_0 | refine lsub_n ?_ | refine lsub_s ?_)) ih) | (rw [bst_1 (c := fun i => decide (w (42 + i) = s) && (mvL w (w (10 + i))).isNone) (b := fun i q => decide (wtF w q < wtF w i)) (n := j) (by grind) hb (by grind)] at ih; first | exact ih | exact EV_ls (by repeat (first | exact lsub_0 | refine lsub_n ?_ | refine lsub_s ?_)) ih) | (rw [bst_2 (c := fun i => decide (w (42 + i) = s) && (mvL w (w (10 + i))).isNone) (b := fun i q => decide (wtF w q < wtF w i)) (n := j) (by grind) hb (by grind)] at ih; first | exact ih | exact EV_ls (by repeat (first | exact lsub_0 | refine lsub_n ?_ | refine lsub_s ?_)) ih)
        · try first | contradiction | omega
          all_goals
            refine e_aload_n dX11_heaviestOf_27 rfl rfl ?_
            refine e_iload_n dX11_heaviestOf_28 rfl rfl ?_
            refine x_V1 (M' := mX11_moveOfSpan) dX11_heaviestOf_29 ml_X11_79 ok_X11_moveOfSpan (by decide) rfl im_X11_moveOfSpan se_X11_moveOfSpan (ct_X11_moveOfSpan ‹_› ‹_› (by omega)) (Nat.le_of_ble_eq_true rfl) (by decide) (Nat.le_of_ble_eq_true rfl) ?_
            rw [hmv]
            refine e_iconst (v := -1) dX11_heaviestOf_32 rfl ?_
            first | ((with_reducible refine mk_mo ?_); refine p_icmp_eq (tgt := 39) dX11_heaviestOf_33 (by decide) (fun h33 => ?_) (fun h33 => ?_)) | ((with_reducible refine mk_ms ?_); refine s_icmp_eq (tgt := 39) dX11_heaviestOf_33 (by decide) (by omega) (fun h33 => ?_) (fun h33 => ?_)) | ((with_reducible refine mk_mn ?_); refine q_icmp_eq (tgt := 39) dX11_heaviestOf_33 (by decide) (by omega) (fun h33 => ?_) (fun h33 => ?_)) | ((with_reducible refine mk_nn ?_); refine n_icmp_eq (tgt := 39) dX11_heaviestOf_33 (by decide) (by omega) (by omega) (fun h33 => ?_) (fun h33 => ?_)) | refine e_icmp_eq (tgt := 39) dX11_heaviestOf_33 (by decide) (fun h33 => ?_) (fun h33 => ?_)
            · try first | contradiction | omega
              all_goals
                refine e_iload_n dX11_heaviestOf_39 rfl rfl ?_
                refine e_iconst (v := -1) dX11_heaviestOf_40 rfl ?_
                first | ((with_reducible refine mk_mo ?_); refine p_icmp_eq (tgt := 58) dX11_heaviestOf_41 (by decide) (fun h41 => ?_) (fun h41 => ?_)) | ((with_reducible refine mk_ms ?_); refine s_icmp_eq (tgt := 58) dX11_heaviestOf_41 (by decide) (by omega) (fun h41 => ?_) (fun h41 => ?_)) | ((with_reducible refine mk_mn ?_); refine q_icmp_eq (tgt := 58) dX11_heaviestOf_41 (by decide) (by omega) (fun h41 => ?_) (fun h41 => ?_)) | ((with_reducible refine mk_nn ?_); refine n_icmp_eq (tgt := 58) dX11_heaviestOf_41 (by decide) (by omega) (by omega) (fun h41 => ?_) (fun h41 => ?_)) | refine e_icmp_eq (tgt := 58) dX11_heaviestOf_41 (by decide) (fun h41 => ?_) (fun h41 => ?_)
                · try first | contradiction | omega
                  all_goals
                    refine e_iload_n dX11_heaviestOf_58 rfl rfl ?_
                    refine e_istore_n dX11_heaviestOf_59 rfl (Nat.le_of_ble_eq_true rfl) rfl ?_
                    first | refine n_inc dX11_heaviestOf_60 rfl (Nat.le_of_ble_eq_true rfl) rfl ?_ | refine e_iinc dX11_heaviestOf_60 rfl rfl (Nat.le_of_ble_eq_true rfl) rfl ?_
                    refine e_goto (tgt := 4) dX11_heaviestOf_63 (by decide) ?_
                    first | (rw [bst_f (c := fun i => decide (w (42 + i) = s) && (mvL w (w (10 + i))).isNone) (b := fun i q => decide (wtF w q < wtF w i)) (n := j) (by grind), hb] at ih; first | exact ih | exact EV_ls (by repeat (first | exact lsub_0 | refine lsub_n ?_ | refine lsub_s ?_)) ih) | (rw [bst_0 (c := fun i => decide (w (42 + i) = s) && (mvL w (w (10 + i))).isNone) (b := fun i q => decide (wtF w q < wtF w i)) (n := j) (by grind) hb] at ih; first | exact ih | exact EV_ls (by repeat (first | exact lsub_0 | refine lsub_n ?_ | refine lsub_s ?_)) ih) | (rw [bst_1 (c := fun i => decide (w (42 + i) = s) && (mvL w (w (10 + i))).isNone) (b := fun i q => decide (wtF w q < wtF w i)) (n := j) (by grind) hb (by grind)] at ih; first | exact ih | exact EV_ls (by repeat (first | exact lsub_0 | refine lsub_n ?_ | refine lsub_s ?_)) ih) | (rw [bst_2 (c := fun i => decide (w (42 + i) = s) && (mvL w (w (10 + i))).isNone) (b := fun i q => decide (wtF w q < wtF w i)) (n := j) (by grind) hb (by grind)] at ih; first | exact ih | exact EV_ls (by repeat (first | exact lsub_0 | refine lsub_n ?_ | refine lsub_s ?_)) ih)
                · try first | contradiction | omega
                  all_goals
                    refine e_aload_n dX11_heaviestOf_44 rfl rfl ?_
                    refine e_iload_n dX11_heaviestOf_45 rfl rfl ?_
                    refine x_V1 (M' := mX11_weightOf) dX11_heaviestOf_46 ml_X11_73 ok_X11_weightOf (by decide) rfl im_X11_weightOf se_X11_weightOf (ct_X11_weightOf ‹_› ‹_› (by omega)) (Nat.le_of_ble_eq_true rfl) (by decide) (Nat.le_of_ble_eq_true rfl) ?_
                    refine e_aload_n dX11_heaviestOf_49 rfl rfl ?_
                    refine e_iload_n dX11_heaviestOf_50 rfl rfl ?_
                    refine x_V1 (M' := mX11_weightOf) dX11_heaviestOf_51 ml_X11_73 ok_X11_weightOf (by decide) rfl im_X11_weightOf se_X11_weightOf (ct_X11_weightOf ‹_› ‹_› (by omega)) (Nat.le_of_ble_eq_true rfl) (by decide) (Nat.le_of_ble_eq_true rfl) ?_
                    refine e_lcmp dX11_heaviestOf_54 ?_
                    first | ((with_reducible refine mk_ll ?_); refine m_if_le (tgt := 60) dX11_heaviestOf_55 (by decide) (by omega) (by omega) (fun h55 => ?_) (fun h55 => ?_)) | ((with_reducible refine mk_lc ?_); refine l_if_le (tgt := 60) dX11_heaviestOf_55 (by decide) (fun h55 => ?_) (fun h55 => ?_)) | ((with_reducible refine mk_n ?_); refine n_if_le (tgt := 60) dX11_heaviestOf_55 (by decide) (by omega) (fun h55 => ?_) (fun h55 => ?_)) | refine e_if_le (tgt := 60) dX11_heaviestOf_55 (by decide) (fun h55 => ?_) (fun h55 => ?_)
                    · try first | contradiction | omega
                      all_goals
                        first | refine n_inc dX11_heaviestOf_60 rfl (Nat.le_of_ble_eq_true rfl) rfl ?_ | refine e_iinc dX11_heaviestOf_60 rfl rfl (Nat.le_of_ble_eq_true rfl) rfl ?_
                        refine e_goto (tgt := 4) dX11_heaviestOf_63 (by decide) ?_
                        first | (rw [bst_f (c := fun i => decide (w (42 + i) = s) && (mvL w (w (10 + i))).isNone) (b := fun i q => decide (wtF w q < wtF w i)) (n := j) (by grind), hb] at ih; first | exact ih | exact EV_ls (by repeat (first | exact lsub_0 | refine lsub_n ?_ | refine lsub_s ?_)) ih) | (rw [bst_0 (c := fun i => decide (w (42 + i) = s) && (mvL w (w (10 + i))).isNone) (b := fun i q => decide (wtF w q < wtF w i)) (n := j) (by grind) hb] at ih; first | exact ih | exact EV_ls (by repeat (first | exact lsub_0 | refine lsub_n ?_ | refine lsub_s ?_)) ih) | (rw [bst_1 (c := fun i => decide (w (42 + i) = s) && (mvL w (w (10 + i))).isNone) (b := fun i q => decide (wtF w q < wtF w i)) (n := j) (by grind) hb (by grind)] at ih; first | exact ih | exact EV_ls (by repeat (first | exact lsub_0 | refine lsub_n ?_ | refine lsub_s ?_)) ih) | (rw [bst_2 (c := fun i => decide (w (42 + i) = s) && (mvL w (w (10 + i))).isNone) (b := fun i q => decide (wtF w q < wtF w i)) (n := j) (by grind) hb (by grind)] at ih; first | exact ih | exact EV_ls (by repeat (first | exact lsub_0 | refine lsub_n ?_ | refine lsub_s ?_)) ih)
                    · try first | contradiction | omega
                      all_goals
                        refine e_iload_n dX11_heaviestOf_58 rfl rfl ?_
                        refine e_istore_n dX11_heaviestOf_59 rfl (Nat.le_of_ble_eq_true rfl) rfl ?_
                        first | refine n_inc dX11_heaviestOf_60 rfl (Nat.le_of_ble_eq_true rfl) rfl ?_ | refine e_iinc dX11_heaviestOf_60 rfl rfl (Nat.le_of_ble_eq_true rfl) rfl ?_
                        refine e_goto (tgt := 4) dX11_heaviestOf_63 (by decide) ?_
                        first | (rw [bst_f (c := fun i => decide (w (42 + i) = s) && (mvL w (w (10 + i))).isNone) (b := fun i q => decide (wtF w q < wtF w i)) (n := j) (by grind), hb] at ih; first | exact ih | exact EV_ls (by repeat (first | exact lsub_0 | refine lsub_n ?_ | refine lsub_s ?_)) ih) | (rw [bst_0 (c := fun i => decide (w (42 + i) = s) && (mvL w (w (10 + i))).isNone) (b := fun i q => decide (wtF w q < wtF w i)) (n := j) (by grind) hb] at ih; first | exact ih | exact EV_ls (by repeat (first | exact lsub_0 | refine lsub_n ?_ | refine lsub_s ?_)) ih) | (rw [bst_1 (c := fun i => decide (w (42 + i) = s) && (mvL w (w (10 + i))).isNone) (b := fun i q => decide (wtF w q < wtF w i)) (n := j) (by grind) hb (by grind)] at ih; first | exact ih | exact EV_ls (by repeat (first | exact lsub_0 | refine lsub_n ?_ | refine lsub_s ?_)) ih) | (rw [bst_2 (c := fun i => decide (w (42 + i) = s) && (mvL w (w (10 + i))).isNone) (b := fun i q => decide (wtF w q < wtF w i)) (n := j) (by grind) hb (by grind)] at ih; first | exact ih | exact EV_ls (by repeat (first | exact lsub_0 | refine lsub_n ?_ | refine lsub_s ?_)) ih)
            · try first | contradiction | omega
              all_goals
                refine e_goto (tgt := 60) dX11_heaviestOf_36 (by decide) ?_
                first | refine n_inc dX11_heaviestOf_60 rfl (Nat.le_of_ble_eq_true rfl) rfl ?_ | refine e_iinc dX11_heaviestOf_60 rfl rfl (Nat.le_of_ble_eq_true rfl) rfl ?_
                refine e_goto (tgt := 4) dX11_heaviestOf_63 (by decide) ?_
                first | (rw [bst_f (c := fun i => decide (w (42 + i) = s) && (mvL w (w (10 + i))).isNone) (b := fun i q => decide (wtF w q < wtF w i)) (n := j) (by grind), hb] at ih; first | exact ih | exact EV_ls (by repeat (first | exact lsub_0 | refine lsub_n ?_ | refine lsub_s ?_)) ih) | (rw [bst_0 (c := fun i => decide (w (42 + i) = s) && (mvL w (w (10 + i))).isNone) (b := fun i q => decide (wtF w q < wtF w i)) (n := j) (by grind) hb] at ih; first | exact ih | exact EV_ls (by repeat (first | exact lsub_0 | refine lsub_n ?_ | refine lsub_s ?_)) ih) | (rw [bst_1 (c := fun i => decide (w (42 + i) = s) && (mvL w (w (10 + i))).isNone) (b := fun i q => decide (wtF w q < wtF w i)) (n := j) (by grind) hb (by grind)] at ih; first | exact ih | exact EV_ls (by repeat (first | exact lsub_0 | refine lsub_n ?_ | refine lsub_s ?_)) ih) | (rw [bst_2 (c := fun i => decide (w (42 + i) = s) && (mvL w (w (10 + i))).isNone) (b := fun i q => decide (wtF w q < wtF w i)) (n := j) (by grind) hb (by grind)] at ih; first | exact ih | exact EV_ls (by repeat (first | exact lsub_0 | refine lsub_n ?_ | refine lsub_s ?_)) ih)
    )
  refine e_iconst (v := -1) dX11_heaviestOf_0 rfl ?_
  refine e_istore_n dX11_heaviestOf_1 rfl (Nat.le_of_ble_eq_true rfl) rfl ?_
  refine e_iconst (v := nI 0) dX11_heaviestOf_2 rfl ?_
  refine e_istore_n dX11_heaviestOf_3 rfl (Nat.le_of_ble_eq_true rfl) rfl ?_
  exact key 0 (by omega)
theorem ct_sizeN {fi : FI} {fr : FR} {ai : FI} {ar : FR} {N : Nat} {a b : Nat} (ha : a < 4611686018427387904) (hb : b < 4611686018427387904) : CP mX11_size 0 0 0 [.long (lN a - lN b)] fi fr ai ar N (xQ (some (.long (lN (dst a b)))) fi fr ai ar N) := by
  have e : (lN a - lN b).toInt = (a : Int) - b := by
    rw [Int64.toInt_sub, lN_t (by omega), lN_t (by omega)]
    exact Int.bmod_eq_of_le (by omega) (by omega)
  change EV mX11_size 0 0 0 0 [some (.long (lN a - lN b)), none] [] fi fr ai ar N _
  refine e_lload_n dX11_size_0 rfl rfl ?_
  refine e_lconst (v := lN 0) dX11_size_1 rfl ?_
  refine e_lcmp dX11_size_2 ?_
  first | ((with_reducible refine mk_ll ?_); refine m_if_ge (tgt := 11) dX11_size_3 (by decide) (by omega) (by omega) (fun h3 => ?_) (fun h3 => ?_)) | ((with_reducible refine mk_lc ?_); refine l_if_ge (tgt := 11) dX11_size_3 (by decide) (fun h3 => ?_) (fun h3 => ?_)) | ((with_reducible refine mk_n ?_); refine n_if_ge (tgt := 11) dX11_size_3 (by decide) (by omega) (fun h3 => ?_) (fun h3 => ?_)) | refine e_if_ge (tgt := 11) dX11_size_3 (by decide) (fun h3 => ?_) (fun h3 => ?_)
  · try first | contradiction | omega
    all_goals
      refine e_lload_n dX11_size_11 rfl rfl ?_
      refine e_ret (some _) rfl (r_long dX11_size_12 rfl) ?_
      refine xq ?_ rfl rfl rfl rfl rfl
      congr 2
      unfold dst
      simp only [Int64.lt_iff_toInt_lt, e] at *
      have z : (lN 0).toInt = 0 := rfl
      first | (rw [if_pos (by omega), show (0 : Int64) - (lN a - lN b) = lN b - lN a from by grind, lN_sub (by omega)]) | (rw [if_neg (by omega), lN_sub (by omega)])
  · try first | contradiction | omega
    all_goals
      refine e_lload_n dX11_size_6 rfl rfl ?_
      refine e_lneg dX11_size_7 ?_
      refine e_goto (tgt := 12) dX11_size_8 (by decide) ?_
      refine e_ret (some _) rfl (r_long dX11_size_12 rfl) ?_
      refine xq ?_ rfl rfl rfl rfl rfl
      congr 2
      unfold dst
      simp only [Int64.lt_iff_toInt_lt, e] at *
      have z : (lN 0).toInt = 0 := rfl
      first | (rw [if_pos (by omega), show (0 : Int64) - (lN a - lN b) = lN b - lN a from by grind, lN_sub (by omega)]) | (rw [if_neg (by omega), lN_sub (by omega)])
theorem ct_X11_spanToMove {fi : FI} {fr : FR} {ai : FI} {ar : FR} {N : Nat} {w : Nat → Nat} (sm : SM fr) (iv : Inv w) {h dd e : Nat} (hh : h < 6) (hdd : dd < 6) (he : e < 4000000000) : CP mX11_spanToMove 3 0 0 [.ref (rf 11 80), .int (nI h), .int (nI dd), .long (lN e)] fi fr (mW ai w) ar N (xQ (some (.int (oI (if dd = h then none else smO w h e)))) fi fr (mW ai w) ar N) := by
  obtain ⟨sW, sA, sK, sU, sC, sKC, sT, sCl⟩ := id sm
  have h1 := iv_n iv
  have h3 := iv_mm iv
  change EV mX11_spanToMove 3 0 0 0 [some (.ref (rf 11 80)), some (.int (nI h)), some (.int (nI dd)), some (.long (lN e)), none, none, none, none, none] [] fi fr (mW ai w) ar N (xQ (some (.int (oI (if dd = h then none else smO w h e)))) fi fr (mW ai w) ar N)
  have key := ev_up (P := (fun j => EV mX11_spanToMove 3 0 0 6 [some (.ref (rf 11 80)), some (.int (nI h)), some (.int (nI dd)), some (.long (lN e)), none, some (.int (oI (bst (fun i => decide (w (42 + i) = h) && (mvL w (w (10 + i))).isNone && decide (wtF w i ≠ 0) && decide (wtF w i < e)) (fun i q => decide (dst e (2 * wtF w i) < dst e (2 * wtF w q))) j))), some (.int (nI j)), none, none] [] fi fr (mW ai w) ar N (xQ (some (.int (oI (if dd = h then none else smO w h e)))) fi fr (mW ai w) ar N))) (w 1) (fun j hj ih => by
    have ho := iv_own iv hj
    have hw := wtF_le iv hj
    cases hmv : mvL w (w (10 + j)) with
    | none =>
      cases hb : bst (fun i => decide (w (42 + i) = h) && (mvL w (w (10 + i))).isNone && decide (wtF w i ≠ 0) && decide (wtF w i < e)) (fun i q => decide (dst e (2 * wtF w i) < dst e (2 * wtF w q))) j with
      | none =>
        refine e_iload dX11_spanToMove_6 rfl ?_
        refine e_aload_n dX11_spanToMove_8 rfl rfl ?_
        refine e_getR dX11_spanToMove_9 fl_X11_7 rfl (by assumption) ?_
        refine e_iconst (v := nI 1) dX11_spanToMove_12 rfl ?_
        first | ((with_reducible refine mk_ldw ?_); refine e_ldw dX11_spanToMove_13 (by omega) ?_) | refine e_iald _ dX11_spanToMove_13 ⟨by decide, by decide⟩ rfl rfl (by simp only [lenK]; omega) ?_
        first | ((with_reducible refine mk_nn ?_); refine n_icmp_ge (tgt := 112) dX11_spanToMove_14 (by decide) (by omega) (by omega) (fun h14 => ?_) (fun h14 => ?_)) | refine e_icmp_ge (tgt := 112) dX11_spanToMove_14 (by decide) (fun h14 => ?_) (fun h14 => ?_)
        · try first | contradiction | omega
          all_goals
            refine e_iload_n dX11_spanToMove_112 rfl rfl ?_
            refine e_iload_n dX11_spanToMove_113 rfl rfl ?_
            first | ((with_reducible refine mk_mo ?_); refine p_icmp_ne (tgt := 121) dX11_spanToMove_114 (by decide) (fun h114 => ?_) (fun h114 => ?_)) | ((with_reducible refine mk_ms ?_); refine s_icmp_ne (tgt := 121) dX11_spanToMove_114 (by decide) (by omega) (fun h114 => ?_) (fun h114 => ?_)) | ((with_reducible refine mk_mn ?_); refine q_icmp_ne (tgt := 121) dX11_spanToMove_114 (by decide) (by omega) (fun h114 => ?_) (fun h114 => ?_)) | ((with_reducible refine mk_nn ?_); refine n_icmp_ne (tgt := 121) dX11_spanToMove_114 (by decide) (by omega) (by omega) (fun h114 => ?_) (fun h114 => ?_)) | refine e_icmp_ne (tgt := 121) dX11_spanToMove_114 (by decide) (fun h114 => ?_) (fun h114 => ?_)
            · try first | contradiction | omega
              all_goals
                refine e_iload dX11_spanToMove_121 rfl ?_
                refine e_ret (some _) rfl (r_int dX11_spanToMove_123 rfl) ?_
                exact xq (by first | rfl | simp_all [bI_t, bI_f]) rfl rfl rfl rfl rfl
            · try first | contradiction | omega
              all_goals
                refine e_iconst (v := -1) dX11_spanToMove_117 rfl ?_
                refine e_goto (tgt := 123) dX11_spanToMove_118 (by decide) ?_
                refine e_ret (some _) rfl (r_int dX11_spanToMove_123 rfl) ?_
                exact xq (by first | rfl | simp_all [bI_t, bI_f]) rfl rfl rfl rfl rfl
        · try first | contradiction | omega
          all_goals
            refine e_aload_n dX11_spanToMove_17 rfl rfl ?_
            refine e_iload dX11_spanToMove_18 rfl ?_
            refine x_V1 (M' := mX11_weightOf) dX11_spanToMove_20 ml_X11_73 ok_X11_weightOf (by decide) rfl im_X11_weightOf se_X11_weightOf (ct_X11_weightOf ‹_› ‹_› (by omega)) (Nat.le_of_ble_eq_true rfl) (by decide) (Nat.le_of_ble_eq_true rfl) ?_
            refine e_lstore dX11_spanToMove_23 (Nat.le_of_ble_eq_true rfl) rfl ?_
            refine e_aload_n dX11_spanToMove_25 rfl rfl ?_
            refine e_getR dX11_spanToMove_26 fl_X11_7 rfl (by assumption) ?_
            refine e_bipush (v := nI 42) dX11_spanToMove_29 rfl ?_
            refine e_iload dX11_spanToMove_31 rfl ?_
            first | ((with_reducible refine mk_nn ?_); refine n_iadd dX11_spanToMove_33 ?_) | refine e_iadd dX11_spanToMove_33 ?_
            first | ((with_reducible refine mk_ldw ?_); refine e_ldw dX11_spanToMove_34 (by omega) ?_) | refine e_iald _ dX11_spanToMove_34 ⟨by decide, by decide⟩ rfl rfl (by simp only [lenK]; omega) ?_
            refine e_iload_n dX11_spanToMove_35 rfl rfl ?_
            first | ((with_reducible refine mk_mo ?_); refine p_icmp_ne (tgt := 106) dX11_spanToMove_36 (by decide) (fun h36 => ?_) (fun h36 => ?_)) | ((with_reducible refine mk_ms ?_); refine s_icmp_ne (tgt := 106) dX11_spanToMove_36 (by decide) (by omega) (fun h36 => ?_) (fun h36 => ?_)) | ((with_reducible refine mk_mn ?_); refine q_icmp_ne (tgt := 106) dX11_spanToMove_36 (by decide) (by omega) (fun h36 => ?_) (fun h36 => ?_)) | ((with_reducible refine mk_nn ?_); refine n_icmp_ne (tgt := 106) dX11_spanToMove_36 (by decide) (by omega) (by omega) (fun h36 => ?_) (fun h36 => ?_)) | refine e_icmp_ne (tgt := 106) dX11_spanToMove_36 (by decide) (fun h36 => ?_) (fun h36 => ?_)
            · try first | contradiction | omega
              all_goals
                first | refine n_inc dX11_spanToMove_106 rfl (Nat.le_of_ble_eq_true rfl) rfl ?_ | refine e_iinc dX11_spanToMove_106 rfl rfl (Nat.le_of_ble_eq_true rfl) rfl ?_
                refine e_goto (tgt := 6) dX11_spanToMove_109 (by decide) ?_
                first | (rw [bst_f (c := fun i => decide (w (42 + i) = h) && (mvL w (w (10 + i))).isNone && decide (wtF w i ≠ 0) && decide (wtF w i < e)) (b := fun i q => decide (dst e (2 * wtF w i) < dst e (2 * wtF w q))) (n := j) (by grind), hb] at ih; first | exact ih | exact EV_ls (by repeat (first | exact lsub_0 | refine lsub_n ?_ | refine lsub_s ?_)) ih) | (rw [bst_0 (c := fun i => decide (w (42 + i) = h) && (mvL w (w (10 + i))).isNone && decide (wtF w i ≠ 0) && decide (wtF w i < e)) (b := fun i q => decide (dst e (2 * wtF w i) < dst e (2 * wtF w q))) (n := j) (by grind) hb] at ih; first | exact ih | exact EV_ls (by repeat (first | exact lsub_0 | refine lsub_n ?_ | refine lsub_s ?_)) ih)
            · try first | contradiction | omega
              all_goals
                refine e_aload_n dX11_spanToMove_39 rfl rfl ?_
                refine e_iload dX11_spanToMove_40 rfl ?_
                refine x_V1 (M' := mX11_moveOfSpan) dX11_spanToMove_42 ml_X11_79 ok_X11_moveOfSpan (by decide) rfl im_X11_moveOfSpan se_X11_moveOfSpan (ct_X11_moveOfSpan ‹_› ‹_› (by omega)) (Nat.le_of_ble_eq_true rfl) (by decide) (Nat.le_of_ble_eq_true rfl) ?_
                rw [hmv]
                refine e_iconst (v := -1) dX11_spanToMove_45 rfl ?_
                first | ((with_reducible refine mk_mo ?_); refine p_icmp_ne (tgt := 106) dX11_spanToMove_46 (by decide) (fun h46 => ?_) (fun h46 => ?_)) | ((with_reducible refine mk_ms ?_); refine s_icmp_ne (tgt := 106) dX11_spanToMove_46 (by decide) (by omega) (fun h46 => ?_) (fun h46 => ?_)) | ((with_reducible refine mk_mn ?_); refine q_icmp_ne (tgt := 106) dX11_spanToMove_46 (by decide) (by omega) (fun h46 => ?_) (fun h46 => ?_)) | ((with_reducible refine mk_nn ?_); refine n_icmp_ne (tgt := 106) dX11_spanToMove_46 (by decide) (by omega) (by omega) (fun h46 => ?_) (fun h46 => ?_)) | refine e_icmp_ne (tgt := 106) dX11_spanToMove_46 (by decide) (fun h46 => ?_) (fun h46 => ?_)
                · try first | contradiction | omega
                  all_goals
                    first | refine n_inc dX11_spanToMove_106 rfl (Nat.le_of_ble_eq_true rfl) rfl ?_ | refine e_iinc dX11_spanToMove_106 rfl rfl (Nat.le_of_ble_eq_true rfl) rfl ?_
                    refine e_goto (tgt := 6) dX11_spanToMove_109 (by decide) ?_
                    first | (rw [bst_f (c := fun i => decide (w (42 + i) = h) && (mvL w (w (10 + i))).isNone && decide (wtF w i ≠ 0) && decide (wtF w i < e)) (b := fun i q => decide (dst e (2 * wtF w i) < dst e (2 * wtF w q))) (n := j) (by grind), hb] at ih; first | exact ih | exact EV_ls (by repeat (first | exact lsub_0 | refine lsub_n ?_ | refine lsub_s ?_)) ih) | (rw [bst_0 (c := fun i => decide (w (42 + i) = h) && (mvL w (w (10 + i))).isNone && decide (wtF w i ≠ 0) && decide (wtF w i < e)) (b := fun i q => decide (dst e (2 * wtF w i) < dst e (2 * wtF w q))) (n := j) (by grind) hb] at ih; first | exact ih | exact EV_ls (by repeat (first | exact lsub_0 | refine lsub_n ?_ | refine lsub_s ?_)) ih)
                · try first | contradiction | omega
                  all_goals
                    refine e_lload dX11_spanToMove_49 rfl ?_
                    refine e_lconst (v := lN 0) dX11_spanToMove_51 rfl ?_
                    refine e_lcmp dX11_spanToMove_52 ?_
                    first | ((with_reducible refine mk_b ?_); refine b_if_eq (tgt := 106) dX11_spanToMove_53 (by decide) (fun h53 => ?_) (fun h53 => ?_)) | ((with_reducible refine mk_ll ?_); refine m_if_eq (tgt := 106) dX11_spanToMove_53 (by decide) (by omega) (by omega) (fun h53 => ?_) (fun h53 => ?_)) | ((with_reducible refine mk_lc ?_); refine l_if_eq (tgt := 106) dX11_spanToMove_53 (by decide) (fun h53 => ?_) (fun h53 => ?_)) | ((with_reducible refine mk_n ?_); refine n_if_eq (tgt := 106) dX11_spanToMove_53 (by decide) (by omega) (fun h53 => ?_) (fun h53 => ?_)) | refine e_if_eq (tgt := 106) dX11_spanToMove_53 (by decide) (fun h53 => ?_) (fun h53 => ?_)
                    · try first | contradiction | omega
                      all_goals
                        first | refine n_inc dX11_spanToMove_106 rfl (Nat.le_of_ble_eq_true rfl) rfl ?_ | refine e_iinc dX11_spanToMove_106 rfl rfl (Nat.le_of_ble_eq_true rfl) rfl ?_
                        refine e_goto (tgt := 6) dX11_spanToMove_109 (by decide) ?_
                        first | (rw [bst_f (c := fun i => decide (w (42 + i) = h) && (mvL w (w (10 + i))).isNone && decide (wtF w i ≠ 0) && decide (wtF w i < e)) (b := fun i q => decide (dst e (2 * wtF w i) < dst e (2 * wtF w q))) (n := j) (by grind), hb] at ih; first | exact ih | exact EV_ls (by repeat (first | exact lsub_0 | refine lsub_n ?_ | refine lsub_s ?_)) ih) | (rw [bst_0 (c := fun i => decide (w (42 + i) = h) && (mvL w (w (10 + i))).isNone && decide (wtF w i ≠ 0) && decide (wtF w i < e)) (b := fun i q => decide (dst e (2 * wtF w i) < dst e (2 * wtF w q))) (n := j) (by grind) hb] at ih; first | exact ih | exact EV_ls (by repeat (first | exact lsub_0 | refine lsub_n ?_ | refine lsub_s ?_)) ih)
                    · try first | contradiction | omega
                      all_goals
                        refine e_lload dX11_spanToMove_56 rfl ?_
                        refine e_lload_n dX11_spanToMove_58 rfl rfl ?_
                        refine e_lcmp dX11_spanToMove_59 ?_
                        first | ((with_reducible refine mk_ll ?_); refine m_if_lt (tgt := 66) dX11_spanToMove_60 (by decide) (by omega) (by omega) (fun h60 => ?_) (fun h60 => ?_)) | ((with_reducible refine mk_lc ?_); refine l_if_lt (tgt := 66) dX11_spanToMove_60 (by decide) (fun h60 => ?_) (fun h60 => ?_)) | ((with_reducible refine mk_n ?_); refine n_if_lt (tgt := 66) dX11_spanToMove_60 (by decide) (by omega) (fun h60 => ?_) (fun h60 => ?_)) | refine e_if_lt (tgt := 66) dX11_spanToMove_60 (by decide) (fun h60 => ?_) (fun h60 => ?_)
                        · try first | contradiction | omega
                          all_goals
                            refine e_iload dX11_spanToMove_66 rfl ?_
                            refine e_iconst (v := -1) dX11_spanToMove_68 rfl ?_
                            first | ((with_reducible refine mk_mo ?_); refine p_icmp_eq (tgt := 102) dX11_spanToMove_69 (by decide) (fun h69 => ?_) (fun h69 => ?_)) | ((with_reducible refine mk_ms ?_); refine s_icmp_eq (tgt := 102) dX11_spanToMove_69 (by decide) (by omega) (fun h69 => ?_) (fun h69 => ?_)) | ((with_reducible refine mk_mn ?_); refine q_icmp_eq (tgt := 102) dX11_spanToMove_69 (by decide) (by omega) (fun h69 => ?_) (fun h69 => ?_)) | ((with_reducible refine mk_nn ?_); refine n_icmp_eq (tgt := 102) dX11_spanToMove_69 (by decide) (by omega) (by omega) (fun h69 => ?_) (fun h69 => ?_)) | refine e_icmp_eq (tgt := 102) dX11_spanToMove_69 (by decide) (fun h69 => ?_) (fun h69 => ?_)
                            · try first | contradiction | omega
                              all_goals
                                refine e_iload dX11_spanToMove_102 rfl ?_
                                refine e_istore dX11_spanToMove_104 (Nat.le_of_ble_eq_true rfl) rfl ?_
                                first | refine n_inc dX11_spanToMove_106 rfl (Nat.le_of_ble_eq_true rfl) rfl ?_ | refine e_iinc dX11_spanToMove_106 rfl rfl (Nat.le_of_ble_eq_true rfl) rfl ?_
                                refine e_goto (tgt := 6) dX11_spanToMove_109 (by decide) ?_
                                first | (rw [bst_f (c := fun i => decide (w (42 + i) = h) && (mvL w (w (10 + i))).isNone && decide (wtF w i ≠ 0) && decide (wtF w i < e)) (b := fun i q => decide (dst e (2 * wtF w i) < dst e (2 * wtF w q))) (n := j) (by grind), hb] at ih; first | exact ih | exact EV_ls (by repeat (first | exact lsub_0 | refine lsub_n ?_ | refine lsub_s ?_)) ih) | (rw [bst_0 (c := fun i => decide (w (42 + i) = h) && (mvL w (w (10 + i))).isNone && decide (wtF w i ≠ 0) && decide (wtF w i < e)) (b := fun i q => decide (dst e (2 * wtF w i) < dst e (2 * wtF w q))) (n := j) (by grind) hb] at ih; first | exact ih | exact EV_ls (by repeat (first | exact lsub_0 | refine lsub_n ?_ | refine lsub_s ?_)) ih)
                            · try first | contradiction | omega
                              all_goals
                                refine e_lload_n dX11_spanToMove_72 rfl rfl ?_
                                refine e_ldc2 dX11_spanToMove_73 co_X11_77 ?_
                                refine e_lload dX11_spanToMove_76 rfl ?_
                                first | ((with_reducible refine mk_LL ?_); refine n_lmul dX11_spanToMove_78 ?_) | refine e_lmul dX11_spanToMove_78 ?_
                                first | ((with_reducible refine mk_LL ?_); refine n_lsub dX11_spanToMove_79 (by omega) ?_) | refine e_lsub dX11_spanToMove_79 ?_
                                refine x_S1 (M' := mX11_size) dX11_spanToMove_80 ml_X11_361 ok_X11_size rfl sc_X11_size (ct_sizeN (by omega) (by omega)) (Nat.le_of_ble_eq_true rfl) (by decide) (Nat.le_of_ble_eq_true rfl) ?_
                                refine e_lload_n dX11_spanToMove_83 rfl rfl ?_
                                refine e_ldc2 dX11_spanToMove_84 co_X11_77 ?_
                                refine e_aload_n dX11_spanToMove_87 rfl rfl ?_
                                refine e_iload dX11_spanToMove_88 rfl ?_
                                refine x_V1 (M' := mX11_weightOf) dX11_spanToMove_90 ml_X11_73 ok_X11_weightOf (by decide) rfl im_X11_weightOf se_X11_weightOf (ct_X11_weightOf ‹_› ‹_› (by omega)) (Nat.le_of_ble_eq_true rfl) (by decide) (Nat.le_of_ble_eq_true rfl) ?_
                                first | ((with_reducible refine mk_LL ?_); refine n_lmul dX11_spanToMove_93 ?_) | refine e_lmul dX11_spanToMove_93 ?_
                                first | ((with_reducible refine mk_LL ?_); refine n_lsub dX11_spanToMove_94 (by omega) ?_) | refine e_lsub dX11_spanToMove_94 ?_
                                refine x_S1 (M' := mX11_size) dX11_spanToMove_95 ml_X11_361 ok_X11_size rfl sc_X11_size (ct_sizeN (by omega) (by omega)) (Nat.le_of_ble_eq_true rfl) (by decide) (Nat.le_of_ble_eq_true rfl) ?_
                                refine e_lcmp dX11_spanToMove_98 ?_
                                first | ((with_reducible refine mk_ll ?_); refine m_if_ge (tgt := 106) dX11_spanToMove_99 (by decide) (by omega) (by omega) (fun h99 => ?_) (fun h99 => ?_)) | ((with_reducible refine mk_lc ?_); refine l_if_ge (tgt := 106) dX11_spanToMove_99 (by decide) (fun h99 => ?_) (fun h99 => ?_)) | ((with_reducible refine mk_n ?_); refine n_if_ge (tgt := 106) dX11_spanToMove_99 (by decide) (by omega) (fun h99 => ?_) (fun h99 => ?_)) | refine e_if_ge (tgt := 106) dX11_spanToMove_99 (by decide) (fun h99 => ?_) (fun h99 => ?_)
                                · try first | contradiction | omega
                                  all_goals
                                    first | refine n_inc dX11_spanToMove_106 rfl (Nat.le_of_ble_eq_true rfl) rfl ?_ | refine e_iinc dX11_spanToMove_106 rfl rfl (Nat.le_of_ble_eq_true rfl) rfl ?_
                                    refine e_goto (tgt := 6) dX11_spanToMove_109 (by decide) ?_
                                    first | (rw [bst_f (c := fun i => decide (w (42 + i) = h) && (mvL w (w (10 + i))).isNone && decide (wtF w i ≠ 0) && decide (wtF w i < e)) (b := fun i q => decide (dst e (2 * wtF w i) < dst e (2 * wtF w q))) (n := j) (by grind), hb] at ih; first | exact ih | exact EV_ls (by repeat (first | exact lsub_0 | refine lsub_n ?_ | refine lsub_s ?_)) ih) | (rw [bst_0 (c := fun i => decide (w (42 + i) = h) && (mvL w (w (10 + i))).isNone && decide (wtF w i ≠ 0) && decide (wtF w i < e)) (b := fun i q => decide (dst e (2 * wtF w i) < dst e (2 * wtF w q))) (n := j) (by grind) hb] at ih; first | exact ih | exact EV_ls (by repeat (first | exact lsub_0 | refine lsub_n ?_ | refine lsub_s ?_)) ih)
                                · try first | contradiction | omega
                                  all_goals
                                    refine e_iload dX11_spanToMove_102 rfl ?_
                                    refine e_istore dX11_spanToMove_104 (Nat.le_of_ble_eq_true rfl) rfl ?_
                                    first | refine n_inc dX11_spanToMove_106 rfl (Nat.le_of_ble_eq_true rfl) rfl ?_ | refine e_iinc dX11_spanToMove_106 rfl rfl (Nat.le_of_ble_eq_true rfl) rfl ?_
                                    refine e_goto (tgt := 6) dX11_spanToMove_109 (by decide) ?_
                                    first | (rw [bst_f (c := fun i => decide (w (42 + i) = h) && (mvL w (w (10 + i))).isNone && decide (wtF w i ≠ 0) && decide (wtF w i < e)) (b := fun i q => decide (dst e (2 * wtF w i) < dst e (2 * wtF w q))) (n := j) (by grind), hb] at ih; first | exact ih | exact EV_ls (by repeat (first | exact lsub_0 | refine lsub_n ?_ | refine lsub_s ?_)) ih) | (rw [bst_0 (c := fun i => decide (w (42 + i) = h) && (mvL w (w (10 + i))).isNone && decide (wtF w i ≠ 0) && decide (wtF w i < e)) (b := fun i q => decide (dst e (2 * wtF w i) < dst e (2 * wtF w q))) (n := j) (by grind) hb] at ih; first | exact ih | exact EV_ls (by repeat (first | exact lsub_0 | refine lsub_n ?_ | refine lsub_s ?_)) ih)
                        · try first | contradiction | omega
                          all_goals
                            refine e_goto (tgt := 106) dX11_spanToMove_63 (by decide) ?_
                            first | refine n_inc dX11_spanToMove_106 rfl (Nat.le_of_ble_eq_true rfl) rfl ?_ | refine e_iinc dX11_spanToMove_106 rfl rfl (Nat.le_of_ble_eq_true rfl) rfl ?_
                            refine e_goto (tgt := 6) dX11_spanToMove_109 (by decide) ?_
                            first | (rw [bst_f (c := fun i => decide (w (42 + i) = h) && (mvL w (w (10 + i))).isNone && decide (wtF w i ≠ 0) && decide (wtF w i < e)) (b := fun i q => decide (dst e (2 * wtF w i) < dst e (2 * wtF w q))) (n := j) (by grind), hb] at ih; first | exact ih | exact EV_ls (by repeat (first | exact lsub_0 | refine lsub_n ?_ | refine lsub_s ?_)) ih) | (rw [bst_0 (c := fun i => decide (w (42 + i) = h) && (mvL w (w (10 + i))).isNone && decide (wtF w i ≠ 0) && decide (wtF w i < e)) (b := fun i q => decide (dst e (2 * wtF w i) < dst e (2 * wtF w q))) (n := j) (by grind) hb] at ih; first | exact ih | exact EV_ls (by repeat (first | exact lsub_0 | refine lsub_n ?_ | refine lsub_s ?_)) ih)
      | some q =>
        have hq := (bst_in hb).1
        have hqc := (bst_in hb).2
        rw [oI_s]
        have hw2 := wtF_le iv (i := q) (by omega)
        have hd1 : dst e (2 * wtF w j) < 4000000001 := by unfold dst; split <;> omega
        have hd2 : dst e (2 * wtF w q) < 4000000001 := by unfold dst; split <;> omega
        refine e_iload dX11_spanToMove_6 rfl ?_
        refine e_aload_n dX11_spanToMove_8 rfl rfl ?_
        refine e_getR dX11_spanToMove_9 fl_X11_7 rfl (by assumption) ?_
        refine e_iconst (v := nI 1) dX11_spanToMove_12 rfl ?_
        first | ((with_reducible refine mk_ldw ?_); refine e_ldw dX11_spanToMove_13 (by omega) ?_) | refine e_iald _ dX11_spanToMove_13 ⟨by decide, by decide⟩ rfl rfl (by simp only [lenK]; omega) ?_
        first | ((with_reducible refine mk_nn ?_); refine n_icmp_ge (tgt := 112) dX11_spanToMove_14 (by decide) (by omega) (by omega) (fun h14 => ?_) (fun h14 => ?_)) | refine e_icmp_ge (tgt := 112) dX11_spanToMove_14 (by decide) (fun h14 => ?_) (fun h14 => ?_)
        · try first | contradiction | omega
          all_goals
            refine e_iload_n dX11_spanToMove_112 rfl rfl ?_
            refine e_iload_n dX11_spanToMove_113 rfl rfl ?_
            first | ((with_reducible refine mk_mo ?_); refine p_icmp_ne (tgt := 121) dX11_spanToMove_114 (by decide) (fun h114 => ?_) (fun h114 => ?_)) | ((with_reducible refine mk_ms ?_); refine s_icmp_ne (tgt := 121) dX11_spanToMove_114 (by decide) (by omega) (fun h114 => ?_) (fun h114 => ?_)) | ((with_reducible refine mk_mn ?_); refine q_icmp_ne (tgt := 121) dX11_spanToMove_114 (by decide) (by omega) (fun h114 => ?_) (fun h114 => ?_)) | ((with_reducible refine mk_nn ?_); refine n_icmp_ne (tgt := 121) dX11_spanToMove_114 (by decide) (by omega) (by omega) (fun h114 => ?_) (fun h114 => ?_)) | refine e_icmp_ne (tgt := 121) dX11_spanToMove_114 (by decide) (fun h114 => ?_) (fun h114 => ?_)
            · try first | contradiction | omega
              all_goals
                refine e_iload dX11_spanToMove_121 rfl ?_
                refine e_ret (some _) rfl (r_int dX11_spanToMove_123 rfl) ?_
                exact xq (by first | rfl | simp_all [bI_t, bI_f]) rfl rfl rfl rfl rfl
            · try first | contradiction | omega
              all_goals
                refine e_iconst (v := -1) dX11_spanToMove_117 rfl ?_
                refine e_goto (tgt := 123) dX11_spanToMove_118 (by decide) ?_
                refine e_ret (some _) rfl (r_int dX11_spanToMove_123 rfl) ?_
                exact xq (by first | rfl | simp_all [bI_t, bI_f]) rfl rfl rfl rfl rfl
        · try first | contradiction | omega
          all_goals
            refine e_aload_n dX11_spanToMove_17 rfl rfl ?_
            refine e_iload dX11_spanToMove_18 rfl ?_
            refine x_V1 (M' := mX11_weightOf) dX11_spanToMove_20 ml_X11_73 ok_X11_weightOf (by decide) rfl im_X11_weightOf se_X11_weightOf (ct_X11_weightOf ‹_› ‹_› (by omega)) (Nat.le_of_ble_eq_true rfl) (by decide) (Nat.le_of_ble_eq_true rfl) ?_
            refine e_lstore dX11_spanToMove_23 (Nat.le_of_ble_eq_true rfl) rfl ?_
            refine e_aload_n dX11_spanToMove_25 rfl rfl ?_
            refine e_getR dX11_spanToMove_26 fl_X11_7 rfl (by assumption) ?_
            refine e_bipush (v := nI 42) dX11_spanToMove_29 rfl ?_
            refine e_iload dX11_spanToMove_31 rfl ?_
            first | ((with_reducible refine mk_nn ?_); refine n_iadd dX11_spanToMove_33 ?_) | refine e_iadd dX11_spanToMove_33 ?_
            first | ((with_reducible refine mk_ldw ?_); refine e_ldw dX11_spanToMove_34 (by omega) ?_) | refine e_iald _ dX11_spanToMove_34 ⟨by decide, by decide⟩ rfl rfl (by simp only [lenK]; omega) ?_
            refine e_iload_n dX11_spanToMove_35 rfl rfl ?_
            first | ((with_reducible refine mk_mo ?_); refine p_icmp_ne (tgt := 106) dX11_spanToMove_36 (by decide) (fun h36 => ?_) (fun h36 => ?_)) | ((with_reducible refine mk_ms ?_); refine s_icmp_ne (tgt := 106) dX11_spanToMove_36 (by decide) (by omega) (fun h36 => ?_) (fun h36 => ?_)) | ((with_reducible refine mk_mn ?_); refine q_icmp_ne (tgt := 106) dX11_spanToMove_36 (by decide) (by omega) (fun h36 => ?_) (fun h36 => ?_)) | ((with_reducible refine mk_nn ?_); refine n_icmp_ne (tgt := 106) dX11_spanToMove_36 (by decide) (by omega) (by omega) (fun h36 => ?_) (fun h36 => ?_)) | refine e_icmp_ne (tgt := 106) dX11_spanToMove_36 (by decide) (fun h36 => ?_) (fun h36 => ?_)
            · try first | contradiction | omega
              all_goals
                first | refine n_inc dX11_spanToMove_106 rfl (Nat.le_of_ble_eq_true rfl) rfl ?_ | refine e_iinc dX11_spanToMove_106 rfl rfl (Nat.le_of_ble_eq_true rfl) rfl ?_
                refine e_goto (tgt := 6) dX11_spanToMove_109 (by decide) ?_
                first | (rw [bst_f (c := fun i => decide (w (42 + i) = h) && (mvL w (w (10 + i))).isNone && decide (wtF w i ≠ 0) && decide (wtF w i < e)) (b := fun i q => decide (dst e (2 * wtF w i) < dst e (2 * wtF w q))) (n := j) (by grind), hb] at ih; first | exact ih | exact EV_ls (by repeat (first | exact lsub_0 | refine lsub_n ?_ | refine lsub_s ?_)) ih) | (rw [bst_0 (c := fun i => decide (w (42 + i) = h) && (mvL w (w (10 + i))).isNone && decide (wtF w i ≠ 0) && decide (wtF w i < e)) (b := fun i q => decide (dst e (2 * wtF w i) < dst e (2 * wtF w q))) (n := j) (by grind) hb] at ih; first | exact ih | exact EV_ls (by repeat (first | exact lsub_0 | refine lsub_n ?_ | refine lsub_s ?_)) ih) | (rw [bst_1 (c := fun i => decide (w (42 + i) = h) && (mvL w (w (10 + i))).isNone && decide (wtF w i ≠ 0) && decide (wtF w i < e)) (b := fun i q => decide (dst e (2 * wtF w i) < dst e (2 * wtF w q))) (n := j) (by grind) hb (by grind)] at ih; first | exact ih | exact EV_ls (by repeat (first | exact lsub_0 | refine lsub_n ?_ | refine lsub_s ?_)) ih) | (rw [bst_2 (c := fun i => decide (w (42 + i) = h) && (mvL w (w (10 + i))).isNone && decide (wtF w i ≠ 0) && decide (wtF w i < e)) (b := fun i q => decide (dst e (2 * wtF w i) < dst e (2 * wtF w q))) (n := j) (by grind) hb (by grind)] at ih; first | exact ih | exact EV_ls (by repeat (first | exact lsub_0 | refine lsub_n ?_ | refine lsub_s ?_)) ih)
            · try first | contradiction | omega
              all_goals
                refine e_aload_n dX11_spanToMove_39 rfl rfl ?_
                refine e_iload dX11_spanToMove_40 rfl ?_
                refine x_V1 (M' := mX11_moveOfSpan) dX11_spanToMove_42 ml_X11_79 ok_X11_moveOfSpan (by decide) rfl im_X11_moveOfSpan se_X11_moveOfSpan (ct_X11_moveOfSpan ‹_› ‹_› (by omega)) (Nat.le_of_ble_eq_true rfl) (by decide) (Nat.le_of_ble_eq_true rfl) ?_
                rw [hmv]
                refine e_iconst (v := -1) dX11_spanToMove_45 rfl ?_
                first | ((with_reducible refine mk_mo ?_); refine p_icmp_ne (tgt := 106) dX11_spanToMove_46 (by decide) (fun h46 => ?_) (fun h46 => ?_)) | ((with_reducible refine mk_ms ?_); refine s_icmp_ne (tgt := 106) dX11_spanToMove_46 (by decide) (by omega) (fun h46 => ?_) (fun h46 => ?_)) | ((with_reducible refine mk_mn ?_); refine q_icmp_ne (tgt := 106) dX11_spanToMove_46 (by decide) (by omega) (fun h46 => ?_) (fun h46 => ?_)) | ((with_reducible refine mk_nn ?_); refine n_icmp_ne (tgt := 106) dX11_spanToMove_46 (by decide) (by omega) (by omega) (fun h46 => ?_) (fun h46 => ?_)) | refine e_icmp_ne (tgt := 106) dX11_spanToMove_46 (by decide) (fun h46 => ?_) (fun h46 => ?_)
                · try first | contradiction | omega
                  all_goals
                    first | refine n_inc dX11_spanToMove_106 rfl (Nat.le_of_ble_eq_true rfl) rfl ?_ | refine e_iinc dX11_spanToMove_106 rfl rfl (Nat.le_of_ble_eq_true rfl) rfl ?_
                    refine e_goto (tgt := 6) dX11_spanToMove_109 (by decide) ?_
                    first | (rw [bst_f (c := fun i => decide (w (42 + i) = h) && (mvL w (w (10 + i))).isNone && decide (wtF w i ≠ 0) && decide (wtF w i < e)) (b := fun i q => decide (dst e (2 * wtF w i) < dst e (2 * wtF w q))) (n := j) (by grind), hb] at ih; first | exact ih | exact EV_ls (by repeat (first | exact lsub_0 | refine lsub_n ?_ | refine lsub_s ?_)) ih) | (rw [bst_0 (c := fun i => decide (w (42 + i) = h) && (mvL w (w (10 + i))).isNone && decide (wtF w i ≠ 0) && decide (wtF w i < e)) (b := fun i q => decide (dst e (2 * wtF w i) < dst e (2 * wtF w q))) (n := j) (by grind) hb] at ih; first | exact ih | exact EV_ls (by repeat (first | exact lsub_0 | refine lsub_n ?_ | refine lsub_s ?_)) ih) | (rw [bst_1 (c := fun i => decide (w (42 + i) = h) && (mvL w (w (10 + i))).isNone && decide (wtF w i ≠ 0) && decide (wtF w i < e)) (b := fun i q => decide (dst e (2 * wtF w i) < dst e (2 * wtF w q))) (n := j) (by grind) hb (by grind)] at ih; first | exact ih | exact EV_ls (by repeat (first | exact lsub_0 | refine lsub_n ?_ | refine lsub_s ?_)) ih) | (rw [bst_2 (c := fun i => decide (w (42 + i) = h) && (mvL w (w (10 + i))).isNone && decide (wtF w i ≠ 0) && decide (wtF w i < e)) (b := fun i q => decide (dst e (2 * wtF w i) < dst e (2 * wtF w q))) (n := j) (by grind) hb (by grind)] at ih; first | exact ih | exact EV_ls (by repeat (first | exact lsub_0 | refine lsub_n ?_ | refine lsub_s ?_)) ih)
                · try first | contradiction | omega
                  all_goals
                    refine e_lload dX11_spanToMove_49 rfl ?_
                    refine e_lconst (v := lN 0) dX11_spanToMove_51 rfl ?_
                    refine e_lcmp dX11_spanToMove_52 ?_
                    first | ((with_reducible refine mk_b ?_); refine b_if_eq (tgt := 106) dX11_spanToMove_53 (by decide) (fun h53 => ?_) (fun h53 => ?_)) | ((with_reducible refine mk_ll ?_); refine m_if_eq (tgt := 106) dX11_spanToMove_53 (by decide) (by omega) (by omega) (fun h53 => ?_) (fun h53 => ?_)) | ((with_reducible refine mk_lc ?_); refine l_if_eq (tgt := 106) dX11_spanToMove_53 (by decide) (fun h53 => ?_) (fun h53 => ?_)) | ((with_reducible refine mk_n ?_); refine n_if_eq (tgt := 106) dX11_spanToMove_53 (by decide) (by omega) (fun h53 => ?_) (fun h53 => ?_)) | refine e_if_eq (tgt := 106) dX11_spanToMove_53 (by decide) (fun h53 => ?_) (fun h53 => ?_)
                    · try first | contradiction | omega
                      all_goals
                        first | refine n_inc dX11_spanToMove_106 rfl (Nat.le_of_ble_eq_true rfl) rfl ?_ | refine e_iinc dX11_spanToMove_106 rfl rfl (Nat.le_of_ble_eq_true rfl) rfl ?_
                        refine e_goto (tgt := 6) dX11_spanToMove_109 (by decide) ?_
                        first | (rw [bst_f (c := fun i => decide (w (42 + i) = h) && (mvL w (w (10 + i))).isNone && decide (wtF w i ≠ 0) && decide (wtF w i < e)) (b := fun i q => decide (dst e (2 * wtF w i) < dst e (2 * wtF w q))) (n := j) (by grind), hb] at ih; first | exact ih | exact EV_ls (by repeat (first | exact lsub_0 | refine lsub_n ?_ | refine lsub_s ?_)) ih) | (rw [bst_0 (c := fun i => decide (w (42 + i) = h) && (mvL w (w (10 + i))).isNone && decide (wtF w i ≠ 0) && decide (wtF w i < e)) (b := fun i q => decide (dst e (2 * wtF w i) < dst e (2 * wtF w q))) (n := j) (by grind) hb] at ih; first | exact ih | exact EV_ls (by repeat (first | exact lsub_0 | refine lsub_n ?_ | refine lsub_s ?_)) ih) | (rw [bst_1 (c := fun i => decide (w (42 + i) = h) && (mvL w (w (10 + i))).isNone && decide (wtF w i ≠ 0) && decide (wtF w i < e)) (b := fun i q => decide (dst e (2 * wtF w i) < dst e (2 * wtF w q))) (n := j) (by grind) hb (by grind)] at ih; first | exact ih | exact EV_ls (by repeat (first | exact lsub_0 | refine lsub_n ?_ | refine lsub_s ?_)) ih) | (rw [bst_2 (c := fun i => decide (w (42 + i) = h) && (mvL w (w (10 + i))).isNone && decide (wtF w i ≠ 0) && decide (wtF w i < e)) (b := fun i q => decide (dst e (2 * wtF w i) < dst e (2 * wtF w q))) (n := j) (by grind) hb (by grind)] at ih; first | exact ih | exact EV_ls (by repeat (first | exact lsub_0 | refine lsub_n ?_ | refine lsub_s ?_)) ih)
                    · try first | contradiction | omega
                      all_goals
                        refine e_lload dX11_spanToMove_56 rfl ?_
                        refine e_lload_n dX11_spanToMove_58 rfl rfl ?_
                        refine e_lcmp dX11_spanToMove_59 ?_
                        first | ((with_reducible refine mk_ll ?_); refine m_if_lt (tgt := 66) dX11_spanToMove_60 (by decide) (by omega) (by omega) (fun h60 => ?_) (fun h60 => ?_)) | ((with_reducible refine mk_lc ?_); refine l_if_lt (tgt := 66) dX11_spanToMove_60 (by decide) (fun h60 => ?_) (fun h60 => ?_)) | ((with_reducible refine mk_n ?_); refine n_if_lt (tgt := 66) dX11_spanToMove_60 (by decide) (by omega) (fun h60 => ?_) (fun h60 => ?_)) | refine e_if_lt (tgt := 66) dX11_spanToMove_60 (by decide) (fun h60 => ?_) (fun h60 => ?_)
                        · try first | contradiction | omega
                          all_goals
                            refine e_iload dX11_spanToMove_66 rfl ?_
                            refine e_iconst (v := -1) dX11_spanToMove_68 rfl ?_
                            first | ((with_reducible refine mk_mo ?_); refine p_icmp_eq (tgt := 102) dX11_spanToMove_69 (by decide) (fun h69 => ?_) (fun h69 => ?_)) | ((with_reducible refine mk_ms ?_); refine s_icmp_eq (tgt := 102) dX11_spanToMove_69 (by decide) (by omega) (fun h69 => ?_) (fun h69 => ?_)) | ((with_reducible refine mk_mn ?_); refine q_icmp_eq (tgt := 102) dX11_spanToMove_69 (by decide) (by omega) (fun h69 => ?_) (fun h69 => ?_)) | ((with_reducible refine mk_nn ?_); refine n_icmp_eq (tgt := 102) dX11_spanToMove_69 (by decide) (by omega) (by omega) (fun h69 => ?_) (fun h69 => ?_)) | refine e_icmp_eq (tgt := 102) dX11_spanToMove_69 (by decide) (fun h69 => ?_) (fun h69 => ?_)
                            · try first | contradiction | omega
                              all_goals
                                refine e_iload dX11_spanToMove_102 rfl ?_
                                refine e_istore dX11_spanToMove_104 (Nat.le_of_ble_eq_true rfl) rfl ?_
                                first | refine n_inc dX11_spanToMove_106 rfl (Nat.le_of_ble_eq_true rfl) rfl ?_ | refine e_iinc dX11_spanToMove_106 rfl rfl (Nat.le_of_ble_eq_true rfl) rfl ?_
                                refine e_goto (tgt := 6) dX11_spanToMove_109 (by decide) ?_
                                first | (rw [bst_f (c := fun i => decide (w (42 + i) = h) && (mvL w (w (10 + i))).isNone && decide (wtF w i ≠ 0) && decide (wtF w i < e)) (b := fun i q => decide (dst e (2 * wtF w i) < dst e (2 * wtF w q))) (n := j) (by grind), hb] at ih; first | exact ih | exact EV_ls (by repeat (first | exact lsub_0 | refine lsub_n ?_ | refine lsub_s ?_)) ih) | (rw [bst_0 (c := fun i => decide (w (42 + i) = h) && (mvL w (w (10 + i))).isNone && decide (wtF w i ≠ 0) && decide (wtF w i < e)) (b := fun i q => decide (dst e (2 * wtF w i) < dst e (2 * wtF w q))) (n := j) (by grind) hb] at ih; first | exact ih | exact EV_ls (by repeat (first | exact lsub_0 | refine lsub_n ?_ | refine lsub_s ?_)) ih) | (rw [bst_1 (c := fun i => decide (w (42 + i) = h) && (mvL w (w (10 + i))).isNone && decide (wtF w i ≠ 0) && decide (wtF w i < e)) (b := fun i q => decide (dst e (2 * wtF w i) < dst e (2 * wtF w q))) (n := j) (by grind) hb (by grind)] at ih; first | exact ih | exact EV_ls (by repeat (first | exact lsub_0 | refine lsub_n ?_ | refine lsub_s ?_)) ih) | (rw [bst_2 (c := fun i => decide (w (42 + i) = h) && (mvL w (w (10 + i))).isNone && decide (wtF w i ≠ 0) && decide (wtF w i < e)) (b := fun i q => decide (dst e (2 * wtF w i) < dst e (2 * wtF w q))) (n := j) (by grind) hb (by grind)] at ih; first | exact ih | exact EV_ls (by repeat (first | exact lsub_0 | refine lsub_n ?_ | refine lsub_s ?_)) ih)
                            · try first | contradiction | omega
                              all_goals
                                refine e_lload_n dX11_spanToMove_72 rfl rfl ?_
                                refine e_ldc2 dX11_spanToMove_73 co_X11_77 ?_
                                refine e_lload dX11_spanToMove_76 rfl ?_
                                first | ((with_reducible refine mk_LL ?_); refine n_lmul dX11_spanToMove_78 ?_) | refine e_lmul dX11_spanToMove_78 ?_
                                first | ((with_reducible refine mk_LL ?_); refine n_lsub dX11_spanToMove_79 (by omega) ?_) | refine e_lsub dX11_spanToMove_79 ?_
                                refine x_S1 (M' := mX11_size) dX11_spanToMove_80 ml_X11_361 ok_X11_size rfl sc_X11_size (ct_sizeN (by omega) (by omega)) (Nat.le_of_ble_eq_true rfl) (by decide) (Nat.le_of_ble_eq_true rfl) ?_
                                refine e_lload_n dX11_spanToMove_83 rfl rfl ?_
                                refine e_ldc2 dX11_spanToMove_84 co_X11_77 ?_
                                refine e_aload_n dX11_spanToMove_87 rfl rfl ?_
                                refine e_iload dX11_spanToMove_88 rfl ?_
                                refine x_V1 (M' := mX11_weightOf) dX11_spanToMove_90 ml_X11_73 ok_X11_weightOf (by decide) rfl im_X11_weightOf se_X11_weightOf (ct_X11_weightOf ‹_› ‹_› (by omega)) (Nat.le_of_ble_eq_true rfl) (by decide) (Nat.le_of_ble_eq_true rfl) ?_
                                first | ((with_reducible refine mk_LL ?_); refine n_lmul dX11_spanToMove_93 ?_) | refine e_lmul dX11_spanToMove_93 ?_
                                first | ((with_reducible refine mk_LL ?_); refine n_lsub dX11_spanToMove_94 (by omega) ?_) | refine e_lsub dX11_spanToMove_94 ?_
                                refine x_S1 (M' := mX11_size) dX11_spanToMove_95 ml_X11_361 ok_X11_size rfl sc_X11_size (ct_sizeN (by omega) (by omega)) (Nat.le_of_ble_eq_true rfl) (by decide) (Nat.le_of_ble_eq_true rfl) ?_
                                refine e_lcmp dX11_spanToMove_98 ?_
                                first | ((with_reducible refine mk_ll ?_); refine m_if_ge (tgt := 106) dX11_spanToMove_99 (by decide) (by omega) (by omega) (fun h99 => ?_) (fun h99 => ?_)) | ((with_reducible refine mk_lc ?_); refine l_if_ge (tgt := 106) dX11_spanToMove_99 (by decide) (fun h99 => ?_) (fun h99 => ?_)) | ((with_reducible refine mk_n ?_); refine n_if_ge (tgt := 106) dX11_spanToMove_99 (by decide) (by omega) (fun h99 => ?_) (fun h99 => ?_)) | refine e_if_ge (tgt := 106) dX11_spanToMove_99 (by decide) (fun h99 => ?_) (fun h99 => ?_)
                                · try first | contradiction | omega
                                  all_goals
                                    first | refine n_inc dX11_spanToMove_106 rfl (Nat.le_of_ble_eq_true rfl) rfl ?_ | refine e_iinc dX11_spanToMove_106 rfl rfl (Nat.le_of_ble_eq_true rfl) rfl ?_
                                    refine e_goto (tgt := 6) dX11_spanToMove_109 (by decide) ?_
                                    first | (rw [bst_f (c := fun i => decide (w (42 + i) = h) && (mvL w (w (10 + i))).isNone && decide (wtF w i ≠ 0) && decide (wtF w i < e)) (b := fun i q => decide (dst e (2 * wtF w i) < dst e (2 * wtF w q))) (n := j) (by grind), hb] at ih; first | exact ih | exact EV_ls (by repeat (first | exact lsub_0 | refine lsub_n ?_ | refine lsub_s ?_)) ih) | (rw [bst_0 (c := fun i => decide (w (42 + i) = h) && (mvL w (w (10 + i))).isNone && decide (wtF w i ≠ 0) && decide (wtF w i < e)) (b := fun i q => decide (dst e (2 * wtF w i) < dst e (2 * wtF w q))) (n := j) (by grind) hb] at ih; first | exact ih | exact EV_ls (by repeat (first | exact lsub_0 | refine lsub_n ?_ | refine lsub_s ?_)) ih) | (rw [bst_1 (c := fun i => decide (w (42 + i) = h) && (mvL w (w (10 + i))).isNone && decide (wtF w i ≠ 0) && decide (wtF w i < e)) (b := fun i q => decide (dst e (2 * wtF w i) < dst e (2 * wtF w q))) (n := j) (by grind) hb (by grind)] at ih; first | exact ih | exact EV_ls (by repeat (first | exact lsub_0 | refine lsub_n ?_ | refine lsub_s ?_)) ih) | (rw [bst_2 (c := fun i => decide (w (42 + i) = h) && (mvL w (w (10 + i))).isNone && decide (wtF w i ≠ 0) && decide (wtF w i < e)) (b := fun i q => decide (dst e (2 * wtF w i) < dst e (2 * wtF w q))) (n := j) (by grind) hb (by grind)] at ih; first | exact ih | exact EV_ls (by repeat (first | exact lsub_0 | refine lsub_n ?_ | refine lsub_s ?_)) ih)
                                · try first | contradiction | omega
                                  all_goals
                                    refine e_iload dX11_spanToMove_102 rfl ?_
                                    refine e_istore dX11_spanToMove_104 (Nat.le_of_ble_eq_true rfl) rfl ?_
                                    first | refine n_inc dX11_spanToMove_106 rfl (Nat.le_of_ble_eq_true rfl) rfl ?_ | refine e_iinc dX11_spanToMove_106 rfl rfl (Nat.le_of_ble_eq_true rfl) rfl ?_
                                    refine e_goto (tgt := 6) dX11_spanToMove_109 (by decide) ?_
                                    first | (rw [bst_f (c := fun i => decide (w (42 + i) = h) && (mvL w (w (10 + i))).isNone && decide (wtF w i ≠ 0) && decide (wtF w i < e)) (b := fun i q => decide (dst e (2 * wtF w i) < dst e (2 * wtF w q))) (n := j) (by grind), hb] at ih; first | exact ih | exact EV_ls (by repeat (first | exact lsub_0 | refine lsub_n ?_ | refine lsub_s ?_)) ih) | (rw [bst_0 (c := fun i => decide (w (42 + i) = h) && (mvL w (w (10 + i))).isNone && decide (wtF w i ≠ 0) && decide (wtF w i < e)) (b := fun i q => decide (dst e (2 * wtF w i) < dst e (2 * wtF w q))) (n := j) (by grind) hb] at ih; first | exact ih | exact EV_ls (by repeat (first | exact lsub_0 | refine lsub_n ?_ | refine lsub_s ?_)) ih) | (rw [bst_1 (c := fun i => decide (w (42 + i) = h) && (mvL w (w (10 + i))).isNone && decide (wtF w i ≠ 0) && decide (wtF w i < e)) (b := fun i q => decide (dst e (2 * wtF w i) < dst e (2 * wtF w q))) (n := j) (by grind) hb (by grind)] at ih; first | exact ih | exact EV_ls (by repeat (first | exact lsub_0 | refine lsub_n ?_ | refine lsub_s ?_)) ih) | (rw [bst_2 (c := fun i => decide (w (42 + i) = h) && (mvL w (w (10 + i))).isNone && decide (wtF w i ≠ 0) && decide (wtF w i < e)) (b := fun i q => decide (dst e (2 * wtF w i) < dst e (2 * wtF w q))) (n := j) (by grind) hb (by grind)] at ih; first | exact ih | exact EV_ls (by repeat (first | exact lsub_0 | refine lsub_n ?_ | refine lsub_s ?_)) ih)
                        · try first | contradiction | omega
                          all_goals
                            refine e_goto (tgt := 106) dX11_spanToMove_63 (by decide) ?_
                            first | refine n_inc dX11_spanToMove_106 rfl (Nat.le_of_ble_eq_true rfl) rfl ?_ | refine e_iinc dX11_spanToMove_106 rfl rfl (Nat.le_of_ble_eq_true rfl) rfl ?_
                            refine e_goto (tgt := 6) dX11_spanToMove_109 (by decide) ?_
                            first | (rw [bst_f (c := fun i => decide (w (42 + i) = h) && (mvL w (w (10 + i))).isNone && decide (wtF w i ≠ 0) && decide (wtF w i < e)) (b := fun i q => decide (dst e (2 * wtF w i) < dst e (2 * wtF w q))) (n := j) (by grind), hb] at ih; first | exact ih | exact EV_ls (by repeat (first | exact lsub_0 | refine lsub_n ?_ | refine lsub_s ?_)) ih) | (rw [bst_0 (c := fun i => decide (w (42 + i) = h) && (mvL w (w (10 + i))).isNone && decide (wtF w i ≠ 0) && decide (wtF w i < e)) (b := fun i q => decide (dst e (2 * wtF w i) < dst e (2 * wtF w q))) (n := j) (by grind) hb] at ih; first | exact ih | exact EV_ls (by repeat (first | exact lsub_0 | refine lsub_n ?_ | refine lsub_s ?_)) ih) | (rw [bst_1 (c := fun i => decide (w (42 + i) = h) && (mvL w (w (10 + i))).isNone && decide (wtF w i ≠ 0) && decide (wtF w i < e)) (b := fun i q => decide (dst e (2 * wtF w i) < dst e (2 * wtF w q))) (n := j) (by grind) hb (by grind)] at ih; first | exact ih | exact EV_ls (by repeat (first | exact lsub_0 | refine lsub_n ?_ | refine lsub_s ?_)) ih) | (rw [bst_2 (c := fun i => decide (w (42 + i) = h) && (mvL w (w (10 + i))).isNone && decide (wtF w i ≠ 0) && decide (wtF w i < e)) (b := fun i q => decide (dst e (2 * wtF w i) < dst e (2 * wtF w q))) (n := j) (by grind) hb (by grind)] at ih; first | exact ih | exact EV_ls (by repeat (first | exact lsub_0 | refine lsub_n ?_ | refine lsub_s ?_)) ih)
    | some mm =>
      have hmm := mvL_lt hmv
      cases hb : bst (fun i => decide (w (42 + i) = h) && (mvL w (w (10 + i))).isNone && decide (wtF w i ≠ 0) && decide (wtF w i < e)) (fun i q => decide (dst e (2 * wtF w i) < dst e (2 * wtF w q))) j with
      | none =>
        refine e_iload dX11_spanToMove_6 rfl ?_
        refine e_aload_n dX11_spanToMove_8 rfl rfl ?_
        refine e_getR dX11_spanToMove_9 fl_X11_7 rfl (by assumption) ?_
        refine e_iconst (v := nI 1) dX11_spanToMove_12 rfl ?_
        first | ((with_reducible refine mk_ldw ?_); refine e_ldw dX11_spanToMove_13 (by omega) ?_) | refine e_iald _ dX11_spanToMove_13 ⟨by decide, by decide⟩ rfl rfl (by simp only [lenK]; omega) ?_
        first | ((with_reducible refine mk_nn ?_); refine n_icmp_ge (tgt := 112) dX11_spanToMove_14 (by decide) (by omega) (by omega) (fun h14 => ?_) (fun h14 => ?_)) | refine e_icmp_ge (tgt := 112) dX11_spanToMove_14 (by decide) (fun h14 => ?_) (fun h14 => ?_)
        · try first | contradiction | omega
          all_goals
            refine e_iload_n dX11_spanToMove_112 rfl rfl ?_
            refine e_iload_n dX11_spanToMove_113 rfl rfl ?_
            first | ((with_reducible refine mk_mo ?_); refine p_icmp_ne (tgt := 121) dX11_spanToMove_114 (by decide) (fun h114 => ?_) (fun h114 => ?_)) | ((with_reducible refine mk_ms ?_); refine s_icmp_ne (tgt := 121) dX11_spanToMove_114 (by decide) (by omega) (fun h114 => ?_) (fun h114 => ?_)) | ((with_reducible refine mk_mn ?_); refine q_icmp_ne (tgt := 121) dX11_spanToMove_114 (by decide) (by omega) (fun h114 => ?_) (fun h114 => ?_)) | ((with_reducible refine mk_nn ?_); refine n_icmp_ne (tgt := 121) dX11_spanToMove_114 (by decide) (by omega) (by omega) (fun h114 => ?_) (fun h114 => ?_)) | refine e_icmp_ne (tgt := 121) dX11_spanToMove_114 (by decide) (fun h114 => ?_) (fun h114 => ?_)
            · try first | contradiction | omega
              all_goals
                refine e_iload dX11_spanToMove_121 rfl ?_
                refine e_ret (some _) rfl (r_int dX11_spanToMove_123 rfl) ?_
                exact xq (by first | rfl | simp_all [bI_t, bI_f]) rfl rfl rfl rfl rfl
            · try first | contradiction | omega
              all_goals
                refine e_iconst (v := -1) dX11_spanToMove_117 rfl ?_
                refine e_goto (tgt := 123) dX11_spanToMove_118 (by decide) ?_
                refine e_ret (some _) rfl (r_int dX11_spanToMove_123 rfl) ?_
                exact xq (by first | rfl | simp_all [bI_t, bI_f]) rfl rfl rfl rfl rfl
        · try first | contradiction | omega
          all_goals
            refine e_aload_n dX11_spanToMove_17 rfl rfl ?_
            refine e_iload dX11_spanToMove_18 rfl ?_
            refine x_V1 (M' := mX11_weightOf) dX11_spanToMove_20 ml_X11_73 ok_X11_weightOf (by decide) rfl im_X11_weightOf se_X11_weightOf (ct_X11_weightOf ‹_› ‹_› (by omega)) (Nat.le_of_ble_eq_true rfl) (by decide) (Nat.le_of_ble_eq_true rfl) ?_
            refine e_lstore dX11_spanToMove_23 (Nat.le_of_ble_eq_true rfl) rfl ?_
            refine e_aload_n dX11_spanToMove_25 rfl rfl ?_
            refine e_getR dX11_spanToMove_26 fl_X11_7 rfl (by assumption) ?_
            refine e_bipush (v := nI 42) dX11_spanToMove_29 rfl ?_
            refine e_iload dX11_spanToMove_31 rfl ?_
            first | ((with_reducible refine mk_nn ?_); refine n_iadd dX11_spanToMove_33 ?_) | refine e_iadd dX11_spanToMove_33 ?_
            first | ((with_reducible refine mk_ldw ?_); refine e_ldw dX11_spanToMove_34 (by omega) ?_) | refine e_iald _ dX11_spanToMove_34 ⟨by decide, by decide⟩ rfl rfl (by simp only [lenK]; omega) ?_
            refine e_iload_n dX11_spanToMove_35 rfl rfl ?_
            first | ((with_reducible refine mk_mo ?_); refine p_icmp_ne (tgt := 106) dX11_spanToMove_36 (by decide) (fun h36 => ?_) (fun h36 => ?_)) | ((with_reducible refine mk_ms ?_); refine s_icmp_ne (tgt := 106) dX11_spanToMove_36 (by decide) (by omega) (fun h36 => ?_) (fun h36 => ?_)) | ((with_reducible refine mk_mn ?_); refine q_icmp_ne (tgt := 106) dX11_spanToMove_36 (by decide) (by omega) (fun h36 => ?_) (fun h36 => ?_)) | ((with_reducible refine mk_nn ?_); refine n_icmp_ne (tgt := 106) dX11_spanToMove_36 (by decide) (by omega) (by omega) (fun h36 => ?_) (fun h36 => ?_)) | refine e_icmp_ne (tgt := 106) dX11_spanToMove_36 (by decide) (fun h36 => ?_) (fun h36 => ?_)
            · try first | contradiction | omega
              all_goals
                first | refine n_inc dX11_spanToMove_106 rfl (Nat.le_of_ble_eq_true rfl) rfl ?_ | refine e_iinc dX11_spanToMove_106 rfl rfl (Nat.le_of_ble_eq_true rfl) rfl ?_
                refine e_goto (tgt := 6) dX11_spanToMove_109 (by decide) ?_
                first | (rw [bst_f (c := fun i => decide (w (42 + i) = h) && (mvL w (w (10 + i))).isNone && decide (wtF w i ≠ 0) && decide (wtF w i < e)) (b := fun i q => decide (dst e (2 * wtF w i) < dst e (2 * wtF w q))) (n := j) (by grind), hb] at ih; first | exact ih | exact EV_ls (by repeat (first | exact lsub_0 | refine lsub_n ?_ | refine lsub_s ?_)) ih) | (rw [bst_0 (c := fun i => decide (w (42 + i) = h) && (mvL w (w (10 + i))).isNone && decide (wtF w i ≠ 0) && decide (wtF w i < e)) (b := fun i q => decide (dst e (2 * wtF w i) < dst e (2 * wtF w q))) (n := j) (by grind) hb] at ih; first | exact ih | exact EV_ls (by repeat (first | exact lsub_0 | refine lsub_n ?_ | refine lsub_s ?_)) ih)
            · try first | contradiction | omega
              all_goals
                refine e_aload_n dX11_spanToMove_39 rfl rfl ?_
                refine e_iload dX11_spanToMove_40 rfl ?_
                refine x_V1 (M' := mX11_moveOfSpan) dX11_spanToMove_42 ml_X11_79 ok_X11_moveOfSpan (by decide) rfl im_X11_moveOfSpan se_X11_moveOfSpan (ct_X11_moveOfSpan ‹_› ‹_› (by omega)) (Nat.le_of_ble_eq_true rfl) (by decide) (Nat.le_of_ble_eq_true rfl) ?_
                rw [hmv]
                refine e_iconst (v := -1) dX11_spanToMove_45 rfl ?_
                first | ((with_reducible refine mk_mo ?_); refine p_icmp_ne (tgt := 106) dX11_spanToMove_46 (by decide) (fun h46 => ?_) (fun h46 => ?_)) | ((with_reducible refine mk_ms ?_); refine s_icmp_ne (tgt := 106) dX11_spanToMove_46 (by decide) (by omega) (fun h46 => ?_) (fun h46 => ?_)) | ((with_reducible refine mk_mn ?_); refine q_icmp_ne (tgt := 106) dX11_spanToMove_46 (by decide) (by omega) (fun h46 => ?_) (fun h46 => ?_)) | ((with_reducible refine mk_nn ?_); refine n_icmp_ne (tgt := 106) dX11_spanToMove_46 (by decide) (by omega) (by omega) (fun h46 => ?_) (fun h46 => ?_)) | refine e_icmp_ne (tgt := 106) dX11_spanToMove_46 (by decide) (fun h46 => ?_) (fun h46 => ?_)
                · try first | contradiction | omega
                  all_goals
                    first | refine n_inc dX11_spanToMove_106 rfl (Nat.le_of_ble_eq_true rfl) rfl ?_ | refine e_iinc dX11_spanToMove_106 rfl rfl (Nat.le_of_ble_eq_true rfl) rfl ?_
                    refine e_goto (tgt := 6) dX11_spanToMove_109 (by decide) ?_
                    first | (rw [bst_f (c := fun i => decide (w (42 + i) = h) && (mvL w (w (10 + i))).isNone && decide (wtF w i ≠ 0) && decide (wtF w i < e)) (b := fun i q => decide (dst e (2 * wtF w i) < dst e (2 * wtF w q))) (n := j) (by grind), hb] at ih; first | exact ih | exact EV_ls (by repeat (first | exact lsub_0 | refine lsub_n ?_ | refine lsub_s ?_)) ih) | (rw [bst_0 (c := fun i => decide (w (42 + i) = h) && (mvL w (w (10 + i))).isNone && decide (wtF w i ≠ 0) && decide (wtF w i < e)) (b := fun i q => decide (dst e (2 * wtF w i) < dst e (2 * wtF w q))) (n := j) (by grind) hb] at ih; first | exact ih | exact EV_ls (by repeat (first | exact lsub_0 | refine lsub_n ?_ | refine lsub_s ?_)) ih)
                · try first | contradiction | omega
                  all_goals
                    refine e_lload dX11_spanToMove_49 rfl ?_
                    refine e_lconst (v := lN 0) dX11_spanToMove_51 rfl ?_
                    refine e_lcmp dX11_spanToMove_52 ?_
                    first | ((with_reducible refine mk_b ?_); refine b_if_eq (tgt := 106) dX11_spanToMove_53 (by decide) (fun h53 => ?_) (fun h53 => ?_)) | ((with_reducible refine mk_ll ?_); refine m_if_eq (tgt := 106) dX11_spanToMove_53 (by decide) (by omega) (by omega) (fun h53 => ?_) (fun h53 => ?_)) | ((with_reducible refine mk_lc ?_); refine l_if_eq (tgt := 106) dX11_spanToMove_53 (by decide) (fun h53 => ?_) (fun h53 => ?_)) | ((with_reducible refine mk_n ?_); refine n_if_eq (tgt := 106) dX11_spanToMove_53 (by decide) (by omega) (fun h53 => ?_) (fun h53 => ?_)) | refine e_if_eq (tgt := 106) dX11_spanToMove_53 (by decide) (fun h53 => ?_) (fun h53 => ?_)
                    · try first | contradiction | omega
                      all_goals
                        first | refine n_inc dX11_spanToMove_106 rfl (Nat.le_of_ble_eq_true rfl) rfl ?_ | refine e_iinc dX11_spanToMove_106 rfl rfl (Nat.le_of_ble_eq_true rfl) rfl ?_
                        refine e_goto (tgt := 6) dX11_spanToMove_109 (by decide) ?_
                        first | (rw [bst_f (c := fun i => decide (w (42 + i) = h) && (mvL w (w (10 + i))).isNone && decide (wtF w i ≠ 0) && decide (wtF w i < e)) (b := fun i q => decide (dst e (2 * wtF w i) < dst e (2 * wtF w q))) (n := j) (by grind), hb] at ih; first | exact ih | exact EV_ls (by repeat (first | exact lsub_0 | refine lsub_n ?_ | refine lsub_s ?_)) ih) | (rw [bst_0 (c := fun i => decide (w (42 + i) = h) && (mvL w (w (10 + i))).isNone && decide (wtF w i ≠ 0) && decide (wtF w i < e)) (b := fun i q => decide (dst e (2 * wtF w i) < dst e (2 * wtF w q))) (n := j) (by grind) hb] at ih; first | exact ih | exact EV_ls (by repeat (first | exact lsub_0 | refine lsub_n ?_ | refine lsub_s ?_)) ih)
                    · try first | contradiction | omega
                      all_goals
                        refine e_lload dX11_spanToMove_56 rfl ?_
                        refine e_lload_n dX11_spanToMove_58 rfl rfl ?_
                        refine e_lcmp dX11_spanToMove_59 ?_
                        first | ((with_reducible refine mk_ll ?_); refine m_if_lt (tgt := 66) dX11_spanToMove_60 (by decide) (by omega) (by omega) (fun h60 => ?_) (fun h60 => ?_)) | ((with_reducible refine mk_lc ?_); refine l_if_lt (tgt := 66) dX11_spanToMove_60 (by decide) (fun h60 => ?_) (fun h60 => ?_)) | ((with_reducible refine mk_n ?_); refine n_if_lt (tgt := 66) dX11_spanToMove_60 (by decide) (by omega) (fun h60 => ?_) (fun h60 => ?_)) | refine e_if_lt (tgt := 66) dX11_spanToMove_60 (by decide) (fun h60 => ?_) (fun h60 => ?_)
                        · try first | contradiction | omega
                          all_goals
                            refine e_iload dX11_spanToMove_66 rfl ?_
                            refine e_iconst (v := -1) dX11_spanToMove_68 rfl ?_
                            first | ((with_reducible refine mk_mo ?_); refine p_icmp_eq (tgt := 102) dX11_spanToMove_69 (by decide) (fun h69 => ?_) (fun h69 => ?_)) | ((with_reducible refine mk_ms ?_); refine s_icmp_eq (tgt := 102) dX11_spanToMove_69 (by decide) (by omega) (fun h69 => ?_) (fun h69 => ?_)) | ((with_reducible refine mk_mn ?_); refine q_icmp_eq (tgt := 102) dX11_spanToMove_69 (by decide) (by omega) (fun h69 => ?_) (fun h69 => ?_)) | ((with_reducible refine mk_nn ?_); refine n_icmp_eq (tgt := 102) dX11_spanToMove_69 (by decide) (by omega) (by omega) (fun h69 => ?_) (fun h69 => ?_)) | refine e_icmp_eq (tgt := 102) dX11_spanToMove_69 (by decide) (fun h69 => ?_) (fun h69 => ?_)
                            · try first | contradiction | omega
                              all_goals
                                refine e_iload dX11_spanToMove_102 rfl ?_
                                refine e_istore dX11_spanToMove_104 (Nat.le_of_ble_eq_true rfl) rfl ?_
                                first | refine n_inc dX11_spanToMove_106 rfl (Nat.le_of_ble_eq_true rfl) rfl ?_ | refine e_iinc dX11_spanToMove_106 rfl rfl (Nat.le_of_ble_eq_true rfl) rfl ?_
                                refine e_goto (tgt := 6) dX11_spanToMove_109 (by decide) ?_
                                first | (rw [bst_f (c := fun i => decide (w (42 + i) = h) && (mvL w (w (10 + i))).isNone && decide (wtF w i ≠ 0) && decide (wtF w i < e)) (b := fun i q => decide (dst e (2 * wtF w i) < dst e (2 * wtF w q))) (n := j) (by grind), hb] at ih; first | exact ih | exact EV_ls (by repeat (first | exact lsub_0 | refine lsub_n ?_ | refine lsub_s ?_)) ih) | (rw [bst_0 (c := fun i => decide (w (42 + i) = h) && (mvL w (w (10 + i))).isNone && decide (wtF w i ≠ 0) && decide (wtF w i < e)) (b := fun i q => decide (dst e (2 * wtF w i) < dst e (2 * wtF w q))) (n := j) (by grind) hb] at ih; first | exact ih | exact EV_ls (by repeat (first | exact lsub_0 | refine lsub_n ?_ | refine lsub_s ?_)) ih)
                            · try first | contradiction | omega
                              all_goals
                                refine e_lload_n dX11_spanToMove_72 rfl rfl ?_
                                refine e_ldc2 dX11_spanToMove_73 co_X11_77 ?_
                                refine e_lload dX11_spanToMove_76 rfl ?_
                                first | ((with_reducible refine mk_LL ?_); refine n_lmul dX11_spanToMove_78 ?_) | refine e_lmul dX11_spanToMove_78 ?_
                                first | ((with_reducible refine mk_LL ?_); refine n_lsub dX11_spanToMove_79 (by omega) ?_) | refine e_lsub dX11_spanToMove_79 ?_
                                refine x_S1 (M' := mX11_size) dX11_spanToMove_80 ml_X11_361 ok_X11_size rfl sc_X11_size (ct_sizeN (by omega) (by omega)) (Nat.le_of_ble_eq_true rfl) (by decide) (Nat.le_of_ble_eq_true rfl) ?_
                                refine e_lload_n dX11_spanToMove_83 rfl rfl ?_
                                refine e_ldc2 dX11_spanToMove_84 co_X11_77 ?_
                                refine e_aload_n dX11_spanToMove_87 rfl rfl ?_
                                refine e_iload dX11_spanToMove_88 rfl ?_
                                refine x_V1 (M' := mX11_weightOf) dX11_spanToMove_90 ml_X11_73 ok_X11_weightOf (by decide) rfl im_X11_weightOf se_X11_weightOf (ct_X11_weightOf ‹_› ‹_› (by omega)) (Nat.le_of_ble_eq_true rfl) (by decide) (Nat.le_of_ble_eq_true rfl) ?_
                                first | ((with_reducible refine mk_LL ?_); refine n_lmul dX11_spanToMove_93 ?_) | refine e_lmul dX11_spanToMove_93 ?_
                                first | ((with_reducible refine mk_LL ?_); refine n_lsub dX11_spanToMove_94 (by omega) ?_) | refine e_lsub dX11_spanToMove_94 ?_
                                refine x_S1 (M' := mX11_size) dX11_spanToMove_95 ml_X11_361 ok_X11_size rfl sc_X11_size (ct_sizeN (by omega) (by omega)) (Nat.le_of_ble_eq_true rfl) (by decide) (Nat.le_of_ble_eq_true rfl) ?_
                                refine e_lcmp dX11_spanToMove_98 ?_
                                first | ((with_reducible refine mk_ll ?_); refine m_if_ge (tgt := 106) dX11_spanToMove_99 (by decide) (by omega) (by omega) (fun h99 => ?_) (fun h99 => ?_)) | ((with_reducible refine mk_lc ?_); refine l_if_ge (tgt := 106) dX11_spanToMove_99 (by decide) (fun h99 => ?_) (fun h99 => ?_)) | ((with_reducible refine mk_n ?_); refine n_if_ge (tgt := 106) dX11_spanToMove_99 (by decide) (by omega) (fun h99 => ?_) (fun h99 => ?_)) | refine e_if_ge (tgt := 106) dX11_spanToMove_99 (by decide) (fun h99 => ?_) (fun h99 => ?_)
                                · try first | contradiction | omega
                                  all_goals
                                    first | refine n_inc dX11_spanToMove_106 rfl (Nat.le_of_ble_eq_true rfl) rfl ?_ | refine e_iinc dX11_spanToMove_106 rfl rfl (Nat.le_of_ble_eq_true rfl) rfl ?_
                                    refine e_goto (tgt := 6) dX11_spanToMove_109 (by decide) ?_
                                    first | (rw [bst_f (c := fun i => decide (w (42 + i) = h) && (mvL w (w (10 + i))).isNone && decide (wtF w i ≠ 0) && decide (wtF w i < e)) (b := fun i q => decide (dst e (2 * wtF w i) < dst e (2 * wtF w q))) (n := j) (by grind), hb] at ih; first | exact ih | exact EV_ls (by repeat (first | exact lsub_0 | refine lsub_n ?_ | refine lsub_s ?_)) ih) | (rw [bst_0 (c := fun i => decide (w (42 + i) = h) && (mvL w (w (10 + i))).isNone && decide (wtF w i ≠ 0) && decide (wtF w i < e)) (b := fun i q => decide (dst e (2 * wtF w i) < dst e (2 * wtF w q))) (n := j) (by grind) hb] at ih; first | exact ih | exact EV_ls (by repeat (first | exact lsub_0 | refine lsub_n ?_ | refine lsub_s ?_)) ih)
                                · try first | contradiction | omega
                                  all_goals
                                    refine e_iload dX11_spanToMove_102 rfl ?_
                                    refine e_istore dX11_spanToMove_104 (Nat.le_of_ble_eq_true rfl) rfl ?_
                                    first | refine n_inc dX11_spanToMove_106 rfl (Nat.le_of_ble_eq_true rfl) rfl ?_ | refine e_iinc dX11_spanToMove_106 rfl rfl (Nat.le_of_ble_eq_true rfl) rfl ?_
                                    refine e_goto (tgt := 6) dX11_spanToMove_109 (by decide) ?_
                                    first | (rw [bst_f (c := fun i => decide (w (42 + i) = h) && (mvL w (w (10 + i))).isNone && decide (wtF w i ≠ 0) && decide (wtF w i < e)) (b := fun i q => decide (dst e (2 * wtF w i) < dst e (2 * wtF w q))) (n := j) (by grind), hb] at ih; first | exact ih | exact EV_ls (by repeat (first | exact lsub_0 | refine lsub_n ?_ | refine lsub_s ?_)) ih) | (rw [bst_0 (c := fun i => decide (w (42 + i) = h) && (mvL w (w (10 + i))).isNone && decide (wtF w i ≠ 0) && decide (wtF w i < e)) (b := fun i q => decide (dst e (2 * wtF w i) < dst e (2 * wtF w q))) (n := j) (by grind) hb] at ih; first | exact ih | exact EV_ls (by repeat (first | exact lsub_0 | refine lsub_n ?_ | refine lsub_s ?_)) ih)
                        · try first | contradiction | omega
                          all_goals
                            refine e_goto (tgt := 106) dX11_spanToMove_63 (by decide) ?_
                            first | refine n_inc dX11_spanToMove_106 rfl (Nat.le_of_ble_eq_true rfl) rfl ?_ | refine e_iinc dX11_spanToMove_106 rfl rfl (Nat.le_of_ble_eq_true rfl) rfl ?_
                            refine e_goto (tgt := 6) dX11_spanToMove_109 (by decide) ?_
                            first | (rw [bst_f (c := fun i => decide (w (42 + i) = h) && (mvL w (w (10 + i))).isNone && decide (wtF w i ≠ 0) && decide (wtF w i < e)) (b := fun i q => decide (dst e (2 * wtF w i) < dst e (2 * wtF w q))) (n := j) (by grind), hb] at ih; first | exact ih | exact EV_ls (by repeat (first | exact lsub_0 | refine lsub_n ?_ | refine lsub_s ?_)) ih) | (rw [bst_0 (c := fun i => decide (w (42 + i) = h) && (mvL w (w (10 + i))).isNone && decide (wtF w i ≠ 0) && decide (wtF w i < e)) (b := fun i q => decide (dst e (2 * wtF w i) < dst e (2 * wtF w q))) (n := j) (by grind) hb] at ih; first | exact ih | exact EV_ls (by repeat (first | exact lsub_0 | refine lsub_n ?_ | refine lsub_s ?_)) ih)
      | some q =>
        have hq := (bst_in hb).1
        have hqc := (bst_in hb).2
        rw [oI_s]
        have hw2 := wtF_le iv (i := q) (by omega)
        have hd1 : dst e (2 * wtF w j) < 4000000001 := by unfold dst; split <;> omega
        have hd2 : dst e (2 * wtF w q) < 4000000001 := by unfold dst; split <;> omega
        refine e_iload dX11_spanToMove_6 rfl ?_
        refine e_aload_n dX11_spanToMove_8 rfl rfl ?_
        refine e_getR dX11_spanToMove_9 fl_X11_7 rfl (by assumption) ?_
        refine e_iconst (v := nI 1) dX11_spanToMove_12 rfl ?_
        first | ((with_reducible refine mk_ldw ?_); refine e_ldw dX11_spanToMove_13 (by omega) ?_) | refine e_iald _ dX11_spanToMove_13 ⟨by decide, by decide⟩ rfl rfl (by simp only [lenK]; omega) ?_
        first | ((with_reducible refine mk_nn ?_); refine n_icmp_ge (tgt := 112) dX11_spanToMove_14 (by decide) (by omega) (by omega) (fun h14 => ?_) (fun h14 => ?_)) | refine e_icmp_ge (tgt := 112) dX11_spanToMove_14 (by decide) (fun h14 => ?_) (fun h14 => ?_)
        · try first | contradiction | omega
          all_goals
            refine e_iload_n dX11_spanToMove_112 rfl rfl ?_
            refine e_iload_n dX11_spanToMove_113 rfl rfl ?_
            first | ((with_reducible refine mk_mo ?_); refine p_icmp_ne (tgt := 121) dX11_spanToMove_114 (by decide) (fun h114 => ?_) (fun h114 => ?_)) | ((with_reducible refine mk_ms ?_); refine s_icmp_ne (tgt := 121) dX11_spanToMove_114 (by decide) (by omega) (fun h114 => ?_) (fun h114 => ?_)) | ((with_reducible refine mk_mn ?_); refine q_icmp_ne (tgt := 121) dX11_spanToMove_114 (by decide) (by omega) (fun h114 => ?_) (fun h114 => ?_)) | ((with_reducible refine mk_nn ?_); refine n_icmp_ne (tgt := 121) dX11_spanToMove_114 (by decide) (by omega) (by omega) (fun h114 => ?_) (fun h114 => ?_)) | refine e_icmp_ne (tgt := 121) dX11_spanToMove_114 (by decide) (fun h114 => ?_) (fun h114 => ?_)
            · try first | contradiction | omega
              all_goals
                refine e_iload dX11_spanToMove_121 rfl ?_
                refine e_ret (some _) rfl (r_int dX11_spanToMove_123 rfl) ?_
                exact xq (by first | rfl | simp_all [bI_t, bI_f]) rfl rfl rfl rfl rfl
            · try first | contradiction | omega
              all_goals
                refine e_iconst (v := -1) dX11_spanToMove_117 rfl ?_
                refine e_goto (tgt := 123) dX11_spanToMove_118 (by decide) ?_
                refine e_ret (some _) rfl (r_int dX11_spanToMove_123 rfl) ?_
                exact xq (by first | rfl | simp_all [bI_t, bI_f]) rfl rfl rfl rfl rfl
        · try first | contradiction | omega
          all_goals
            refine e_aload_n dX11_spanToMove_17 rfl rfl ?_
            refine e_iload dX11_spanToMove_18 rfl ?_
            refine x_V1 (M' := mX11_weightOf) dX11_spanToMove_20 ml_X11_73 ok_X11_weightOf (by decide) rfl im_X11_weightOf se_X11_weightOf (ct_X11_weightOf ‹_› ‹_› (by omega)) (Nat.le_of_ble_eq_true rfl) (by decide) (Nat.le_of_ble_eq_true rfl) ?_
            refine e_lstore dX11_spanToMove_23 (Nat.le_of_ble_eq_true rfl) rfl ?_
            refine e_aload_n dX11_spanToMove_25 rfl rfl ?_
            refine e_getR dX11_spanToMove_26 fl_X11_7 rfl (by assumption) ?_
            refine e_bipush (v := nI 42) dX11_spanToMove_29 rfl ?_
            refine e_iload dX11_spanToMove_31 rfl ?_
            first | ((with_reducible refine mk_nn ?_); refine n_iadd dX11_spanToMove_33 ?_) | refine e_iadd dX11_spanToMove_33 ?_
            first | ((with_reducible refine mk_ldw ?_); refine e_ldw dX11_spanToMove_34 (by omega) ?_) | refine e_iald _ dX11_spanToMove_34 ⟨by decide, by decide⟩ rfl rfl (by simp only [lenK]; omega) ?_
            refine e_iload_n dX11_spanToMove_35 rfl rfl ?_
            first | ((with_reducible refine mk_mo ?_); refine p_icmp_ne (tgt := 106) dX11_spanToMove_36 (by decide) (fun h36 => ?_) (fun h36 => ?_)) | ((with_reducible refine mk_ms ?_); refine s_icmp_ne (tgt := 106) dX11_spanToMove_36 (by decide) (by omega) (fun h36 => ?_) (fun h36 => ?_)) | ((with_reducible refine mk_mn ?_); refine q_icmp_ne (tgt := 106) dX11_spanToMove_36 (by decide) (by omega) (fun h36 => ?_) (fun h36 => ?_)) | ((with_reducible refine mk_nn ?_); refine n_icmp_ne (tgt := 106) dX11_spanToMove_36 (by decide) (by omega) (by omega) (fun h36 => ?_) (fun h36 => ?_)) | refine e_icmp_ne (tgt := 106) dX11_spanToMove_36 (by decide) (fun h36 => ?_) (fun h36 => ?_)
            · try first | contradiction | omega
              all_goals
                first | refine n_inc dX11_spanToMove_106 rfl (Nat.le_of_ble_eq_true rfl) rfl ?_ | refine e_iinc dX11_spanToMove_106 rfl rfl (Nat.le_of_ble_eq_true rfl) rfl ?_
                refine e_goto (tgt := 6) dX11_spanToMove_109 (by decide) ?_
                first | (rw [bst_f (c := fun i => decide (w (42 + i) = h) && (mvL w (w (10 + i))).isNone && decide (wtF w i ≠ 0) && decide (wtF w i < e)) (b := fun i q => decide (dst e (2 * wtF w i) < dst e (2 * wtF w q))) (n := j) (by grind), hb] at ih; first | exact ih | exact EV_ls (by repeat (first | exact lsub_0 | refine lsub_n ?_ | refine lsub_s ?_)) ih) | (rw [bst_0 (c := fun i => decide (w (42 + i) = h) && (mvL w (w (10 + i))).isNone && decide (wtF w i ≠ 0) && decide (wtF w i < e)) (b := fun i q => decide (dst e (2 * wtF w i) < dst e (2 * wtF w q))) (n := j) (by grind) hb] at ih; first | exact ih | exact EV_ls (by repeat (first | exact lsub_0 | refine lsub_n ?_ | refine lsub_s ?_)) ih) | (rw [bst_1 (c := fun i => decide (w (42 + i) = h) && (mvL w (w (10 + i))).isNone && decide (wtF w i ≠ 0) && decide (wtF w i < e)) (b := fun i q => decide (dst e (2 * wtF w i) < dst e (2 * wtF w q))) (n := j) (by grind) hb (by grind)] at ih; first | exact ih | exact EV_ls (by repeat (first | exact lsub_0 | refine lsub_n ?_ | refine lsub_s ?_)) ih) | (rw [bst_2 (c := fun i => decide (w (42 + i) = h) && (mvL w (w (10 + i))).isNone && decide (wtF w i ≠ 0) && decide (wtF w i < e)) (b := fun i q => decide (dst e (2 * wtF w i) < dst e (2 * wtF w q))) (n := j) (by grind) hb (by grind)] at ih; first | exact ih | exact EV_ls (by repeat (first | exact lsub_0 | refine lsub_n ?_ | refine lsub_s ?_)) ih)
            · try first | contradiction | omega
              all_goals
                refine e_aload_n dX11_spanToMove_39 rfl rfl ?_
                refine e_iload dX11_spanToMove_40 rfl ?_
                refine x_V1 (M' := mX11_moveOfSpan) dX11_spanToMove_42 ml_X11_79 ok_X11_moveOfSpan (by decide) rfl im_X11_moveOfSpan se_X11_moveOfSpan (ct_X11_moveOfSpan ‹_› ‹_› (by omega)) (Nat.le_of_ble_eq_true rfl) (by decide) (Nat.le_of_ble_eq_true rfl) ?_
                rw [hmv]
                refine e_iconst (v := -1) dX11_spanToMove_45 rfl ?_
                first | ((with_reducible refine mk_mo ?_); refine p_icmp_ne (tgt := 106) dX11_spanToMove_46 (by decide) (fun h46 => ?_) (fun h46 => ?_)) | ((with_reducible refine mk_ms ?_); refine s_icmp_ne (tgt := 106) dX11_spanToMove_46 (by decide) (by omega) (fun h46 => ?_) (fun h46 => ?_)) | ((with_reducible refine mk_mn ?_); refine q_icmp_ne (tgt := 106) dX11_spanToMove_46 (by decide) (by omega) (fun h46 => ?_) (fun h46 => ?_)) | ((with_reducible refine mk_nn ?_); refine n_icmp_ne (tgt := 106) dX11_spanToMove_46 (by decide) (by omega) (by omega) (fun h46 => ?_) (fun h46 => ?_)) | refine e_icmp_ne (tgt := 106) dX11_spanToMove_46 (by decide) (fun h46 => ?_) (fun h46 => ?_)
                · try first | contradiction | omega
                  all_goals
                    first | refine n_inc dX11_spanToMove_106 rfl (Nat.le_of_ble_eq_true rfl) rfl ?_ | refine e_iinc dX11_spanToMove_106 rfl rfl (Nat.le_of_ble_eq_true rfl) rfl ?_
                    refine e_goto (tgt := 6) dX11_spanToMove_109 (by decide) ?_
                    first | (rw [bst_f (c := fun i => decide (w (42 + i) = h) && (mvL w (w (10 + i))).isNone && decide (wtF w i ≠ 0) && decide (wtF w i < e)) (b := fun i q => decide (dst e (2 * wtF w i) < dst e (2 * wtF w q))) (n := j) (by grind), hb] at ih; first | exact ih | exact EV_ls (by repeat (first | exact lsub_0 | refine lsub_n ?_ | refine lsub_s ?_)) ih) | (rw [bst_0 (c := fun i => decide (w (42 + i) = h) && (mvL w (w (10 + i))).isNone && decide (wtF w i ≠ 0) && decide (wtF w i < e)) (b := fun i q => decide (dst e (2 * wtF w i) < dst e (2 * wtF w q))) (n := j) (by grind) hb] at ih; first | exact ih | exact EV_ls (by repeat (first | exact lsub_0 | refine lsub_n ?_ | refine lsub_s ?_)) ih) | (rw [bst_1 (c := fun i => decide (w (42 + i) = h) && (mvL w (w (10 + i))).isNone && decide (wtF w i ≠ 0) && decide (wtF w i < e)) (b := fun i q => decide (dst e (2 * wtF w i) < dst e (2 * wtF w q))) (n := j) (by grind) hb (by grind)] at ih; first | exact ih | exact EV_ls (by repeat (first | exact lsub_0 | refine lsub_n ?_ | refine lsub_s ?_)) ih) | (rw [bst_2 (c := fun i => decide (w (42 + i) = h) && (mvL w (w (10 + i))).isNone && decide (wtF w i ≠ 0) && decide (wtF w i < e)) (b := fun i q => decide (dst e (2 * wtF w i) < dst e (2 * wtF w q))) (n := j) (by grind) hb (by grind)] at ih; first | exact ih | exact EV_ls (by repeat (first | exact lsub_0 | refine lsub_n ?_ | refine lsub_s ?_)) ih)
                · try first | contradiction | omega
                  all_goals
                    refine e_lload dX11_spanToMove_49 rfl ?_
                    refine e_lconst (v := lN 0) dX11_spanToMove_51 rfl ?_
                    refine e_lcmp dX11_spanToMove_52 ?_
                    first | ((with_reducible refine mk_b ?_); refine b_if_eq (tgt := 106) dX11_spanToMove_53 (by decide) (fun h53 => ?_) (fun h53 => ?_)) | ((with_reducible refine mk_ll ?_); refine m_if_eq (tgt := 106) dX11_spanToMove_53 (by decide) (by omega) (by omega) (fun h53 => ?_) (fun h53 => ?_)) | ((with_reducible refine mk_lc ?_); refine l_if_eq (tgt := 106) dX11_spanToMove_53 (by decide) (fun h53 => ?_) (fun h53 => ?_)) | ((with_reducible refine mk_n ?_); refine n_if_eq (tgt := 106) dX11_spanToMove_53 (by decide) (by omega) (fun h53 => ?_) (fun h53 => ?_)) | refine e_if_eq (tgt := 106) dX11_spanToMove_53 (by decide) (fun h53 => ?_) (fun h53 => ?_)
                    · try first | contradiction | omega
                      all_goals
                        first | refine n_inc dX11_spanToMove_106 rfl (Nat.le_of_ble_eq_true rfl) rfl ?_ | refine e_iinc dX11_spanToMove_106 rfl rfl (Nat.le_of_ble_eq_true rfl) rfl ?_
                        refine e_goto (tgt := 6) dX11_spanToMove_109 (by decide) ?_
                        first | (rw [bst_f (c := fun i => decide (w (42 + i) = h) && (mvL w (w (10 + i))).isNone && decide (wtF w i ≠ 0) && decide (wtF w i < e)) (b := fun i q => decide (dst e (2 * wtF w i) < dst e (2 * wtF w q))) (n := j) (by grind), hb] at ih; first | exact ih | exact EV_ls (by repeat (first | exact lsub_0 | refine lsub_n ?_ | refine lsub_s ?_)) ih) | (rw [bst_0 (c := fun i => decide (w (42 + i) = h) && (mvL w (w (10 + i))).isNone && decide (wtF w i ≠ 0) && decide (wtF w i < e)) (b := fun i q => decide (dst e (2 * wtF w i) < dst e (2 * wtF w q))) (n := j) (by grind) hb] at ih; first | exact ih | exact EV_ls (by repeat (first | exact lsub_0 | refine lsub_n ?_ | refine lsub_s ?_)) ih) | (rw [bst_1 (c := fun i => decide (w (42 + i) = h) && (mvL w (w (10 + i))).isNone && decide (wtF w i ≠ 0) && decide (wtF w i < e)) (b := fun i q => decide (dst e (2 * wtF w i) < dst e (2 * wtF w q))) (n := j) (by grind) hb (by grind)] at ih; first | exact ih | exact EV_ls (by repeat (first | exact lsub_0 | refine lsub_n ?_ | refine lsub_s ?_)) ih) | (rw [bst_2 (c := fun i => decide (w (42 + i) = h) && (mvL w (w (10 + i))).isNone && decide (wtF w i ≠ 0) && decide (wtF w i < e)) (b := fun i q => decide (dst e (2 * wtF w i) < dst e (2 * wtF w q))) (n := j) (by grind) hb (by grind)] at ih; first | exact ih | exact EV_ls (by repeat (first | exact lsub_0 | refine lsub_n ?_ | refine lsub_s ?_)) ih)
                    · try first | contradiction | omega
                      all_goals
                        refine e_lload dX11_spanToMove_56 rfl ?_
                        refine e_lload_n dX11_spanToMove_58 rfl rfl ?_
                        refine e_lcmp dX11_spanToMove_59 ?_
                        first | ((with_reducible refine mk_ll ?_); refine m_if_lt (tgt := 66) dX11_spanToMove_60 (by decide) (by omega) (by omega) (fun h60 => ?_) (fun h60 => ?_)) | ((with_reducible refine mk_lc ?_); refine l_if_lt (tgt := 66) dX11_spanToMove_60 (by decide) (fun h60 => ?_) (fun h60 => ?_)) | ((with_reducible refine mk_n ?_); refine n_if_lt (tgt := 66) dX11_spanToMove_60 (by decide) (by omega) (fun h60 => ?_) (fun h60 => ?_)) | refine e_if_lt (tgt := 66) dX11_spanToMove_60 (by decide) (fun h60 => ?_) (fun h60 => ?_)
                        · try first | contradiction | omega
                          all_goals
                            refine e_iload dX11_spanToMove_66 rfl ?_
                            refine e_iconst (v := -1) dX11_spanToMove_68 rfl ?_
                            first | ((with_reducible refine mk_mo ?_); refine p_icmp_eq (tgt := 102) dX11_spanToMove_69 (by decide) (fun h69 => ?_) (fun h69 => ?_)) | ((with_reducible refine mk_ms ?_); refine s_icmp_eq (tgt := 102) dX11_spanToMove_69 (by decide) (by omega) (fun h69 => ?_) (fun h69 => ?_)) | ((with_reducible refine mk_mn ?_); refine q_icmp_eq (tgt := 102) dX11_spanToMove_69 (by decide) (by omega) (fun h69 => ?_) (fun h69 => ?_)) | ((with_reducible refine mk_nn ?_); refine n_icmp_eq (tgt := 102) dX11_spanToMove_69 (by decide) (by omega) (by omega) (fun h69 => ?_) (fun h69 => ?_)) | refine e_icmp_eq (tgt := 102) dX11_spanToMove_69 (by decide) (fun h69 => ?_) (fun h69 => ?_)
                            · try first | contradiction | omega
                              all_goals
                                refine e_iload dX11_spanToMove_102 rfl ?_
                                refine e_istore dX11_spanToMove_104 (Nat.le_of_ble_eq_true rfl) rfl ?_
                                first | refine n_inc dX11_spanToMove_106 rfl (Nat.le_of_ble_eq_true rfl) rfl ?_ | refine e_iinc dX11_spanToMove_106 rfl rfl (Nat.le_of_ble_eq_true rfl) rfl ?_
                                refine e_goto (tgt := 6) dX11_spanToMove_109 (by decide) ?_
                                first | (rw [bst_f (c := fun i => decide (w (42 + i) = h) && (mvL w (w (10 + i))).isNone && decide (wtF w i ≠ 0) && decide (wtF w i < e)) (b := fun i q => decide (dst e (2 * wtF w i) < dst e (2 * wtF w q))) (n := j) (by grind), hb] at ih; first | exact ih | exact EV_ls (by repeat (first | exact lsub_0 | refine lsub_n ?_ | refine lsub_s ?_)) ih) | (rw [bst_0 (c := fun i => decide (w (42 + i) = h) && (mvL w (w (10 + i))).isNone && decide (wtF w i ≠ 0) && decide (wtF w i < e)) (b := fun i q => decide (dst e (2 * wtF w i) < dst e (2 * wtF w q))) (n := j) (by grind) hb] at ih; first | exact ih | exact EV_ls (by repeat (first | exact lsub_0 | refine lsub_n ?_ | refine lsub_s ?_)) ih) | (rw [bst_1 (c := fun i => decide (w (42 + i) = h) && (mvL w (w (10 + i))).isNone && decide (wtF w i ≠ 0) && decide (wtF w i < e)) (b := fun i q => decide (dst e (2 * wtF w i) < dst e (2 * wtF w q))) (n := j) (by grind) hb (by grind)] at ih; first | exact ih | exact EV_ls (by repeat (first | exact lsub_0 | refine lsub_n ?_ | refine lsub_s ?_)) ih) | (rw [bst_2 (c := fun i => decide (w (42 + i) = h) && (mvL w (w (10 + i))).isNone && decide (wtF w i ≠ 0) && decide (wtF w i < e)) (b := fun i q => decide (dst e (2 * wtF w i) < dst e (2 * wtF w q))) (n := j) (by grind) hb (by grind)] at ih; first | exact ih | exact EV_ls (by repeat (first | exact lsub_0 | refine lsub_n ?_ | refine lsub_s ?_)) ih)
                            · try first | contradiction | omega
                              all_goals
                                refine e_lload_n dX11_spanToMove_72 rfl rfl ?_
                                refine e_ldc2 dX11_spanToMove_73 co_X11_77 ?_
                                refine e_lload dX11_spanToMove_76 rfl ?_
                                first | ((with_reducible refine mk_LL ?_); refine n_lmul dX11_spanToMove_78 ?_) | refine e_lmul dX11_spanToMove_78 ?_
                                first | ((with_reducible refine mk_LL ?_); refine n_lsub dX11_spanToMove_79 (by omega) ?_) | refine e_lsub dX11_spanToMove_79 ?_
                                refine x_S1 (M' := mX11_size) dX11_spanToMove_80 ml_X11_361 ok_X11_size rfl sc_X11_size (ct_sizeN (by omega) (by omega)) (Nat.le_of_ble_eq_true rfl) (by decide) (Nat.le_of_ble_eq_true rfl) ?_
                                refine e_lload_n dX11_spanToMove_83 rfl rfl ?_
                                refine e_ldc2 dX11_spanToMove_84 co_X11_77 ?_
                                refine e_aload_n dX11_spanToMove_87 rfl rfl ?_
                                refine e_iload dX11_spanToMove_88 rfl ?_
                                refine x_V1 (M' := mX11_weightOf) dX11_spanToMove_90 ml_X11_73 ok_X11_weightOf (by decide) rfl im_X11_weightOf se_X11_weightOf (ct_X11_weightOf ‹_› ‹_› (by omega)) (Nat.le_of_ble_eq_true rfl) (by decide) (Nat.le_of_ble_eq_true rfl) ?_
                                first | ((with_reducible refine mk_LL ?_); refine n_lmul dX11_spanToMove_93 ?_) | refine e_lmul dX11_spanToMove_93 ?_
                                first | ((with_reducible refine mk_LL ?_); refine n_lsub dX11_spanToMove_94 (by omega) ?_) | refine e_lsub dX11_spanToMove_94 ?_
                                refine x_S1 (M' := mX11_size) dX11_spanToMove_95 ml_X11_361 ok_X11_size rfl sc_X11_size (ct_sizeN (by omega) (by omega)) (Nat.le_of_ble_eq_true rfl) (by decide) (Nat.le_of_ble_eq_true rfl) ?_
                                refine e_lcmp dX11_spanToMove_98 ?_
                                first | ((with_reducible refine mk_ll ?_); refine m_if_ge (tgt := 106) dX11_spanToMove_99 (by decide) (by omega) (by omega) (fun h99 => ?_) (fun h99 => ?_)) | ((with_reducible refine mk_lc ?_); refine l_if_ge (tgt := 106) dX11_spanToMove_99 (by decide) (fun h99 => ?_) (fun h99 => ?_)) | ((with_reducible refine mk_n ?_); refine n_if_ge (tgt := 106) dX11_spanToMove_99 (by decide) (by omega) (fun h99 => ?_) (fun h99 => ?_)) | refine e_if_ge (tgt := 106) dX11_spanToMove_99 (by decide) (fun h99 => ?_) (fun h99 => ?_)
                                · try first | contradiction | omega
                                  all_goals
                                    first | refine n_inc dX11_spanToMove_106 rfl (Nat.le_of_ble_eq_true rfl) rfl ?_ | refine e_iinc dX11_spanToMove_106 rfl rfl (Nat.le_of_ble_eq_true rfl) rfl ?_
                                    refine e_goto (tgt := 6) dX11_spanToMove_109 (by decide) ?_
                                    first | (rw [bst_f (c := fun i => decide (w (42 + i) = h) && (mvL w (w (10 + i))).isNone && decide (wtF w i ≠ 0) && decide (wtF w i < e)) (b := fun i q => decide (dst e (2 * wtF w i) < dst e (2 * wtF w q))) (n := j) (by grind), hb] at ih; first | exact ih | exact EV_ls (by repeat (first | exact lsub_0 | refine lsub_n ?_ | refine lsub_s ?_)) ih) | (rw [bst_0 (c := fun i => decide (w (42 + i) = h) && (mvL w (w (10 + i))).isNone && decide (wtF w i ≠ 0) && decide (wtF w i < e)) (b := fun i q => decide (dst e (2 * wtF w i) < dst e (2 * wtF w q))) (n := j) (by grind) hb] at ih; first | exact ih | exact EV_ls (by repeat (first | exact lsub_0 | refine lsub_n ?_ | refine lsub_s ?_)) ih) | (rw [bst_1 (c := fun i => decide (w (42 + i) = h) && (mvL w (w (10 + i))).isNone && decide (wtF w i ≠ 0) && decide (wtF w i < e)) (b := fun i q => decide (dst e (2 * wtF w i) < dst e (2 * wtF w q))) (n := j) (by grind) hb (by grind)] at ih; first | exact ih | exact EV_ls (by repeat (first | exact lsub_0 | refine lsub_n ?_ | refine lsub_s ?_)) ih) | (rw [bst_2 (c := fun i => decide (w (42 + i) = h) && (mvL w (w (10 + i))).isNone && decide (wtF w i ≠ 0) && decide (wtF w i < e)) (b := fun i q => decide (dst e (2 * wtF w i) < dst e (2 * wtF w q))) (n := j) (by grind) hb (by grind)] at ih; first | exact ih | exact EV_ls (by repeat (first | exact lsub_0 | refine lsub_n ?_ | refine lsub_s ?_)) ih)
                                · try first | contradiction | omega
                                  all_goals
                                    refine e_iload dX11_spanToMove_102 rfl ?_
                                    refine e_istore dX11_spanToMove_104 (Nat.le_of_ble_eq_true rfl) rfl ?_
                                    first | refine n_inc dX11_spanToMove_106 rfl (Nat.le_of_ble_eq_true rfl) rfl ?_ | refine e_iinc dX11_spanToMove_106 rfl rfl (Nat.le_of_ble_eq_true rfl) rfl ?_
                                    refine e_goto (tgt := 6) dX11_spanToMove_109 (by decide) ?_
                                    first | (rw [bst_f (c := fun i => decide (w (42 + i) = h) && (mvL w (w (10 + i))).isNone && decide (wtF w i ≠ 0) && decide (wtF w i < e)) (b := fun i q => decide (dst e (2 * wtF w i) < dst e (2 * wtF w q))) (n := j) (by grind), hb] at ih; first | exact ih | exact EV_ls (by repeat (first | exact lsub_0 | refine lsub_n ?_ | refine lsub_s ?_)) ih) | (rw [bst_0 (c := fun i => decide (w (42 + i) = h) && (mvL w (w (10 + i))).isNone && decide (wtF w i ≠ 0) && decide (wtF w i < e)) (b := fun i q => decide (dst e (2 * wtF w i) < dst e (2 * wtF w q))) (n := j) (by grind) hb] at ih; first | exact ih | exact EV_ls (by repeat (first | exact lsub_0 | refine lsub_n ?_ | refine lsub_s ?_)) ih) | (rw [bst_1 (c := fun i => decide (w (42 + i) = h) && (mvL w (w (10 + i))).isNone && decide (wtF w i ≠ 0) && decide (wtF w i < e)) (b := fun i q => decide (dst e (2 * wtF w i) < dst e (2 * wtF w q))) (n := j) (by grind) hb (by grind)] at ih; first | exact ih | exact EV_ls (by repeat (first | exact lsub_0 | refine lsub_n ?_ | refine lsub_s ?_)) ih) | (rw [bst_2 (c := fun i => decide (w (42 + i) = h) && (mvL w (w (10 + i))).isNone && decide (wtF w i ≠ 0) && decide (wtF w i < e)) (b := fun i q => decide (dst e (2 * wtF w i) < dst e (2 * wtF w q))) (n := j) (by grind) hb (by grind)] at ih; first | exact ih | exact EV_ls (by repeat (first | exact lsub_0 | refine lsub_n ?_ | refine lsub_s ?_)) ih)
                        · try first | contradiction | omega
                          all_goals
                            refine e_goto (tgt := 106) dX11_spanToMove_63 (by decide) ?_
                            first | refine n_inc dX11_spanToMove_106 rfl (Nat.le_of_ble_eq_true rfl) rfl ?_ | refine e_iinc dX11_spanToMove_106 rfl rfl (Nat.le_of_ble_eq_true rfl) rfl ?_
                            refine e_goto (tgt := 6) dX11_spanToMove_109 (by decide) ?_
                            first | (rw [bst_f (c := fun i => decide (w (42 + i) = h) && (mvL w (w (10 + i))).isNone && decide (wtF w i ≠ 0) && decide (wtF w i < e)) (b := fun i q => decide (dst e (2 * wtF w i) < dst e (2 * wtF w q))) (n := j) (by grind), hb] at ih; first | exact ih | exact EV_ls (by repeat (first | exact lsub_0 | refine lsub_n ?_ | refine lsub_s ?_)) ih) | (rw [bst_0 (c := fun i => decide (w (42 + i) = h) && (mvL w (w (10 + i))).isNone && decide (wtF w i ≠ 0) && decide (wtF w i < e)) (b := fun i q => decide (dst e (2 * wtF w i) < dst e (2 * wtF w q))) (n := j) (by grind) hb] at ih; first | exact ih | exact EV_ls (by repeat (first | exact lsub_0 | refine lsub_n ?_ | refine lsub_s ?_)) ih) | (rw [bst_1 (c := fun i => decide (w (42 + i) = h) && (mvL w (w (10 + i))).isNone && decide (wtF w i ≠ 0) && decide (wtF w i < e)) (b := fun i q => decide (dst e (2 * wtF w i) < dst e (2 * wtF w q))) (n := j) (by grind) hb (by grind)] at ih; first | exact ih | exact EV_ls (by repeat (first | exact lsub_0 | refine lsub_n ?_ | refine lsub_s ?_)) ih) | (rw [bst_2 (c := fun i => decide (w (42 + i) = h) && (mvL w (w (10 + i))).isNone && decide (wtF w i ≠ 0) && decide (wtF w i < e)) (b := fun i q => decide (dst e (2 * wtF w i) < dst e (2 * wtF w q))) (n := j) (by grind) hb (by grind)] at ih; first | exact ih | exact EV_ls (by repeat (first | exact lsub_0 | refine lsub_n ?_ | refine lsub_s ?_)) ih)
    ) (by
    refine e_iload dX11_spanToMove_6 rfl ?_
    refine e_aload_n dX11_spanToMove_8 rfl rfl ?_
    refine e_getR dX11_spanToMove_9 fl_X11_7 rfl (by assumption) ?_
    refine e_iconst (v := nI 1) dX11_spanToMove_12 rfl ?_
    first | ((with_reducible refine mk_ldw ?_); refine e_ldw dX11_spanToMove_13 (by omega) ?_) | refine e_iald _ dX11_spanToMove_13 ⟨by decide, by decide⟩ rfl rfl (by simp only [lenK]; omega) ?_
    first | ((with_reducible refine mk_nn ?_); refine n_icmp_ge (tgt := 112) dX11_spanToMove_14 (by decide) (by omega) (by omega) (fun h14 => ?_) (fun h14 => ?_)) | refine e_icmp_ge (tgt := 112) dX11_spanToMove_14 (by decide) (fun h14 => ?_) (fun h14 => ?_)
    · try first | contradiction | omega
      all_goals
        refine e_iload_n dX11_spanToMove_112 rfl rfl ?_
        refine e_iload_n dX11_spanToMove_113 rfl rfl ?_
        first | ((with_reducible refine mk_mo ?_); refine p_icmp_ne (tgt := 121) dX11_spanToMove_114 (by decide) (fun h114 => ?_) (fun h114 => ?_)) | ((with_reducible refine mk_ms ?_); refine s_icmp_ne (tgt := 121) dX11_spanToMove_114 (by decide) (by omega) (fun h114 => ?_) (fun h114 => ?_)) | ((with_reducible refine mk_mn ?_); refine q_icmp_ne (tgt := 121) dX11_spanToMove_114 (by decide) (by omega) (fun h114 => ?_) (fun h114 => ?_)) | ((with_reducible refine mk_nn ?_); refine n_icmp_ne (tgt := 121) dX11_spanToMove_114 (by decide) (by omega) (by omega) (fun h114 => ?_) (fun h114 => ?_)) | refine e_icmp_ne (tgt := 121) dX11_spanToMove_114 (by decide) (fun h114 => ?_) (fun h114 => ?_)
        · try first | contradiction | omega
          all_goals
            refine e_iload dX11_spanToMove_121 rfl ?_
            refine e_ret (some _) rfl (r_int dX11_spanToMove_123 rfl) ?_
            refine xq ?_ rfl rfl rfl rfl rfl
            first | rw [if_pos (by omega)]; rfl | rw [if_neg (by omega)]; rfl
        · try first | contradiction | omega
          all_goals
            refine e_iconst (v := -1) dX11_spanToMove_117 rfl ?_
            refine e_goto (tgt := 123) dX11_spanToMove_118 (by decide) ?_
            refine e_ret (some _) rfl (r_int dX11_spanToMove_123 rfl) ?_
            refine xq ?_ rfl rfl rfl rfl rfl
            first | rw [if_pos (by omega)]; rfl | rw [if_neg (by omega)]; rfl
    · try first | contradiction | omega
      all_goals
        refine e_aload_n dX11_spanToMove_17 rfl rfl ?_
        refine e_iload dX11_spanToMove_18 rfl ?_
        refine x_V1 (M' := mX11_weightOf) dX11_spanToMove_20 ml_X11_73 ok_X11_weightOf (by decide) rfl im_X11_weightOf se_X11_weightOf (ct_X11_weightOf ‹_› ‹_› (by omega)) (Nat.le_of_ble_eq_true rfl) (by decide) (Nat.le_of_ble_eq_true rfl) ?_
        refine e_lstore dX11_spanToMove_23 (Nat.le_of_ble_eq_true rfl) rfl ?_
        refine e_aload_n dX11_spanToMove_25 rfl rfl ?_
        refine e_getR dX11_spanToMove_26 fl_X11_7 rfl (by assumption) ?_
        refine e_bipush (v := nI 42) dX11_spanToMove_29 rfl ?_
        refine e_iload dX11_spanToMove_31 rfl ?_
        first | ((with_reducible refine mk_nn ?_); refine n_iadd dX11_spanToMove_33 ?_) | refine e_iadd dX11_spanToMove_33 ?_
        first | ((with_reducible refine mk_ldw ?_); refine e_ldw dX11_spanToMove_34 (by omega) ?_) | refine e_iald _ dX11_spanToMove_34 ⟨by decide, by decide⟩ rfl rfl (by simp only [lenK]; omega) ?_
        refine e_iload_n dX11_spanToMove_35 rfl rfl ?_
        first | ((with_reducible refine mk_mo ?_); refine p_icmp_ne (tgt := 106) dX11_spanToMove_36 (by decide) (fun h36 => ?_) (fun h36 => ?_)) | ((with_reducible refine mk_ms ?_); refine s_icmp_ne (tgt := 106) dX11_spanToMove_36 (by decide) (by omega) (fun h36 => ?_) (fun h36 => ?_)) | ((with_reducible refine mk_mn ?_); refine q_icmp_ne (tgt := 106) dX11_spanToMove_36 (by decide) (by omega) (fun h36 => ?_) (fun h36 => ?_)) | ((with_reducible refine mk_nn ?_); refine n_icmp_ne (tgt := 106) dX11_spanToMove_36 (by decide) (by omega) (by omega) (fun h36 => ?_) (fun h36 => ?_)) | refine e_icmp_ne (tgt := 106) dX11_spanToMove_36 (by decide) (fun h36 => ?_) (fun h36 => ?_)
        · try first | contradiction | omega
          all_goals
            first | refine n_inc dX11_spanToMove_106 rfl (Nat.le_of_ble_eq_true rfl) rfl ?_ | refine e_iinc dX11_spanToMove_106 rfl rfl (Nat.le_of_ble_eq_true rfl) rfl ?_
            refine e_goto (tgt := 6) dX11_spanToMove_109 (by decide) ?_
            first | (rw [bst_f (c := fun i => decide (w (42 + i) = h) && (mvL w (w (10 + i))).isNone && decide (wtF w i ≠ 0) && decide (wtF w i < e)) (b := fun i q => decide (dst e (2 * wtF w i) < dst e (2 * wtF w q))) (n := j) (by grind), hb] at ih; first | exact ih | exact EV_ls (by repeat (first | exact lsub_0 | refine lsub_n ?_ | refine lsub_s ?_)) ih) | (rw [bst_0 (c := fun i => decide (w (42 + i) = h) && (mvL w (w (10 + i))).isNone && decide (wtF w i ≠ 0) && decide (wtF w i < e)) (b := fun i q => decide (dst e (2 * wtF w i) < dst e (2 * wtF w q))) (n := j) (by grind) hb] at ih; first | exact ih | exact EV_ls (by repeat (first | exact lsub_0 | refine lsub_n ?_ | refine lsub_s ?_)) ih) | (rw [bst_1 (c := fun i => decide (w (42 + i) = h) && (mvL w (w (10 + i))).isNone && decide (wtF w i ≠ 0) && decide (wtF w i < e)) (b := fun i q => decide (dst e (2 * wtF w i) < dst e (2 * wtF w q))) (n := j) (by grind) hb (by grind)] at ih; first | exact ih | exact EV_ls (by repeat (first | exact lsub_0 | refine lsub_n ?_ | refine lsub_s ?_)) ih) | (rw [bst_2 (c := fun i => decide (w (42 + i) = h) && (mvL w (w (10 + i))).isNone && decide (wtF w i ≠ 0) && decide (wtF w i < e)) (b := fun i q => decide (dst e (2 * wtF w i) < dst e (2 * wtF w q))) (n := j) (by grind) hb (by grind)] at ih; first | exact ih | exact EV_ls (by repeat (first | exact lsub_0 | refine lsub_n ?_ | refine lsub_s ?_)) ih)
        · try first | contradiction | omega
          all_goals
            refine e_aload_n dX11_spanToMove_39 rfl rfl ?_
            refine e_iload dX11_spanToMove_40 rfl ?_
            refine x_V1 (M' := mX11_moveOfSpan) dX11_spanToMove_42 ml_X11_79 ok_X11_moveOfSpan (by decide) rfl im_X11_moveOfSpan se_X11_moveOfSpan (ct_X11_moveOfSpan ‹_› ‹_› (by omega)) (Nat.le_of_ble_eq_true rfl) (by decide) (Nat.le_of_ble_eq_true rfl) ?_
            rw [hmv]
            refine e_iconst (v := -1) dX11_spanToMove_45 rfl ?_
            first | ((with_reducible refine mk_mo ?_); refine p_icmp_ne (tgt := 106) dX11_spanToMove_46 (by decide) (fun h46 => ?_) (fun h46 => ?_)) | ((with_reducible refine mk_ms ?_); refine s_icmp_ne (tgt := 106) dX11_spanToMove_46 (by decide) (by omega) (fun h46 => ?_) (fun h46 => ?_)) | ((with_reducible refine mk_mn ?_); refine q_icmp_ne (tgt := 106) dX11_spanToMove_46 (by decide) (by omega) (fun h46 => ?_) (fun h46 => ?_)) | ((with_reducible refine mk_nn ?_); refine n_icmp_ne (tgt := 106) dX11_spanToMove_46 (by decide) (by omega) (by omega) (fun h46 => ?_) (fun h46 => ?_)) | refine e_icmp_ne (tgt := 106) dX11_spanToMove_46 (by decide) (fun h46 => ?_) (fun h46 => ?_)
            · try first | contradiction | omega
              all_goals
                first | refine n_inc dX11_spanToMove_106 rfl (Nat.le_of_ble_eq_true rfl) rfl ?_ | refine e_iinc dX11_spanToMove_106 rfl rfl (Nat.le_of_ble_eq_true rfl) rfl ?_
                refine e_goto (tgt := 6) dX11_spanToMove_109 (by decide) ?_
                first | (rw [bst_f (c := fun i => decide (w (42 + i) = h) && (mvL w (w (10 + i))).isNone && decide (wtF w i ≠ 0) && decide (wtF w i < e)) (b := fun i q => decide (dst e (2 * wtF w i) < dst e (2 * wtF w q))) (n := j) (by grind), hb] at ih; first | exact ih | exact EV_ls (by repeat (first | exact lsub_0 | refine lsub_n ?_ | refine lsub_s ?_)) ih) | (rw [bst_0 (c := fun i => decide (w (42 + i) = h) && (mvL w (w (10 + i))).isNone && decide (wtF w i ≠ 0) && decide (wtF w i < e)) (b := fun i q => decide (dst e (2 * wtF w i) < dst e (2 * wtF w q))) (n := j) (by grind) hb] at ih; first | exact ih | exact EV_ls (by repeat (first | exact lsub_0 | refine lsub_n ?_ | refine lsub_s ?_)) ih) | (rw [bst_1 (c := fun i => decide (w (42 + i) = h) && (mvL w (w (10 + i))).isNone && decide (wtF w i ≠ 0) && decide (wtF w i < e)) (b := fun i q => decide (dst e (2 * wtF w i) < dst e (2 * wtF w q))) (n := j) (by grind) hb (by grind)] at ih; first | exact ih | exact EV_ls (by repeat (first | exact lsub_0 | refine lsub_n ?_ | refine lsub_s ?_)) ih) | (rw [bst_2 (c := fun i => decide (w (42 + i) = h) && (mvL w (w (10 + i))).isNone && decide (wtF w i ≠ 0) && decide (wtF w i < e)) (b := fun i q => decide (dst e (2 * wtF w i) < dst e (2 * wtF w q))) (n := j) (by grind) hb (by grind)] at ih; first | exact ih | exact EV_ls (by repeat (first | exact lsub_0 | refine lsub_n ?_ | refine lsub_s ?_)) ih)
            · try first | contradiction | omega
              all_goals
                refine e_lload dX11_spanToMove_49 rfl ?_
                refine e_lconst (v := lN 0) dX11_spanToMove_51 rfl ?_
                refine e_lcmp dX11_spanToMove_52 ?_
                first | ((with_reducible refine mk_b ?_); refine b_if_eq (tgt := 106) dX11_spanToMove_53 (by decide) (fun h53 => ?_) (fun h53 => ?_)) | ((with_reducible refine mk_ll ?_); refine m_if_eq (tgt := 106) dX11_spanToMove_53 (by decide) (by omega) (by omega) (fun h53 => ?_) (fun h53 => ?_)) | ((with_reducible refine mk_lc ?_); refine l_if_eq (tgt := 106) dX11_spanToMove_53 (by decide) (fun h53 => ?_) (fun h53 => ?_)) | ((with_reducible refine mk_n ?_); refine n_if_eq (tgt := 106) dX11_spanToMove_53 (by decide) (by omega) (fun h53 => ?_) (fun h53 => ?_)) | refine e_if_eq (tgt := 106) dX11_spanToMove_53 (by decide) (fun h53 => ?_) (fun h53 => ?_)
                · try first | contradiction | omega
                  all_goals
                    first | refine n_inc dX11_spanToMove_106 rfl (Nat.le_of_ble_eq_true rfl) rfl ?_ | refine e_iinc dX11_spanToMove_106 rfl rfl (Nat.le_of_ble_eq_true rfl) rfl ?_
                    refine e_goto (tgt := 6) dX11_spanToMove_109 (by decide) ?_
                    first | (rw [bst_f (c := fun i => decide (w (42 + i) = h) && (mvL w (w (10 + i))).isNone && decide (wtF w i ≠ 0) && decide (wtF w i < e)) (b := fun i q => decide (dst e (2 * wtF w i) < dst e (2 * wtF w q))) (n := j) (by grind), hb] at ih; first | exact ih | exact EV_ls (by repeat (first | exact lsub_0 | refine lsub_n ?_ | refine lsub_s ?_)) ih) | (rw [bst_0 (c := fun i => decide (w (42 + i) = h) && (mvL w (w (10 + i))).isNone && decide (wtF w i ≠ 0) && decide (wtF w i < e)) (b := fun i q => decide (dst e (2 * wtF w i) < dst e (2 * wtF w q))) (n := j) (by grind) hb] at ih; first | exact ih | exact EV_ls (by repeat (first | exact lsub_0 | refine lsub_n ?_ | refine lsub_s ?_)) ih) | (rw [bst_1 (c := fun i => decide (w (42 + i) = h) && (mvL w (w (10 + i))).isNone && decide (wtF w i ≠ 0) && decide (wtF w i < e)) (b := fun i q => decide (dst e (2 * wtF w i) < dst e (2 * wtF w q))) (n := j) (by grind) hb (by grind)] at ih; first | exact ih | exact EV_ls (by repeat (first | exact lsub_0 | refine lsub_n ?_ | refine lsub_s ?_)) ih) | (rw [bst_2 (c := fun i => decide (w (42 + i) = h) && (mvL w (w (10 + i))).isNone && decide (wtF w i ≠ 0) && decide (wtF w i < e)) (b := fun i q => decide (dst e (2 * wtF w i) < dst e (2 * wtF w q))) (n := j) (by grind) hb (by grind)] at ih; first | exact ih | exact EV_ls (by repeat (first | exact lsub_0 | refine lsub_n ?_ | refine lsub_s ?_)) ih)
                · try first | contradiction | omega
                  all_goals
                    refine e_lload dX11_spanToMove_56 rfl ?_
                    refine e_lload_n dX11_spanToMove_58 rfl rfl ?_
                    refine e_lcmp dX11_spanToMove_59 ?_
                    first | ((with_reducible refine mk_ll ?_); refine m_if_lt (tgt := 66) dX11_spanToMove_60 (by decide) (by omega) (by omega) (fun h60 => ?_) (fun h60 => ?_)) | ((with_reducible refine mk_lc ?_); refine l_if_lt (tgt := 66) dX11_spanToMove_60 (by decide) (fun h60 => ?_) (fun h60 => ?_)) | ((with_reducible refine mk_n ?_); refine n_if_lt (tgt := 66) dX11_spanToMove_60 (by decide) (by omega) (fun h60 => ?_) (fun h60 => ?_)) | refine e_if_lt (tgt := 66) dX11_spanToMove_60 (by decide) (fun h60 => ?_) (fun h60 => ?_)
                    · try first | contradiction | omega
                      all_goals
                        refine e_iload dX11_spanToMove_66 rfl ?_
                        refine e_iconst (v := -1) dX11_spanToMove_68 rfl ?_
                        first | ((with_reducible refine mk_mo ?_); refine p_icmp_eq (tgt := 102) dX11_spanToMove_69 (by decide) (fun h69 => ?_) (fun h69 => ?_)) | ((with_reducible refine mk_ms ?_); refine s_icmp_eq (tgt := 102) dX11_spanToMove_69 (by decide) (by omega) (fun h69 => ?_) (fun h69 => ?_)) | ((with_reducible refine mk_mn ?_); refine q_icmp_eq (tgt := 102) dX11_spanToMove_69 (by decide) (by omega) (fun h69 => ?_) (fun h69 => ?_)) | ((with_reducible refine mk_nn ?_); refine n_icmp_eq (tgt := 102) dX11_spanToMove_69 (by decide) (by omega) (by omega) (fun h69 => ?_) (fun h69 => ?_)) | refine e_icmp_eq (tgt := 102) dX11_spanToMove_69 (by decide) (fun h69 => ?_) (fun h69 => ?_)
                        · try first | contradiction | omega
                          all_goals
                            refine e_iload dX11_spanToMove_102 rfl ?_
                            refine e_istore dX11_spanToMove_104 (Nat.le_of_ble_eq_true rfl) rfl ?_
                            first | refine n_inc dX11_spanToMove_106 rfl (Nat.le_of_ble_eq_true rfl) rfl ?_ | refine e_iinc dX11_spanToMove_106 rfl rfl (Nat.le_of_ble_eq_true rfl) rfl ?_
                            refine e_goto (tgt := 6) dX11_spanToMove_109 (by decide) ?_
                            first | (rw [bst_f (c := fun i => decide (w (42 + i) = h) && (mvL w (w (10 + i))).isNone && decide (wtF w i ≠ 0) && decide (wtF w i < e)) (b := fun i q => decide (dst e (2 * wtF w i) < dst e (2 * wtF w q))) (n := j) (by grind), hb] at ih; first | exact ih | exact EV_ls (by repeat (first | exact lsub_0 | refine lsub_n ?_ | refine lsub_s ?_)) ih) | (rw [bst_0 (c := fun i => decide (w (42 + i) = h) && (mvL w (w (10 + i))).isNone && decide (wtF w i ≠ 0) && decide (wtF w i < e)) (b := fun i q => decide (dst e (2 * wtF w i) < dst e (2 * wtF w q))) (n := j) (by grind) hb] at ih; first | exact ih | exact EV_ls (by repeat (first | exact lsub_0 | refine lsub_n ?_ | refine lsub_s ?_)) ih) | (rw [bst_1 (c := fun i => decide (w (42 + i) = h) && (mvL w (w (10 + i))).isNone && decide (wtF w i ≠ 0) && decide (wtF w i < e)) (b := fun i q => decide (dst e (2 * wtF w i) < dst e (2 * wtF w q))) (n := j) (by grind) hb (by grind)] at ih; first | exact ih | exact EV_ls (by repeat (first | exact lsub_0 | refine lsub_n ?_ | refine lsub_s ?_)) ih) | (rw [bst_2 (c := fun i => decide (w (42 + i) = h) && (mvL w (w (10 + i))).isNone && decide (wtF w i ≠ 0) && decide (wtF w i < e)) (b := fun i q => decide (dst e (2 * wtF w i) < dst e (2 * wtF w q))) (n := j) (by grind) hb (by grind)] at ih; first | exact ih | exact EV_ls (by repeat (first | exact lsub_0 | refine lsub_n ?_ | refine lsub_s ?_)) ih)
                        · try first | contradiction | omega
                          all_goals
                            refine e_lload_n dX11_spanToMove_72 rfl rfl ?_
                            refine e_ldc2 dX11_spanToMove_73 co_X11_77 ?_
                            refine e_lload dX11_spanToMove_76 rfl ?_
                            first | ((with_reducible refine mk_LL ?_); refine n_lmul dX11_spanToMove_78 ?_) | refine e_lmul dX11_spanToMove_78 ?_
                            first | ((with_reducible refine mk_LL ?_); refine n_lsub dX11_spanToMove_79 (by omega) ?_) | refine e_lsub dX11_spanToMove_79 ?_
                            refine x_S1 (M' := mX11_size) dX11_spanToMove_80 ml_X11_361 ok_X11_size rfl sc_X11_size (ct_sizeN (by omega) (by omega)) (Nat.le_of_ble_eq_true rfl) (by decide) (Nat.le_of_ble_eq_true rfl) ?_
                            refine e_lload_n dX11_spanToMove_83 rfl rfl ?_
                            refine e_ldc2 dX11_spanToMove_84 co_X11_77 ?_
                            refine e_aload_n dX11_spanToMove_87 rfl rfl ?_
                            refine e_iload dX11_spanToMove_88 rfl ?_
                            refine x_V1 (M' := mX11_weightOf) dX11_spanToMove_90 ml_X11_73 ok_X11_weightOf (by decide) rfl im_X11_weightOf se_X11_weightOf (ct_X11_weightOf ‹_› ‹_› (by omega)) (Nat.le_of_ble_eq_true rfl) (by decide) (Nat.le_of_ble_eq_true rfl) ?_
                            first | ((with_reducible refine mk_LL ?_); refine n_lmul dX11_spanToMove_93 ?_) | refine e_lmul dX11_spanToMove_93 ?_
                            first | ((with_reducible refine mk_LL ?_); refine n_lsub dX11_spanToMove_94 (by omega) ?_) | refine e_lsub dX11_spanToMove_94 ?_
                            refine x_S1 (M' := mX11_size) dX11_spanToMove_95 ml_X11_361 ok_X11_size rfl sc_X11_size (ct_sizeN (by omega) (by omega)) (Nat.le_of_ble_eq_true rfl) (by decide) (Nat.le_of_ble_eq_true rfl) ?_
                            refine e_lcmp dX11_spanToMove_98 ?_
                            first | ((with_reducible refine mk_ll ?_); refine m_if_ge (tgt := 106) dX11_spanToMove_99 (by decide) (by omega) (by omega) (fun h99 => ?_) (fun h99 => ?_)) | ((with_reducible refine mk_lc ?_); refine l_if_ge (tgt := 106) dX11_spanToMove_99 (by decide) (fun h99 => ?_) (fun h99 => ?_)) | ((with_reducible refine mk_n ?_); refine n_if_ge (tgt := 106) dX11_spanToMove_99 (by decide) (by omega) (fun h99 => ?_) (fun h99 => ?_)) | refine e_if_ge (tgt := 106) dX11_spanToMove_99 (by decide) (fun h99 => ?_) (fun h99 => ?_)
                            · try first | contradiction | omega
                              all_goals
                                first | refine n_inc dX11_spanToMove_106 rfl (Nat.le_of_ble_eq_true rfl) rfl ?_ | refine e_iinc dX11_spanToMove_106 rfl rfl (Nat.le_of_ble_eq_true rfl) rfl ?_
                                refine e_goto (tgt := 6) dX11_spanToMove_109 (by decide) ?_
                                first | (rw [bst_f (c := fun i => decide (w (42 + i) = h) && (mvL w (w (10 + i))).isNone && decide (wtF w i ≠ 0) && decide (wtF w i < e)) (b := fun i q => decide (dst e (2 * wtF w i) < dst e (2 * wtF w q))) (n := j) (by grind), hb] at ih; first | exact ih | exact EV_ls (by repeat (first | exact lsub_0 | refine lsub_n ?_ | refine lsub_s ?_)) ih) | (rw [bst_0 (c := fun i => decide (w (42 + i) = h) && (mvL w (w (10 + i))).isNone && decide (wtF w i ≠ 0) && decide (wtF w i < e)) (b := fun i q => decide (dst e (2 * wtF w i) < dst e (2 * wtF w q))) (n := j) (by grind) hb] at ih; first | exact ih | exact EV_ls (by repeat (first | exact lsub_0 | refine lsub_n ?_ | refine lsub_s ?_)) ih) | (rw [bst_1 (c := fun i => decide (w (42 + i) = h) && (mvL w (w (10 + i))).isNone && decide (wtF w i ≠ 0) && decide (wtF w i < e)) (b := fun i q => decide (dst e (2 * wtF w i) < dst e (2 * wtF w q))) (n := j) (by grind) hb (by grind)] at ih; first | exact ih | exact EV_ls (by repeat (first | exact lsub_0 | refine lsub_n ?_ | refine lsub_s ?_)) ih) | (rw [bst_2 (c := fun i => decide (w (42 + i) = h) && (mvL w (w (10 + i))).isNone && decide (wtF w i ≠ 0) && decide (wtF w i < e)) (b := fun i q => decide (dst e (2 * wtF w i) < dst e (2 * wtF w q))) (n := j) (by grind) hb (by grind)] at ih; first | exact ih | exact EV_ls (by repeat (first | exact lsub_0 | refine lsub_n ?_ | refine lsub_s ?_)) ih)
                            · try first | contradiction | omega
                              all_goals
                                refine e_iload dX11_spanToMove_102 rfl ?_
                                refine e_istore dX11_spanToMove_104 (Nat.le_of_ble_eq_true rfl) rfl ?_
                                first | refine n_inc dX11_spanToMove_106 rfl (Nat.le_of_ble_eq_true rfl) rfl ?_ | refine e_iinc dX11_spanToMove_106 rfl rfl (Nat.le_of_ble_eq_true rfl) rfl ?_
                                refine e_goto (tgt := 6) dX11_spanToMove_109 (by decide) ?_
                                first | (rw [bst_f (c := fun i => decide (w (42 + i) = h) && (mvL w (w (10 + i))).isNone && decide (wtF w i ≠ 0) && decide (wtF w i < e)) (b := fun i q => decide (dst e (2 * wtF w i) < dst e (2 * wtF w q))) (n := j) (by grind), hb] at ih; first | exact ih | exact EV_ls (by repeat (first | exact lsub_0 | refine lsub_n ?_ | refine lsub_s ?_)) ih) | (rw [bst_0 (c := fun i => decide (w (42 + i) = h) && (mvL w (w (10 + i))).isNone && decide (wtF w i ≠ 0) && decide (wtF w i < e)) (b := fun i q => decide (dst e (2 * wtF w i) < dst e (2 * wtF w q))) (n := j) (by grind) hb] at ih; first | exact ih | exact EV_ls (by repeat (first | exact lsub_0 | refine lsub_n ?_ | refine lsub_s ?_)) ih) | (rw [bst_1 (c := fun i => decide (w (42 + i) = h) && (mvL w (w (10 + i))).isNone && decide (wtF w i ≠ 0) && decide (wtF w i < e)) (b := fun i q => decide (dst e (2 * wtF w i) < dst e (2 * wtF w q))) (n := j) (by grind) hb (by grind)] at ih; first | exact ih | exact EV_ls (by repeat (first | exact lsub_0 | refine lsub_n ?_ | refine lsub_s ?_)) ih) | (rw [bst_2 (c := fun i => decide (w (42 + i) = h) && (mvL w (w (10 + i))).isNone && decide (wtF w i ≠ 0) && decide (wtF w i < e)) (b := fun i q => decide (dst e (2 * wtF w i) < dst e (2 * wtF w q))) (n := j) (by grind) hb (by grind)] at ih; first | exact ih | exact EV_ls (by repeat (first | exact lsub_0 | refine lsub_n ?_ | refine lsub_s ?_)) ih)
                    · try first | contradiction | omega
                      all_goals
                        refine e_goto (tgt := 106) dX11_spanToMove_63 (by decide) ?_
                        first | refine n_inc dX11_spanToMove_106 rfl (Nat.le_of_ble_eq_true rfl) rfl ?_ | refine e_iinc dX11_spanToMove_106 rfl rfl (Nat.le_of_ble_eq_true rfl) rfl ?_
                        refine e_goto (tgt := 6) dX11_spanToMove_109 (by decide) ?_
                        first | (rw [bst_f (c := fun i => decide (w (42 + i) = h) && (mvL w (w (10 + i))).isNone && decide (wtF w i ≠ 0) && decide (wtF w i < e)) (b := fun i q => decide (dst e (2 * wtF w i) < dst e (2 * wtF w q))) (n := j) (by grind), hb] at ih; first | exact ih | exact EV_ls (by repeat (first | exact lsub_0 | refine lsub_n ?_ | refine lsub_s ?_)) ih) | (rw [bst_0 (c := fun i => decide (w (42 + i) = h) && (mvL w (w (10 + i))).isNone && decide (wtF w i ≠ 0) && decide (wtF w i < e)) (b := fun i q => decide (dst e (2 * wtF w i) < dst e (2 * wtF w q))) (n := j) (by grind) hb] at ih; first | exact ih | exact EV_ls (by repeat (first | exact lsub_0 | refine lsub_n ?_ | refine lsub_s ?_)) ih) | (rw [bst_1 (c := fun i => decide (w (42 + i) = h) && (mvL w (w (10 + i))).isNone && decide (wtF w i ≠ 0) && decide (wtF w i < e)) (b := fun i q => decide (dst e (2 * wtF w i) < dst e (2 * wtF w q))) (n := j) (by grind) hb (by grind)] at ih; first | exact ih | exact EV_ls (by repeat (first | exact lsub_0 | refine lsub_n ?_ | refine lsub_s ?_)) ih) | (rw [bst_2 (c := fun i => decide (w (42 + i) = h) && (mvL w (w (10 + i))).isNone && decide (wtF w i ≠ 0) && decide (wtF w i < e)) (b := fun i q => decide (dst e (2 * wtF w i) < dst e (2 * wtF w q))) (n := j) (by grind) hb (by grind)] at ih; first | exact ih | exact EV_ls (by repeat (first | exact lsub_0 | refine lsub_n ?_ | refine lsub_s ?_)) ih)
    )
  refine e_iconst (v := -1) dX11_spanToMove_0 rfl ?_
  refine e_istore dX11_spanToMove_1 (Nat.le_of_ble_eq_true rfl) rfl ?_
  refine e_iconst (v := nI 0) dX11_spanToMove_3 rfl ?_
  refine e_istore dX11_spanToMove_4 (Nat.le_of_ble_eq_true rfl) rfl ?_
  exact key 0 (by omega)
theorem ct_X11_spanToSplit {fi : FI} {fr : FR} {ai : FI} {ar : FR} {N : Nat} {w : Nat → Nat} (sm : SM fr) (iv : Inv w) {h : Nat} (hh : h < 6) : CP mX11_spanToSplit 3 0 0 [.ref (rf 11 80), .int (nI h)] fi fr (mW ai w) ar N (xQ (some (.int (oI (ssO w h)))) fi fr (mW ai w) ar N) := by
  obtain ⟨sW, sA, sK, sU, sC, sKC, sT, sCl⟩ := id sm
  have h1 := iv_n iv
  have h3 := iv_mm iv
  by_cases hsz : ¬ w 1 < 32
  · have e : ssO w h = none := by unfold ssO; rw [if_neg hsz]
    rw [e]
    change EV mX11_spanToSplit 3 0 0 0 [some (.ref (rf 11 80)), some (.int (nI h)), none, none] [] fi fr (mW ai w) ar N _
    refine e_iconst (v := -1) dX11_spanToSplit_0 rfl ?_
    refine e_istore_n dX11_spanToSplit_1 rfl (Nat.le_of_ble_eq_true rfl) rfl ?_
    refine e_iconst (v := nI 0) dX11_spanToSplit_2 rfl ?_
    refine e_istore_n dX11_spanToSplit_3 rfl (Nat.le_of_ble_eq_true rfl) rfl ?_
    refine e_iload_n dX11_spanToSplit_4 rfl rfl ?_
    refine e_aload_n dX11_spanToSplit_5 rfl rfl ?_
    refine e_getR dX11_spanToSplit_6 fl_X11_7 rfl (by assumption) ?_
    refine e_iconst (v := nI 1) dX11_spanToSplit_9 rfl ?_
    first | ((with_reducible refine mk_ldw ?_); refine e_ldw dX11_spanToSplit_10 (by omega) ?_) | refine e_iald _ dX11_spanToSplit_10 ⟨by decide, by decide⟩ rfl rfl (by simp only [lenK]; omega) ?_
    first | ((with_reducible refine mk_nn ?_); refine n_icmp_ge (tgt := 86) dX11_spanToSplit_11 (by decide) (by omega) (by omega) (fun h11 => ?_) (fun h11 => ?_)) | refine e_icmp_ge (tgt := 86) dX11_spanToSplit_11 (by decide) (fun h11 => ?_) (fun h11 => ?_)
    · try first | contradiction | omega
      all_goals
        refine e_iload_n dX11_spanToSplit_86 rfl rfl ?_
        refine e_ret (some _) rfl (r_int dX11_spanToSplit_87 rfl) ?_
        exact xq (by first | rfl | simp_all [bI_t, bI_f]) rfl rfl rfl rfl rfl
    · try first | contradiction | omega
      all_goals
        refine e_aload_n dX11_spanToSplit_14 rfl rfl ?_
        refine e_getR dX11_spanToSplit_15 fl_X11_7 rfl (by assumption) ?_
        refine e_iconst (v := nI 1) dX11_spanToSplit_18 rfl ?_
        first | ((with_reducible refine mk_ldw ?_); refine e_ldw dX11_spanToSplit_19 (by omega) ?_) | refine e_iald _ dX11_spanToSplit_19 ⟨by decide, by decide⟩ rfl rfl (by simp only [lenK]; omega) ?_
        refine e_bipush (v := nI 32) dX11_spanToSplit_20 rfl ?_
        first | ((with_reducible refine mk_nn ?_); refine n_icmp_ge (tgt := 86) dX11_spanToSplit_22 (by decide) (by omega) (by omega) (fun h22 => ?_) (fun h22 => ?_)) | refine e_icmp_ge (tgt := 86) dX11_spanToSplit_22 (by decide) (fun h22 => ?_) (fun h22 => ?_)
        · try first | contradiction | omega
          all_goals
            refine e_iload_n dX11_spanToSplit_86 rfl rfl ?_
            refine e_ret (some _) rfl (r_int dX11_spanToSplit_87 rfl) ?_
            exact xq (by first | rfl | simp_all [bI_t, bI_f]) rfl rfl rfl rfl rfl
        · try first | contradiction | omega
          all_goals
            refine e_aload_n dX11_spanToSplit_25 rfl rfl ?_
            refine e_getR dX11_spanToSplit_26 fl_X11_7 rfl (by assumption) ?_
            refine e_bipush (v := nI 42) dX11_spanToSplit_29 rfl ?_
            refine e_iload_n dX11_spanToSplit_31 rfl rfl ?_
            first | ((with_reducible refine mk_nn ?_); refine n_iadd dX11_spanToSplit_32 ?_) | refine e_iadd dX11_spanToSplit_32 ?_
            first | ((with_reducible refine mk_ldw ?_); refine e_ldw dX11_spanToSplit_33 (by omega) ?_) | refine e_iald _ dX11_spanToSplit_33 ⟨by decide, by decide⟩ rfl rfl (by simp only [lenK]; omega) ?_
            refine e_iload_n dX11_spanToSplit_34 rfl rfl ?_
            first | ((with_reducible refine mk_mo ?_); refine p_icmp_ne (tgt := 80) dX11_spanToSplit_35 (by decide) (fun h35 => ?_) (fun h35 => ?_)) | ((with_reducible refine mk_ms ?_); refine s_icmp_ne (tgt := 80) dX11_spanToSplit_35 (by decide) (by omega) (fun h35 => ?_) (fun h35 => ?_)) | ((with_reducible refine mk_mn ?_); refine q_icmp_ne (tgt := 80) dX11_spanToSplit_35 (by decide) (by omega) (fun h35 => ?_) (fun h35 => ?_)) | ((with_reducible refine mk_nn ?_); refine n_icmp_ne (tgt := 80) dX11_spanToSplit_35 (by decide) (by omega) (by omega) (fun h35 => ?_) (fun h35 => ?_)) | refine e_icmp_ne (tgt := 80) dX11_spanToSplit_35 (by decide) (fun h35 => ?_) (fun h35 => ?_)
            · try first | contradiction | omega
              all_goals
                omega
            · try first | contradiction | omega
              all_goals
                refine e_aload_n dX11_spanToSplit_38 rfl rfl ?_
                refine e_iload_n dX11_spanToSplit_39 rfl rfl ?_
                refine x_V1 (M' := mX11_moveOfSpan) dX11_spanToSplit_40 ml_X11_79 ok_X11_moveOfSpan (by decide) rfl im_X11_moveOfSpan se_X11_moveOfSpan (ct_X11_moveOfSpan ‹_› ‹_› (by omega)) (Nat.le_of_ble_eq_true rfl) (by decide) (Nat.le_of_ble_eq_true rfl) ?_
                refine e_iconst (v := -1) dX11_spanToSplit_43 rfl ?_
                first | ((with_reducible refine mk_mo ?_); refine p_icmp_ne (tgt := 80) dX11_spanToSplit_44 (by decide) (fun h44 => ?_) (fun h44 => ?_)) | ((with_reducible refine mk_ms ?_); refine s_icmp_ne (tgt := 80) dX11_spanToSplit_44 (by decide) (by omega) (fun h44 => ?_) (fun h44 => ?_)) | ((with_reducible refine mk_mn ?_); refine q_icmp_ne (tgt := 80) dX11_spanToSplit_44 (by decide) (by omega) (fun h44 => ?_) (fun h44 => ?_)) | ((with_reducible refine mk_nn ?_); refine n_icmp_ne (tgt := 80) dX11_spanToSplit_44 (by decide) (by omega) (by omega) (fun h44 => ?_) (fun h44 => ?_)) | refine e_icmp_ne (tgt := 80) dX11_spanToSplit_44 (by decide) (fun h44 => ?_) (fun h44 => ?_)
                · try first | contradiction | omega
                  all_goals
                    omega
                · try first | contradiction | omega
                  all_goals
                    refine e_aload_n dX11_spanToSplit_47 rfl rfl ?_
                    refine e_iload_n dX11_spanToSplit_48 rfl rfl ?_
                    refine x_V1 (M' := mX11_middleIn) dX11_spanToSplit_49 ml_X11_107 ok_X11_middleIn (by decide) rfl im_X11_middleIn se_X11_middleIn (ct_X11_middleIn ‹_› ‹_› (by omega)) (Nat.le_of_ble_eq_true rfl) (by decide) (Nat.le_of_ble_eq_true rfl) ?_
                    refine e_iconst (v := -1) dX11_spanToSplit_52 rfl ?_
                    first | ((with_reducible refine mk_mo ?_); refine p_icmp_ne (tgt := 59) dX11_spanToSplit_53 (by decide) (fun h53 => ?_) (fun h53 => ?_)) | ((with_reducible refine mk_ms ?_); refine s_icmp_ne (tgt := 59) dX11_spanToSplit_53 (by decide) (by omega) (fun h53 => ?_) (fun h53 => ?_)) | ((with_reducible refine mk_mn ?_); refine q_icmp_ne (tgt := 59) dX11_spanToSplit_53 (by decide) (by omega) (fun h53 => ?_) (fun h53 => ?_)) | ((with_reducible refine mk_nn ?_); refine n_icmp_ne (tgt := 59) dX11_spanToSplit_53 (by decide) (by omega) (by omega) (fun h53 => ?_) (fun h53 => ?_)) | refine e_icmp_ne (tgt := 59) dX11_spanToSplit_53 (by decide) (fun h53 => ?_) (fun h53 => ?_)
                    · try first | contradiction | omega
                      all_goals
                        refine e_iload_n dX11_spanToSplit_59 rfl rfl ?_
                        refine e_iconst (v := -1) dX11_spanToSplit_60 rfl ?_
                        first | ((with_reducible refine mk_mo ?_); refine p_icmp_eq (tgt := 78) dX11_spanToSplit_61 (by decide) (fun h61 => ?_) (fun h61 => ?_)) | ((with_reducible refine mk_ms ?_); refine s_icmp_eq (tgt := 78) dX11_spanToSplit_61 (by decide) (by omega) (fun h61 => ?_) (fun h61 => ?_)) | ((with_reducible refine mk_mn ?_); refine q_icmp_eq (tgt := 78) dX11_spanToSplit_61 (by decide) (by omega) (fun h61 => ?_) (fun h61 => ?_)) | ((with_reducible refine mk_nn ?_); refine n_icmp_eq (tgt := 78) dX11_spanToSplit_61 (by decide) (by omega) (by omega) (fun h61 => ?_) (fun h61 => ?_)) | refine e_icmp_eq (tgt := 78) dX11_spanToSplit_61 (by decide) (fun h61 => ?_) (fun h61 => ?_)
                        · try first | contradiction | omega
                          all_goals
                            refine e_iload_n dX11_spanToSplit_78 rfl rfl ?_
                            refine e_istore_n dX11_spanToSplit_79 rfl (Nat.le_of_ble_eq_true rfl) rfl ?_
                            omega
                        · try first | contradiction | omega
                          all_goals
                            refine e_aload_n dX11_spanToSplit_64 rfl rfl ?_
                            refine e_iload_n dX11_spanToSplit_65 rfl rfl ?_
                            refine x_V1 (M' := mX11_weightOf) dX11_spanToSplit_66 ml_X11_73 ok_X11_weightOf (by decide) rfl im_X11_weightOf se_X11_weightOf (ct_X11_weightOf ‹_› ‹_› (by omega)) (Nat.le_of_ble_eq_true rfl) (by decide) (Nat.le_of_ble_eq_true rfl) ?_
                            refine e_aload_n dX11_spanToSplit_69 rfl rfl ?_
                            refine e_iload_n dX11_spanToSplit_70 rfl rfl ?_
                            refine x_V1 (M' := mX11_weightOf) dX11_spanToSplit_71 ml_X11_73 ok_X11_weightOf (by decide) rfl im_X11_weightOf se_X11_weightOf (ct_X11_weightOf ‹_› ‹_› (by omega)) (Nat.le_of_ble_eq_true rfl) (by decide) (Nat.le_of_ble_eq_true rfl) ?_
                            refine e_lcmp dX11_spanToSplit_74 ?_
                            first | ((with_reducible refine mk_ll ?_); refine m_if_le (tgt := 80) dX11_spanToSplit_75 (by decide) (by omega) (by omega) (fun h75 => ?_) (fun h75 => ?_)) | ((with_reducible refine mk_lc ?_); refine l_if_le (tgt := 80) dX11_spanToSplit_75 (by decide) (fun h75 => ?_) (fun h75 => ?_)) | ((with_reducible refine mk_n ?_); refine n_if_le (tgt := 80) dX11_spanToSplit_75 (by decide) (by omega) (fun h75 => ?_) (fun h75 => ?_)) | refine e_if_le (tgt := 80) dX11_spanToSplit_75 (by decide) (fun h75 => ?_) (fun h75 => ?_)
                            · try first | contradiction | omega
                              all_goals
                                omega
                            · try first | contradiction | omega
                              all_goals
                                refine e_iload_n dX11_spanToSplit_78 rfl rfl ?_
                                refine e_istore_n dX11_spanToSplit_79 rfl (Nat.le_of_ble_eq_true rfl) rfl ?_
                                omega
                    · try first | contradiction | omega
                      all_goals
                        refine e_goto (tgt := 80) dX11_spanToSplit_56 (by decide) ?_
                        omega
  change EV mX11_spanToSplit 3 0 0 0 [some (.ref (rf 11 80)), some (.int (nI h)), none, none] [] fi fr (mW ai w) ar N (xQ (some (.int (oI (ssO w h)))) fi fr (mW ai w) ar N)
  have key := ev_up (P := (fun j => EV mX11_spanToSplit 3 0 0 4 [some (.ref (rf 11 80)), some (.int (nI h)), some (.int (oI (bst (fun i => decide (w (42 + i) = h) && (mvL w (w (10 + i))).isNone && (mdO w i).isSome) (fun i q => decide (wtF w q < wtF w i)) j))), some (.int (nI j))] [] fi fr (mW ai w) ar N (xQ (some (.int (oI (ssO w h)))) fi fr (mW ai w) ar N))) (w 1) (fun j hj ih => by
    have ho := iv_own iv hj
    have hw := wtF_le iv hj
    cases hmv : mvL w (w (10 + j)) with
    | none =>
      cases hmd : mdO w j with
      | none =>
        cases hb : bst (fun i => decide (w (42 + i) = h) && (mvL w (w (10 + i))).isNone && (mdO w i).isSome) (fun i q => decide (wtF w q < wtF w i)) j with
        | none =>
          refine e_iload_n dX11_spanToSplit_4 rfl rfl ?_
          refine e_aload_n dX11_spanToSplit_5 rfl rfl ?_
          refine e_getR dX11_spanToSplit_6 fl_X11_7 rfl (by assumption) ?_
          refine e_iconst (v := nI 1) dX11_spanToSplit_9 rfl ?_
          first | ((with_reducible refine mk_ldw ?_); refine e_ldw dX11_spanToSplit_10 (by omega) ?_) | refine e_iald _ dX11_spanToSplit_10 ⟨by decide, by decide⟩ rfl rfl (by simp only [lenK]; omega) ?_
          first | ((with_reducible refine mk_nn ?_); refine n_icmp_ge (tgt := 86) dX11_spanToSplit_11 (by decide) (by omega) (by omega) (fun h11 => ?_) (fun h11 => ?_)) | refine e_icmp_ge (tgt := 86) dX11_spanToSplit_11 (by decide) (fun h11 => ?_) (fun h11 => ?_)
          · try first | contradiction | omega
            all_goals
              refine e_iload_n dX11_spanToSplit_86 rfl rfl ?_
              refine e_ret (some _) rfl (r_int dX11_spanToSplit_87 rfl) ?_
              exact xq (by first | rfl | simp_all [bI_t, bI_f]) rfl rfl rfl rfl rfl
          · try first | contradiction | omega
            all_goals
              refine e_aload_n dX11_spanToSplit_14 rfl rfl ?_
              refine e_getR dX11_spanToSplit_15 fl_X11_7 rfl (by assumption) ?_
              refine e_iconst (v := nI 1) dX11_spanToSplit_18 rfl ?_
              first | ((with_reducible refine mk_ldw ?_); refine e_ldw dX11_spanToSplit_19 (by omega) ?_) | refine e_iald _ dX11_spanToSplit_19 ⟨by decide, by decide⟩ rfl rfl (by simp only [lenK]; omega) ?_
              refine e_bipush (v := nI 32) dX11_spanToSplit_20 rfl ?_
              first | ((with_reducible refine mk_nn ?_); refine n_icmp_ge (tgt := 86) dX11_spanToSplit_22 (by decide) (by omega) (by omega) (fun h22 => ?_) (fun h22 => ?_)) | refine e_icmp_ge (tgt := 86) dX11_spanToSplit_22 (by decide) (fun h22 => ?_) (fun h22 => ?_)
              · try first | contradiction | omega
                all_goals
                  refine e_iload_n dX11_spanToSplit_86 rfl rfl ?_
                  refine e_ret (some _) rfl (r_int dX11_spanToSplit_87 rfl) ?_
                  exact xq (by first | rfl | simp_all [bI_t, bI_f]) rfl rfl rfl rfl rfl
              · try first | contradiction | omega
                all_goals
                  refine e_aload_n dX11_spanToSplit_25 rfl rfl ?_
                  refine e_getR dX11_spanToSplit_26 fl_X11_7 rfl (by assumption) ?_
                  refine e_bipush (v := nI 42) dX11_spanToSplit_29 rfl ?_
                  refine e_iload_n dX11_spanToSplit_31 rfl rfl ?_
                  first | ((with_reducible refine mk_nn ?_); refine n_iadd dX11_spanToSplit_32 ?_) | refine e_iadd dX11_spanToSplit_32 ?_
                  first | ((with_reducible refine mk_ldw ?_); refine e_ldw dX11_spanToSplit_33 (by omega) ?_) | refine e_iald _ dX11_spanToSplit_33 ⟨by decide, by decide⟩ rfl rfl (by simp only [lenK]; omega) ?_
                  refine e_iload_n dX11_spanToSplit_34 rfl rfl ?_
                  first | ((with_reducible refine mk_mo ?_); refine p_icmp_ne (tgt := 80) dX11_spanToSplit_35 (by decide) (fun h35 => ?_) (fun h35 => ?_)) | ((with_reducible refine mk_ms ?_); refine s_icmp_ne (tgt := 80) dX11_spanToSplit_35 (by decide) (by omega) (fun h35 => ?_) (fun h35 => ?_)) | ((with_reducible refine mk_mn ?_); refine q_icmp_ne (tgt := 80) dX11_spanToSplit_35 (by decide) (by omega) (fun h35 => ?_) (fun h35 => ?_)) | ((with_reducible refine mk_nn ?_); refine n_icmp_ne (tgt := 80) dX11_spanToSplit_35 (by decide) (by omega) (by omega) (fun h35 => ?_) (fun h35 => ?_)) | refine e_icmp_ne (tgt := 80) dX11_spanToSplit_35 (by decide) (fun h35 => ?_) (fun h35 => ?_)
                  · try first | contradiction | omega
                    all_goals
                      first | refine n_inc dX11_spanToSplit_80 rfl (Nat.le_of_ble_eq_true rfl) rfl ?_ | refine e_iinc dX11_spanToSplit_80 rfl rfl (Nat.le_of_ble_eq_true rfl) rfl ?_
                      refine e_goto (tgt := 4) dX11_spanToSplit_83 (by decide) ?_
                      first | (rw [bst_f (c := fun i => decide (w (42 + i) = h) && (mvL w (w (10 + i))).isNone && (mdO w i).isSome) (b := fun i q => decide (wtF w q < wtF w i)) (n := j) (by grind), hb] at ih; first | exact ih | exact EV_ls (by repeat (first | exact lsub_0 | refine lsub_n ?_ | refine lsub_s ?_)) ih) | (rw [bst_0 (c := fun i => decide (w (42 + i) = h) && (mvL w (w (10 + i))).isNone && (mdO w i).isSome) (b := fun i q => decide (wtF w q < wtF w i)) (n := j) (by grind) hb] at ih; first | exact ih | exact EV_ls (by repeat (first | exact lsub_0 | refine lsub_n ?_ | refine lsub_s ?_)) ih)
                  · try first | contradiction | omega
                    all_goals
                      refine e_aload_n dX11_spanToSplit_38 rfl rfl ?_
                      refine e_iload_n dX11_spanToSplit_39 rfl rfl ?_
                      refine x_V1 (M' := mX11_moveOfSpan) dX11_spanToSplit_40 ml_X11_79 ok_X11_moveOfSpan (by decide) rfl im_X11_moveOfSpan se_X11_moveOfSpan (ct_X11_moveOfSpan ‹_› ‹_› (by omega)) (Nat.le_of_ble_eq_true rfl) (by decide) (Nat.le_of_ble_eq_true rfl) ?_
                      rw [hmv]
                      refine e_iconst (v := -1) dX11_spanToSplit_43 rfl ?_
                      first | ((with_reducible refine mk_mo ?_); refine p_icmp_ne (tgt := 80) dX11_spanToSplit_44 (by decide) (fun h44 => ?_) (fun h44 => ?_)) | ((with_reducible refine mk_ms ?_); refine s_icmp_ne (tgt := 80) dX11_spanToSplit_44 (by decide) (by omega) (fun h44 => ?_) (fun h44 => ?_)) | ((with_reducible refine mk_mn ?_); refine q_icmp_ne (tgt := 80) dX11_spanToSplit_44 (by decide) (by omega) (fun h44 => ?_) (fun h44 => ?_)) | ((with_reducible refine mk_nn ?_); refine n_icmp_ne (tgt := 80) dX11_spanToSplit_44 (by decide) (by omega) (by omega) (fun h44 => ?_) (fun h44 => ?_)) | refine e_icmp_ne (tgt := 80) dX11_spanToSplit_44 (by decide) (fun h44 => ?_) (fun h44 => ?_)
                      · try first | contradiction | omega
                        all_goals
                          first | refine n_inc dX11_spanToSplit_80 rfl (Nat.le_of_ble_eq_true rfl) rfl ?_ | refine e_iinc dX11_spanToSplit_80 rfl rfl (Nat.le_of_ble_eq_true rfl) rfl ?_
                          refine e_goto (tgt := 4) dX11_spanToSplit_83 (by decide) ?_
                          first | (rw [bst_f (c := fun i => decide (w (42 + i) = h) && (mvL w (w (10 + i))).isNone && (mdO w i).isSome) (b := fun i q => decide (wtF w q < wtF w i)) (n := j) (by grind), hb] at ih; first | exact ih | exact EV_ls (by repeat (first | exact lsub_0 | refine lsub_n ?_ | refine lsub_s ?_)) ih) | (rw [bst_0 (c := fun i => decide (w (42 + i) = h) && (mvL w (w (10 + i))).isNone && (mdO w i).isSome) (b := fun i q => decide (wtF w q < wtF w i)) (n := j) (by grind) hb] at ih; first | exact ih | exact EV_ls (by repeat (first | exact lsub_0 | refine lsub_n ?_ | refine lsub_s ?_)) ih)
                      · try first | contradiction | omega
                        all_goals
                          refine e_aload_n dX11_spanToSplit_47 rfl rfl ?_
                          refine e_iload_n dX11_spanToSplit_48 rfl rfl ?_
                          refine x_V1 (M' := mX11_middleIn) dX11_spanToSplit_49 ml_X11_107 ok_X11_middleIn (by decide) rfl im_X11_middleIn se_X11_middleIn (ct_X11_middleIn ‹_› ‹_› (by omega)) (Nat.le_of_ble_eq_true rfl) (by decide) (Nat.le_of_ble_eq_true rfl) ?_
                          rw [hmd]
                          refine e_iconst (v := -1) dX11_spanToSplit_52 rfl ?_
                          first | ((with_reducible refine mk_mo ?_); refine p_icmp_ne (tgt := 59) dX11_spanToSplit_53 (by decide) (fun h53 => ?_) (fun h53 => ?_)) | ((with_reducible refine mk_ms ?_); refine s_icmp_ne (tgt := 59) dX11_spanToSplit_53 (by decide) (by omega) (fun h53 => ?_) (fun h53 => ?_)) | ((with_reducible refine mk_mn ?_); refine q_icmp_ne (tgt := 59) dX11_spanToSplit_53 (by decide) (by omega) (fun h53 => ?_) (fun h53 => ?_)) | ((with_reducible refine mk_nn ?_); refine n_icmp_ne (tgt := 59) dX11_spanToSplit_53 (by decide) (by omega) (by omega) (fun h53 => ?_) (fun h53 => ?_)) | refine e_icmp_ne (tgt := 59) dX11_spanToSplit_53 (by decide) (fun h53 => ?_) (fun h53 => ?_)
                          · try first | contradiction | omega
                            all_goals
                              refine e_iload_n dX11_spanToSplit_59 rfl rfl ?_
                              refine e_iconst (v := -1) dX11_spanToSplit_60 rfl ?_
                              first | ((with_reducible refine mk_mo ?_); refine p_icmp_eq (tgt := 78) dX11_spanToSplit_61 (by decide) (fun h61 => ?_) (fun h61 => ?_)) | ((with_reducible refine mk_ms ?_); refine s_icmp_eq (tgt := 78) dX11_spanToSplit_61 (by decide) (by omega) (fun h61 => ?_) (fun h61 => ?_)) | ((with_reducible refine mk_mn ?_); refine q_icmp_eq (tgt := 78) dX11_spanToSplit_61 (by decide) (by omega) (fun h61 => ?_) (fun h61 => ?_)) | ((with_reducible refine mk_nn ?_); refine n_icmp_eq (tgt := 78) dX11_spanToSplit_61 (by decide) (by omega) (by omega) (fun h61 => ?_) (fun h61 => ?_)) | refine e_icmp_eq (tgt := 78) dX11_spanToSplit_61 (by decide) (fun h61 => ?_) (fun h61 => ?_)
                              · try first | contradiction | omega
                                all_goals
                                  refine e_iload_n dX11_spanToSplit_78 rfl rfl ?_
                                  refine e_istore_n dX11_spanToSplit_79 rfl (Nat.le_of_ble_eq_true rfl) rfl ?_
                                  first | refine n_inc dX11_spanToSplit_80 rfl (Nat.le_of_ble_eq_true rfl) rfl ?_ | refine e_iinc dX11_spanToSplit_80 rfl rfl (Nat.le_of_ble_eq_true rfl) rfl ?_
                                  refine e_goto (tgt := 4) dX11_spanToSplit_83 (by decide) ?_
                                  first | (rw [bst_f (c := fun i => decide (w (42 + i) = h) && (mvL w (w (10 + i))).isNone && (mdO w i).isSome) (b := fun i q => decide (wtF w q < wtF w i)) (n := j) (by grind), hb] at ih; first | exact ih | exact EV_ls (by repeat (first | exact lsub_0 | refine lsub_n ?_ | refine lsub_s ?_)) ih) | (rw [bst_0 (c := fun i => decide (w (42 + i) = h) && (mvL w (w (10 + i))).isNone && (mdO w i).isSome) (b := fun i q => decide (wtF w q < wtF w i)) (n := j) (by grind) hb] at ih; first | exact ih | exact EV_ls (by repeat (first | exact lsub_0 | refine lsub_n ?_ | refine lsub_s ?_)) ih)
                              · try first | contradiction | omega
                                all_goals
                                  refine e_aload_n dX11_spanToSplit_64 rfl rfl ?_
                                  refine e_iload_n dX11_spanToSplit_65 rfl rfl ?_
                                  refine x_V1 (M' := mX11_weightOf) dX11_spanToSplit_66 ml_X11_73 ok_X11_weightOf (by decide) rfl im_X11_weightOf se_X11_weightOf (ct_X11_weightOf ‹_› ‹_› (by omega)) (Nat.le_of_ble_eq_true rfl) (by decide) (Nat.le_of_ble_eq_true rfl) ?_
                                  refine e_aload_n dX11_spanToSplit_69 rfl rfl ?_
                                  refine e_iload_n dX11_spanToSplit_70 rfl rfl ?_
                                  refine x_V1 (M' := mX11_weightOf) dX11_spanToSplit_71 ml_X11_73 ok_X11_weightOf (by decide) rfl im_X11_weightOf se_X11_weightOf (ct_X11_weightOf ‹_› ‹_› (by omega)) (Nat.le_of_ble_eq_true rfl) (by decide) (Nat.le_of_ble_eq_true rfl) ?_
                                  refine e_lcmp dX11_spanToSplit_74 ?_
                                  first | ((with_reducible refine mk_ll ?_); refine m_if_le (tgt := 80) dX11_spanToSplit_75 (by decide) (by omega) (by omega) (fun h75 => ?_) (fun h75 => ?_)) | ((with_reducible refine mk_lc ?_); refine l_if_le (tgt := 80) dX11_spanToSplit_75 (by decide) (fun h75 => ?_) (fun h75 => ?_)) | ((with_reducible refine mk_n ?_); refine n_if_le (tgt := 80) dX11_spanToSplit_75 (by decide) (by omega) (fun h75 => ?_) (fun h75 => ?_)) | refine e_if_le (tgt := 80) dX11_spanToSplit_75 (by decide) (fun h75 => ?_) (fun h75 => ?_)
                                  · try first | contradiction | omega
                                    all_goals
                                      first | refine n_inc dX11_spanToSplit_80 rfl (Nat.le_of_ble_eq_true rfl) rfl ?_ | refine e_iinc dX11_spanToSplit_80 rfl rfl (Nat.le_of_ble_eq_true rfl) rfl ?_
                                      refine e_goto (tgt := 4) dX11_spanToSplit_83 (by decide) ?_
                                      first | (rw [bst_f (c := fun i => decide (w (42 + i) = h) && (mvL w (w (10 + i))).isNone && (mdO w i).isSome) (b := fun i q => decide (wtF w q < wtF w i)) (n := j) (by grind), hb] at ih; first | exact ih | exact EV_ls (by repeat (first | exact lsub_0 | refine lsub_n ?_ | refine lsub_s ?_)) ih) | (rw [bst_0 (c := fun i => decide (w (42 + i) = h) && (mvL w (w (10 + i))).isNone && (mdO w i).isSome) (b := fun i q => decide (wtF w q < wtF w i)) (n := j) (by grind) hb] at ih; first | exact ih | exact EV_ls (by repeat (first | exact lsub_0 | refine lsub_n ?_ | refine lsub_s ?_)) ih)
                                  · try first | contradiction | omega
                                    all_goals
                                      refine e_iload_n dX11_spanToSplit_78 rfl rfl ?_
                                      refine e_istore_n dX11_spanToSplit_79 rfl (Nat.le_of_ble_eq_true rfl) rfl ?_
                                      first | refine n_inc dX11_spanToSplit_80 rfl (Nat.le_of_ble_eq_true rfl) rfl ?_ | refine e_iinc dX11_spanToSplit_80 rfl rfl (Nat.le_of_ble_eq_true rfl) rfl ?_
                                      refine e_goto (tgt := 4) dX11_spanToSplit_83 (by decide) ?_
                                      first | (rw [bst_f (c := fun i => decide (w (42 + i) = h) && (mvL w (w (10 + i))).isNone && (mdO w i).isSome) (b := fun i q => decide (wtF w q < wtF w i)) (n := j) (by grind), hb] at ih; first | exact ih | exact EV_ls (by repeat (first | exact lsub_0 | refine lsub_n ?_ | refine lsub_s ?_)) ih) | (rw [bst_0 (c := fun i => decide (w (42 + i) = h) && (mvL w (w (10 + i))).isNone && (mdO w i).isSome) (b := fun i q => decide (wtF w q < wtF w i)) (n := j) (by grind) hb] at ih; first | exact ih | exact EV_ls (by repeat (first | exact lsub_0 | refine lsub_n ?_ | refine lsub_s ?_)) ih)
                          · try first | contradiction | omega
                            all_goals
                              refine e_goto (tgt := 80) dX11_spanToSplit_56 (by decide) ?_
                              first | refine n_inc dX11_spanToSplit_80 rfl (Nat.le_of_ble_eq_true rfl) rfl ?_ | refine e_iinc dX11_spanToSplit_80 rfl rfl (Nat.le_of_ble_eq_true rfl) rfl ?_
                              refine e_goto (tgt := 4) dX11_spanToSplit_83 (by decide) ?_
                              first | (rw [bst_f (c := fun i => decide (w (42 + i) = h) && (mvL w (w (10 + i))).isNone && (mdO w i).isSome) (b := fun i q => decide (wtF w q < wtF w i)) (n := j) (by grind), hb] at ih; first | exact ih | exact EV_ls (by repeat (first | exact lsub_0 | refine lsub_n ?_ | refine lsub_s ?_)) ih) | (rw [bst_0 (c := fun i => decide (w (42 + i) = h) && (mvL w (w (10 + i))).isNone && (mdO w i).isSome) (b := fun i q => decide (wtF w q < wtF w i)) (n := j) (by grind) hb] at ih; first | exact ih | exact EV_ls (by repeat (first | exact lsub_0 | refine lsub_n ?_ | refine lsub_s ?_)) ih)
        | some q =>
          have hq := (bst_in hb).1
          have hqc := (bst_in hb).2
          rw [oI_s]
          have hw2 := wtF_le iv (i := q) (by omega)
          refine e_iload_n dX11_spanToSplit_4 rfl rfl ?_
          refine e_aload_n dX11_spanToSplit_5 rfl rfl ?_
          refine e_getR dX11_spanToSplit_6 fl_X11_7 rfl (by assumption) ?_
          refine e_iconst (v := nI 1) dX11_spanToSplit_9 rfl ?_
          first | ((with_reducible refine mk_ldw ?_); refine e_ldw dX11_spanToSplit_10 (by omega) ?_) | refine e_iald _ dX11_spanToSplit_10 ⟨by decide, by decide⟩ rfl rfl (by simp only [lenK]; omega) ?_
          first | ((with_reducible refine mk_nn ?_); refine n_icmp_ge (tgt := 86) dX11_spanToSplit_11 (by decide) (by omega) (by omega) (fun h11 => ?_) (fun h11 => ?_)) | refine e_icmp_ge (tgt := 86) dX11_spanToSplit_11 (by decide) (fun h11 => ?_) (fun h11 => ?_)
          · try first | contradiction | omega
            all_goals
              refine e_iload_n dX11_spanToSplit_86 rfl rfl ?_
              refine e_ret (some _) rfl (r_int dX11_spanToSplit_87 rfl) ?_
              exact xq (by first | rfl | simp_all [bI_t, bI_f]) rfl rfl rfl rfl rfl
          · try first | contradiction | omega
            all_goals
              refine e_aload_n dX11_spanToSplit_14 rfl rfl ?_
              refine e_getR dX11_spanToSplit_15 fl_X11_7 rfl (by assumption) ?_
              refine e_iconst (v := nI 1) dX11_spanToSplit_18 rfl ?_
              first | ((with_reducible refine mk_ldw ?_); refine e_ldw dX11_spanToSplit_19 (by omega) ?_) | refine e_iald _ dX11_spanToSplit_19 ⟨by decide, by decide⟩ rfl rfl (by simp only [lenK]; omega) ?_
              refine e_bipush (v := nI 32) dX11_spanToSplit_20 rfl ?_
              first | ((with_reducible refine mk_nn ?_); refine n_icmp_ge (tgt := 86) dX11_spanToSplit_22 (by decide) (by omega) (by omega) (fun h22 => ?_) (fun h22 => ?_)) | refine e_icmp_ge (tgt := 86) dX11_spanToSplit_22 (by decide) (fun h22 => ?_) (fun h22 => ?_)
              · try first | contradiction | omega
                all_goals
                  refine e_iload_n dX11_spanToSplit_86 rfl rfl ?_
                  refine e_ret (some _) rfl (r_int dX11_spanToSplit_87 rfl) ?_
                  exact xq (by first | rfl | simp_all [bI_t, bI_f]) rfl rfl rfl rfl rfl
              · try first | contradiction | omega
                all_goals
                  refine e_aload_n dX11_spanToSplit_25 rfl rfl ?_
                  refine e_getR dX11_spanToSplit_26 fl_X11_7 rfl (by assumption) ?_
                  refine e_bipush (v := nI 42) dX11_spanToSplit_29 rfl ?_
                  refine e_iload_n dX11_spanToSplit_31 rfl rfl ?_
                  first | ((with_reducible refine mk_nn ?_); refine n_iadd dX11_spanToSplit_32 ?_) | refine e_iadd dX11_spanToSplit_32 ?_
                  first | ((with_reducible refine mk_ldw ?_); refine e_ldw dX11_spanToSplit_33 (by omega) ?_) | refine e_iald _ dX11_spanToSplit_33 ⟨by decide, by decide⟩ rfl rfl (by simp only [lenK]; omega) ?_
                  refine e_iload_n dX11_spanToSplit_34 rfl rfl ?_
                  first | ((with_reducible refine mk_mo ?_); refine p_icmp_ne (tgt := 80) dX11_spanToSplit_35 (by decide) (fun h35 => ?_) (fun h35 => ?_)) | ((with_reducible refine mk_ms ?_); refine s_icmp_ne (tgt := 80) dX11_spanToSplit_35 (by decide) (by omega) (fun h35 => ?_) (fun h35 => ?_)) | ((with_reducible refine mk_mn ?_); refine q_icmp_ne (tgt := 80) dX11_spanToSplit_35 (by decide) (by omega) (fun h35 => ?_) (fun h35 => ?_)) | ((with_reducible refine mk_nn ?_); refine n_icmp_ne (tgt := 80) dX11_spanToSplit_35 (by decide) (by omega) (by omega) (fun h35 => ?_) (fun h35 => ?_)) | refine e_icmp_ne (tgt := 80) dX11_spanToSplit_35 (by decide) (fun h35 => ?_) (fun h35 => ?_)
                  · try first | contradiction | omega
                    all_goals
                      first | refine n_inc dX11_spanToSplit_80 rfl (Nat.le_of_ble_eq_true rfl) rfl ?_ | refine e_iinc dX11_spanToSplit_80 rfl rfl (Nat.le_of_ble_eq_true rfl) rfl ?_
                      refine e_goto (tgt := 4) dX11_spanToSplit_83 (by decide) ?_
                      first | (rw [bst_f (c := fun i => decide (w (42 + i) = h) && (mvL w (w (10 + i))).isNone && (mdO w i).isSome) (b := fun i q => decide (wtF w q < wtF w i)) (n := j) (by grind), hb] at ih; first | exact ih | exact EV_ls (by repeat (first | exact lsub_0 | refine lsub_n ?_ | refine lsub_s ?_)) ih) | (rw [bst_0 (c := fun i => decide (w (42 + i) = h) && (mvL w (w (10 + i))).isNone && (mdO w i).isSome) (b := fun i q => decide (wtF w q < wtF w i)) (n := j) (by grind) hb] at ih; first | exact ih | exact EV_ls (by repeat (first | exact lsub_0 | refine lsub_n ?_ | refine lsub_s ?_)) ih) | (rw [bst_1 (c := fun i => decide (w (42 + i) = h) && (mvL w (w (10 + i))).isNone && (mdO w i).isSome) (b := fun i q => decide (wtF w q < wtF w i)) (n := j) (by grind) hb (by grind)] at ih; first | exact ih | exact EV_ls (by repeat (first | exact lsub_0 | refine lsub_n ?_ | refine lsub_s ?_)) ih) | (rw [bst_2 (c := fun i => decide (w (42 + i) = h) && (mvL w (w (10 + i))).isNone && (mdO w i).isSome) (b := fun i q => decide (wtF w q < wtF w i)) (n := j) (by grind) hb (by grind)] at ih; first | exact ih | exact EV_ls (by repeat (first | exact lsub_0 | refine lsub_n ?_ | refine lsub_s ?_)) ih)
                  · try first | contradiction | omega
                    all_goals
                      refine e_aload_n dX11_spanToSplit_38 rfl rfl ?_
                      refine e_iload_n dX11_spanToSplit_39 rfl rfl ?_
                      refine x_V1 (M' := mX11_moveOfSpan) dX11_spanToSplit_40 ml_X11_79 ok_X11_moveOfSpan (by decide) rfl im_X11_moveOfSpan se_X11_moveOfSpan (ct_X11_moveOfSpan ‹_› ‹_› (by omega)) (Nat.le_of_ble_eq_true rfl) (by decide) (Nat.le_of_ble_eq_true rfl) ?_
                      rw [hmv]
                      refine e_iconst (v := -1) dX11_spanToSplit_43 rfl ?_
                      first | ((with_reducible refine mk_mo ?_); refine p_icmp_ne (tgt := 80) dX11_spanToSplit_44 (by decide) (fun h44 => ?_) (fun h44 => ?_)) | ((with_reducible refine mk_ms ?_); refine s_icmp_ne (tgt := 80) dX11_spanToSplit_44 (by decide) (by omega) (fun h44 => ?_) (fun h44 => ?_)) | ((with_reducible refine mk_mn ?_); refine q_icmp_ne (tgt := 80) dX11_spanToSplit_44 (by decide) (by omega) (fun h44 => ?_) (fun h44 => ?_)) | ((with_reducible refine mk_nn ?_); refine n_icmp_ne (tgt := 80) dX11_spanToSplit_44 (by decide) (by omega) (by omega) (fun h44 => ?_) (fun h44 => ?_)) | refine e_icmp_ne (tgt := 80) dX11_spanToSplit_44 (by decide) (fun h44 => ?_) (fun h44 => ?_)
                      · try first | contradiction | omega
                        all_goals
                          first | refine n_inc dX11_spanToSplit_80 rfl (Nat.le_of_ble_eq_true rfl) rfl ?_ | refine e_iinc dX11_spanToSplit_80 rfl rfl (Nat.le_of_ble_eq_true rfl) rfl ?_
                          refine e_goto (tgt := 4) dX11_spanToSplit_83 (by decide) ?_
                          first | (rw [bst_f (c := fun i => decide (w (42 + i) = h) && (mvL w (w (10 + i))).isNone && (mdO w i).isSome) (b := fun i q => decide (wtF w q < wtF w i)) (n := j) (by grind), hb] at ih; first | exact ih | exact EV_ls (by repeat (first | exact lsub_0 | refine lsub_n ?_ | refine lsub_s ?_)) ih) | (rw [bst_0 (c := fun i => decide (w (42 + i) = h) && (mvL w (w (10 + i))).isNone && (mdO w i).isSome) (b := fun i q => decide (wtF w q < wtF w i)) (n := j) (by grind) hb] at ih; first | exact ih | exact EV_ls (by repeat (first | exact lsub_0 | refine lsub_n ?_ | refine lsub_s ?_)) ih) | (rw [bst_1 (c := fun i => decide (w (42 + i) = h) && (mvL w (w (10 + i))).isNone && (mdO w i).isSome) (b := fun i q => decide (wtF w q < wtF w i)) (n := j) (by grind) hb (by grind)] at ih; first | exact ih | exact EV_ls (by repeat (first | exact lsub_0 | refine lsub_n ?_ | refine lsub_s ?_)) ih) | (rw [bst_2 (c := fun i => decide (w (42 + i) = h) && (mvL w (w (10 + i))).isNone && (mdO w i).isSome) (b := fun i q => decide (wtF w q < wtF w i)) (n := j) (by grind) hb (by grind)] at ih; first | exact ih | exact EV_ls (by repeat (first | exact lsub_0 | refine lsub_n ?_ | refine lsub_s ?_)) ih)
                      · try first | contradiction | omega
                        all_goals
                          refine e_aload_n dX11_spanToSplit_47 rfl rfl ?_
                          refine e_iload_n dX11_spanToSplit_48 rfl rfl ?_
                          refine x_V1 (M' := mX11_middleIn) dX11_spanToSplit_49 ml_X11_107 ok_X11_middleIn (by decide) rfl im_X11_middleIn se_X11_middleIn (ct_X11_middleIn ‹_› ‹_› (by omega)) (Nat.le_of_ble_eq_true rfl) (by decide) (Nat.le_of_ble_eq_true rfl) ?_
                          rw [hmd]
                          refine e_iconst (v := -1) dX11_spanToSplit_52 rfl ?_
                          first | ((with_reducible refine mk_mo ?_); refine p_icmp_ne (tgt := 59) dX11_spanToSplit_53 (by decide) (fun h53 => ?_) (fun h53 => ?_)) | ((with_reducible refine mk_ms ?_); refine s_icmp_ne (tgt := 59) dX11_spanToSplit_53 (by decide) (by omega) (fun h53 => ?_) (fun h53 => ?_)) | ((with_reducible refine mk_mn ?_); refine q_icmp_ne (tgt := 59) dX11_spanToSplit_53 (by decide) (by omega) (fun h53 => ?_) (fun h53 => ?_)) | ((with_reducible refine mk_nn ?_); refine n_icmp_ne (tgt := 59) dX11_spanToSplit_53 (by decide) (by omega) (by omega) (fun h53 => ?_) (fun h53 => ?_)) | refine e_icmp_ne (tgt := 59) dX11_spanToSplit_53 (by decide) (fun h53 => ?_) (fun h53 => ?_)
                          · try first | contradiction | omega
                            all_goals
                              refine e_iload_n dX11_spanToSplit_59 rfl rfl ?_
                              refine e_iconst (v := -1) dX11_spanToSplit_60 rfl ?_
                              first | ((with_reducible refine mk_mo ?_); refine p_icmp_eq (tgt := 78) dX11_spanToSplit_61 (by decide) (fun h61 => ?_) (fun h61 => ?_)) | ((with_reducible refine mk_ms ?_); refine s_icmp_eq (tgt := 78) dX11_spanToSplit_61 (by decide) (by omega) (fun h61 => ?_) (fun h61 => ?_)) | ((with_reducible refine mk_mn ?_); refine q_icmp_eq (tgt := 78) dX11_spanToSplit_61 (by decide) (by omega) (fun h61 => ?_) (fun h61 => ?_)) | ((with_reducible refine mk_nn ?_); refine n_icmp_eq (tgt := 78) dX11_spanToSplit_61 (by decide) (by omega) (by omega) (fun h61 => ?_) (fun h61 => ?_)) | refine e_icmp_eq (tgt := 78) dX11_spanToSplit_61 (by decide) (fun h61 => ?_) (fun h61 => ?_)
                              · try first | contradiction | omega
                                all_goals
                                  refine e_iload_n dX11_spanToSplit_78 rfl rfl ?_
                                  refine e_istore_n dX11_spanToSplit_79 rfl (Nat.le_of_ble_eq_true rfl) rfl ?_
                                  first | refine n_inc dX11_spanToSplit_80 rfl (Nat.le_of_ble_eq_true rfl) rfl ?_ | refine e_iinc dX11_spanToSplit_80 rfl rfl (Nat.le_of_ble_eq_true rfl) rfl ?_
                                  refine e_goto (tgt := 4) dX11_spanToSplit_83 (by decide) ?_
                                  first | (rw [bst_f (c := fun i => decide (w (42 + i) = h) && (mvL w (w (10 + i))).isNone && (mdO w i).isSome) (b := fun i q => decide (wtF w q < wtF w i)) (n := j) (by grind), hb] at ih; first | exact ih | exact EV_ls (by repeat (first | exact lsub_0 | refine lsub_n ?_ | refine lsub_s ?_)) ih) | (rw [bst_0 (c := fun i => decide (w (42 + i) = h) && (mvL w (w (10 + i))).isNone && (mdO w i).isSome) (b := fun i q => decide (wtF w q < wtF w i)) (n := j) (by grind) hb] at ih; first | exact ih | exact EV_ls (by repeat (first | exact lsub_0 | refine lsub_n ?_ | refine lsub_s ?_)) ih) | (rw [bst_1 (c := fun i => decide (w (42 + i) = h) && (mvL w (w (10 + i))).isNone && (mdO w i).isSome) (b := fun i q => decide (wtF w q < wtF w i)) (n := j) (by grind) hb (by grind)] at ih; first | exact ih | exact EV_ls (by repeat (first | exact lsub_0 | refine lsub_n ?_ | refine lsub_s ?_)) ih) | (rw [bst_2 (c := fun i => decide (w (42 + i) = h) && (mvL w (w (10 + i))).isNone && (mdO w i).isSome) (b := fun i q => decide (wtF w q < wtF w i)) (n := j) (by grind) hb (by grind)] at ih; first | exact ih | exact EV_ls (by repeat (first | exact lsub_0 | refine lsub_n ?_ | refine lsub_s ?_)) ih)
                              · try first | contradiction | omega
                                all_goals
                                  refine e_aload_n dX11_spanToSplit_64 rfl rfl ?_
                                  refine e_iload_n dX11_spanToSplit_65 rfl rfl ?_
                                  refine x_V1 (M' := mX11_weightOf) dX11_spanToSplit_66 ml_X11_73 ok_X11_weightOf (by decide) rfl im_X11_weightOf se_X11_weightOf (ct_X11_weightOf ‹_› ‹_› (by omega)) (Nat.le_of_ble_eq_true rfl) (by decide) (Nat.le_of_ble_eq_true rfl) ?_
                                  refine e_aload_n dX11_spanToSplit_69 rfl rfl ?_
                                  refine e_iload_n dX11_spanToSplit_70 rfl rfl ?_
                                  refine x_V1 (M' := mX11_weightOf) dX11_spanToSplit_71 ml_X11_73 ok_X11_weightOf (by decide) rfl im_X11_weightOf se_X11_weightOf (ct_X11_weightOf ‹_› ‹_› (by omega)) (Nat.le_of_ble_eq_true rfl) (by decide) (Nat.le_of_ble_eq_true rfl) ?_
                                  refine e_lcmp dX11_spanToSplit_74 ?_
                                  first | ((with_reducible refine mk_ll ?_); refine m_if_le (tgt := 80) dX11_spanToSplit_75 (by decide) (by omega) (by omega) (fun h75 => ?_) (fun h75 => ?_)) | ((with_reducible refine mk_lc ?_); refine l_if_le (tgt := 80) dX11_spanToSplit_75 (by decide) (fun h75 => ?_) (fun h75 => ?_)) | ((with_reducible refine mk_n ?_); refine n_if_le (tgt := 80) dX11_spanToSplit_75 (by decide) (by omega) (fun h75 => ?_) (fun h75 => ?_)) | refine e_if_le (tgt := 80) dX11_spanToSplit_75 (by decide) (fun h75 => ?_) (fun h75 => ?_)
                                  · try first | contradiction | omega
                                    all_goals
                                      first | refine n_inc dX11_spanToSplit_80 rfl (Nat.le_of_ble_eq_true rfl) rfl ?_ | refine e_iinc dX11_spanToSplit_80 rfl rfl (Nat.le_of_ble_eq_true rfl) rfl ?_
                                      refine e_goto (tgt := 4) dX11_spanToSplit_83 (by decide) ?_
                                      first | (rw [bst_f (c := fun i => decide (w (42 + i) = h) && (mvL w (w (10 + i))).isNone && (mdO w i).isSome) (b := fun i q => decide (wtF w q < wtF w i)) (n := j) (by grind), hb] at ih; first | exact ih | exact EV_ls (by repeat (first | exact lsub_0 | refine lsub_n ?_ | refine lsub_s ?_)) ih) | (rw [bst_0 (c := fun i => decide (w (42 + i) = h) && (mvL w (w (10 + i))).isNone && (mdO w i).isSome) (b := fun i q => decide (wtF w q < wtF w i)) (n := j) (by grind) hb] at ih; first | exact ih | exact EV_ls (by repeat (first | exact lsub_0 | refine lsub_n ?_ | refine lsub_s ?_)) ih) | (rw [bst_1 (c := fun i => decide (w (42 + i) = h) && (mvL w (w (10 + i))).isNone && (mdO w i).isSome) (b := fun i q => decide (wtF w q < wtF w i)) (n := j) (by grind) hb (by grind)] at ih; first | exact ih | exact EV_ls (by repeat (first | exact lsub_0 | refine lsub_n ?_ | refine lsub_s ?_)) ih) | (rw [bst_2 (c := fun i => decide (w (42 + i) = h) && (mvL w (w (10 + i))).isNone && (mdO w i).isSome) (b := fun i q => decide (wtF w q < wtF w i)) (n := j) (by grind) hb (by grind)] at ih; first | exact ih | exact EV_ls (by repeat (first | exact lsub_0 | refine lsub_n ?_ | refine lsub_s ?_)) ih)
                                  · try first | contradiction | omega
                                    all_goals
                                      refine e_iload_n dX11_spanToSplit_78 rfl rfl ?_
                                      refine e_istore_n dX11_spanToSplit_79 rfl (Nat.le_of_ble_eq_true rfl) rfl ?_
                                      first | refine n_inc dX11_spanToSplit_80 rfl (Nat.le_of_ble_eq_true rfl) rfl ?_ | refine e_iinc dX11_spanToSplit_80 rfl rfl (Nat.le_of_ble_eq_true rfl) rfl ?_
                                      refine e_goto (tgt := 4) dX11_spanToSplit_83 (by decide) ?_
                                      first | (rw [bst_f (c := fun i => decide (w (42 + i) = h) && (mvL w (w (10 + i))).isNone && (mdO w i).isSome) (b := fun i q => decide (wtF w q < wtF w i)) (n := j) (by grind), hb] at ih; first | exact ih | exact EV_ls (by repeat (first | exact lsub_0 | refine lsub_n ?_ | refine lsub_s ?_)) ih) | (rw [bst_0 (c := fun i => decide (w (42 + i) = h) && (mvL w (w (10 + i))).isNone && (mdO w i).isSome) (b := fun i q => decide (wtF w q < wtF w i)) (n := j) (by grind) hb] at ih; first | exact ih | exact EV_ls (by repeat (first | exact lsub_0 | refine lsub_n ?_ | refine lsub_s ?_)) ih) | (rw [bst_1 (c := fun i => decide (w (42 + i) = h) && (mvL w (w (10 + i))).isNone && (mdO w i).isSome) (b := fun i q => decide (wtF w q < wtF w i)) (n := j) (by grind) hb (by grind)] at ih; first | exact ih | exact EV_ls (by repeat (first | exact lsub_0 | refine lsub_n ?_ | refine lsub_s ?_)) ih) | (rw [bst_2 (c := fun i => decide (w (42 + i) = h) && (mvL w (w (10 + i))).isNone && (mdO w i).isSome) (b := fun i q => decide (wtF w q < wtF w i)) (n := j) (by grind) hb (by grind)] at ih; first | exact ih | exact EV_ls (by repeat (first | exact lsub_0 | refine lsub_n ?_ | refine lsub_s ?_)) ih)
                          · try first | contradiction | omega
                            all_goals
                              refine e_goto (tgt := 80) dX11_spanToSplit_56 (by decide) ?_
                              first | refine n_inc dX11_spanToSplit_80 rfl (Nat.le_of_ble_eq_true rfl) rfl ?_ | refine e_iinc dX11_spanToSplit_80 rfl rfl (Nat.le_of_ble_eq_true rfl) rfl ?_
                              refine e_goto (tgt := 4) dX11_spanToSplit_83 (by decide) ?_
                              first | (rw [bst_f (c := fun i => decide (w (42 + i) = h) && (mvL w (w (10 + i))).isNone && (mdO w i).isSome) (b := fun i q => decide (wtF w q < wtF w i)) (n := j) (by grind), hb] at ih; first | exact ih | exact EV_ls (by repeat (first | exact lsub_0 | refine lsub_n ?_ | refine lsub_s ?_)) ih) | (rw [bst_0 (c := fun i => decide (w (42 + i) = h) && (mvL w (w (10 + i))).isNone && (mdO w i).isSome) (b := fun i q => decide (wtF w q < wtF w i)) (n := j) (by grind) hb] at ih; first | exact ih | exact EV_ls (by repeat (first | exact lsub_0 | refine lsub_n ?_ | refine lsub_s ?_)) ih) | (rw [bst_1 (c := fun i => decide (w (42 + i) = h) && (mvL w (w (10 + i))).isNone && (mdO w i).isSome) (b := fun i q => decide (wtF w q < wtF w i)) (n := j) (by grind) hb (by grind)] at ih; first | exact ih | exact EV_ls (by repeat (first | exact lsub_0 | refine lsub_n ?_ | refine lsub_s ?_)) ih) | (rw [bst_2 (c := fun i => decide (w (42 + i) = h) && (mvL w (w (10 + i))).isNone && (mdO w i).isSome) (b := fun i q => decide (wtF w q < wtF w i)) (n := j) (by grind) hb (by grind)] at ih; first | exact ih | exact EV_ls (by repeat (first | exact lsub_0 | refine lsub_n ?_ | refine lsub_s ?_)) ih)
      | some kk =>
        have hkk : kk < 1000 := mdO_lt iv hj hmd
        cases hb : bst (fun i => decide (w (42 + i) = h) && (mvL w (w (10 + i))).isNone && (mdO w i).isSome) (fun i q => decide (wtF w q < wtF w i)) j with
        | none =>
          refine e_iload_n dX11_spanToSplit_4 rfl rfl ?_
          refine e_aload_n dX11_spanToSplit_5 rfl rfl ?_
          refine e_getR dX11_spanToSplit_6 fl_X11_7 rfl (by assumption) ?_
          refine e_iconst (v := nI 1) dX11_spanToSplit_9 rfl ?_
          first | ((with_reducible refine mk_ldw ?_); refine e_ldw dX11_spanToSplit_10 (by omega) ?_) | refine e_iald _ dX11_spanToSplit_10 ⟨by decide, by decide⟩ rfl rfl (by simp only [lenK]; omega) ?_
          first | ((with_reducible refine mk_nn ?_); refine n_icmp_ge (tgt := 86) dX11_spanToSplit_11 (by decide) (by omega) (by omega) (fun h11 => ?_) (fun h11 => ?_)) | refine e_icmp_ge (tgt := 86) dX11_spanToSplit_11 (by decide) (fun h11 => ?_) (fun h11 => ?_)
          · try first | contradiction | omega
            all_goals
              refine e_iload_n dX11_spanToSplit_86 rfl rfl ?_
              refine e_ret (some _) rfl (r_int dX11_spanToSplit_87 rfl) ?_
              exact xq (by first | rfl | simp_all [bI_t, bI_f]) rfl rfl rfl rfl rfl
          · try first | contradiction | omega
            all_goals
              refine e_aload_n dX11_spanToSplit_14 rfl rfl ?_
              refine e_getR dX11_spanToSplit_15 fl_X11_7 rfl (by assumption) ?_
              refine e_iconst (v := nI 1) dX11_spanToSplit_18 rfl ?_
              first | ((with_reducible refine mk_ldw ?_); refine e_ldw dX11_spanToSplit_19 (by omega) ?_) | refine e_iald _ dX11_spanToSplit_19 ⟨by decide, by decide⟩ rfl rfl (by simp only [lenK]; omega) ?_
              refine e_bipush (v := nI 32) dX11_spanToSplit_20 rfl ?_
              first | ((with_reducible refine mk_nn ?_); refine n_icmp_ge (tgt := 86) dX11_spanToSplit_22 (by decide) (by omega) (by omega) (fun h22 => ?_) (fun h22 => ?_)) | refine e_icmp_ge (tgt := 86) dX11_spanToSplit_22 (by decide) (fun h22 => ?_) (fun h22 => ?_)
              · try first | contradiction | omega
                all_goals
                  refine e_iload_n dX11_spanToSplit_86 rfl rfl ?_
                  refine e_ret (some _) rfl (r_int dX11_spanToSplit_87 rfl) ?_
                  exact xq (by first | rfl | simp_all [bI_t, bI_f]) rfl rfl rfl rfl rfl
              · try first | contradiction | omega
                all_goals
                  refine e_aload_n dX11_spanToSplit_25 rfl rfl ?_
                  refine e_getR dX11_spanToSplit_26 fl_X11_7 rfl (by assumption) ?_
                  refine e_bipush (v := nI 42) dX11_spanToSplit_29 rfl ?_
                  refine e_iload_n dX11_spanToSplit_31 rfl rfl ?_
                  first | ((with_reducible refine mk_nn ?_); refine n_iadd dX11_spanToSplit_32 ?_) | refine e_iadd dX11_spanToSplit_32 ?_
                  first | ((with_reducible refine mk_ldw ?_); refine e_ldw dX11_spanToSplit_33 (by omega) ?_) | refine e_iald _ dX11_spanToSplit_33 ⟨by decide, by decide⟩ rfl rfl (by simp only [lenK]; omega) ?_
                  refine e_iload_n dX11_spanToSplit_34 rfl rfl ?_
                  first | ((with_reducible refine mk_mo ?_); refine p_icmp_ne (tgt := 80) dX11_spanToSplit_35 (by decide) (fun h35 => ?_) (fun h35 => ?_)) | ((with_reducible refine mk_ms ?_); refine s_icmp_ne (tgt := 80) dX11_spanToSplit_35 (by decide) (by omega) (fun h35 => ?_) (fun h35 => ?_)) | ((with_reducible refine mk_mn ?_); refine q_icmp_ne (tgt := 80) dX11_spanToSplit_35 (by decide) (by omega) (fun h35 => ?_) (fun h35 => ?_)) | ((with_reducible refine mk_nn ?_); refine n_icmp_ne (tgt := 80) dX11_spanToSplit_35 (by decide) (by omega) (by omega) (fun h35 => ?_) (fun h35 => ?_)) | refine e_icmp_ne (tgt := 80) dX11_spanToSplit_35 (by decide) (fun h35 => ?_) (fun h35 => ?_)
                  · try first | contradiction | omega
                    all_goals
                      first | refine n_inc dX11_spanToSplit_80 rfl (Nat.le_of_ble_eq_true rfl) rfl ?_ | refine e_iinc dX11_spanToSplit_80 rfl rfl (Nat.le_of_ble_eq_true rfl) rfl ?_
                      refine e_goto (tgt := 4) dX11_spanToSplit_83 (by decide) ?_
                      first | (rw [bst_f (c := fun i => decide (w (42 + i) = h) && (mvL w (w (10 + i))).isNone && (mdO w i).isSome) (b := fun i q => decide (wtF w q < wtF w i)) (n := j) (by grind), hb] at ih; first | exact ih | exact EV_ls (by repeat (first | exact lsub_0 | refine lsub_n ?_ | refine lsub_s ?_)) ih) | (rw [bst_0 (c := fun i => decide (w (42 + i) = h) && (mvL w (w (10 + i))).isNone && (mdO w i).isSome) (b := fun i q => decide (wtF w q < wtF w i)) (n := j) (by grind) hb] at ih; first | exact ih | exact EV_ls (by repeat (first | exact lsub_0 | refine lsub_n ?_ | refine lsub_s ?_)) ih)
                  · try first | contradiction | omega
                    all_goals
                      refine e_aload_n dX11_spanToSplit_38 rfl rfl ?_
                      refine e_iload_n dX11_spanToSplit_39 rfl rfl ?_
                      refine x_V1 (M' := mX11_moveOfSpan) dX11_spanToSplit_40 ml_X11_79 ok_X11_moveOfSpan (by decide) rfl im_X11_moveOfSpan se_X11_moveOfSpan (ct_X11_moveOfSpan ‹_› ‹_› (by omega)) (Nat.le_of_ble_eq_true rfl) (by decide) (Nat.le_of_ble_eq_true rfl) ?_
                      rw [hmv]
                      refine e_iconst (v := -1) dX11_spanToSplit_43 rfl ?_
                      first | ((with_reducible refine mk_mo ?_); refine p_icmp_ne (tgt := 80) dX11_spanToSplit_44 (by decide) (fun h44 => ?_) (fun h44 => ?_)) | ((with_reducible refine mk_ms ?_); refine s_icmp_ne (tgt := 80) dX11_spanToSplit_44 (by decide) (by omega) (fun h44 => ?_) (fun h44 => ?_)) | ((with_reducible refine mk_mn ?_); refine q_icmp_ne (tgt := 80) dX11_spanToSplit_44 (by decide) (by omega) (fun h44 => ?_) (fun h44 => ?_)) | ((with_reducible refine mk_nn ?_); refine n_icmp_ne (tgt := 80) dX11_spanToSplit_44 (by decide) (by omega) (by omega) (fun h44 => ?_) (fun h44 => ?_)) | refine e_icmp_ne (tgt := 80) dX11_spanToSplit_44 (by decide) (fun h44 => ?_) (fun h44 => ?_)
                      · try first | contradiction | omega
                        all_goals
                          first | refine n_inc dX11_spanToSplit_80 rfl (Nat.le_of_ble_eq_true rfl) rfl ?_ | refine e_iinc dX11_spanToSplit_80 rfl rfl (Nat.le_of_ble_eq_true rfl) rfl ?_
                          refine e_goto (tgt := 4) dX11_spanToSplit_83 (by decide) ?_
                          first | (rw [bst_f (c := fun i => decide (w (42 + i) = h) && (mvL w (w (10 + i))).isNone && (mdO w i).isSome) (b := fun i q => decide (wtF w q < wtF w i)) (n := j) (by grind), hb] at ih; first | exact ih | exact EV_ls (by repeat (first | exact lsub_0 | refine lsub_n ?_ | refine lsub_s ?_)) ih) | (rw [bst_0 (c := fun i => decide (w (42 + i) = h) && (mvL w (w (10 + i))).isNone && (mdO w i).isSome) (b := fun i q => decide (wtF w q < wtF w i)) (n := j) (by grind) hb] at ih; first | exact ih | exact EV_ls (by repeat (first | exact lsub_0 | refine lsub_n ?_ | refine lsub_s ?_)) ih)
                      · try first | contradiction | omega
                        all_goals
                          refine e_aload_n dX11_spanToSplit_47 rfl rfl ?_
                          refine e_iload_n dX11_spanToSplit_48 rfl rfl ?_
                          refine x_V1 (M' := mX11_middleIn) dX11_spanToSplit_49 ml_X11_107 ok_X11_middleIn (by decide) rfl im_X11_middleIn se_X11_middleIn (ct_X11_middleIn ‹_› ‹_› (by omega)) (Nat.le_of_ble_eq_true rfl) (by decide) (Nat.le_of_ble_eq_true rfl) ?_
                          rw [hmd]
                          refine e_iconst (v := -1) dX11_spanToSplit_52 rfl ?_
                          first | ((with_reducible refine mk_mo ?_); refine p_icmp_ne (tgt := 59) dX11_spanToSplit_53 (by decide) (fun h53 => ?_) (fun h53 => ?_)) | ((with_reducible refine mk_ms ?_); refine s_icmp_ne (tgt := 59) dX11_spanToSplit_53 (by decide) (by omega) (fun h53 => ?_) (fun h53 => ?_)) | ((with_reducible refine mk_mn ?_); refine q_icmp_ne (tgt := 59) dX11_spanToSplit_53 (by decide) (by omega) (fun h53 => ?_) (fun h53 => ?_)) | ((with_reducible refine mk_nn ?_); refine n_icmp_ne (tgt := 59) dX11_spanToSplit_53 (by decide) (by omega) (by omega) (fun h53 => ?_) (fun h53 => ?_)) | refine e_icmp_ne (tgt := 59) dX11_spanToSplit_53 (by decide) (fun h53 => ?_) (fun h53 => ?_)
                          · try first | contradiction | omega
                            all_goals
                              refine e_iload_n dX11_spanToSplit_59 rfl rfl ?_
                              refine e_iconst (v := -1) dX11_spanToSplit_60 rfl ?_
                              first | ((with_reducible refine mk_mo ?_); refine p_icmp_eq (tgt := 78) dX11_spanToSplit_61 (by decide) (fun h61 => ?_) (fun h61 => ?_)) | ((with_reducible refine mk_ms ?_); refine s_icmp_eq (tgt := 78) dX11_spanToSplit_61 (by decide) (by omega) (fun h61 => ?_) (fun h61 => ?_)) | ((with_reducible refine mk_mn ?_); refine q_icmp_eq (tgt := 78) dX11_spanToSplit_61 (by decide) (by omega) (fun h61 => ?_) (fun h61 => ?_)) | ((with_reducible refine mk_nn ?_); refine n_icmp_eq (tgt := 78) dX11_spanToSplit_61 (by decide) (by omega) (by omega) (fun h61 => ?_) (fun h61 => ?_)) | refine e_icmp_eq (tgt := 78) dX11_spanToSplit_61 (by decide) (fun h61 => ?_) (fun h61 => ?_)
                              · try first | contradiction | omega
                                all_goals
                                  refine e_iload_n dX11_spanToSplit_78 rfl rfl ?_
                                  refine e_istore_n dX11_spanToSplit_79 rfl (Nat.le_of_ble_eq_true rfl) rfl ?_
                                  first | refine n_inc dX11_spanToSplit_80 rfl (Nat.le_of_ble_eq_true rfl) rfl ?_ | refine e_iinc dX11_spanToSplit_80 rfl rfl (Nat.le_of_ble_eq_true rfl) rfl ?_
                                  refine e_goto (tgt := 4) dX11_spanToSplit_83 (by decide) ?_
                                  first | (rw [bst_f (c := fun i => decide (w (42 + i) = h) && (mvL w (w (10 + i))).isNone && (mdO w i).isSome) (b := fun i q => decide (wtF w q < wtF w i)) (n := j) (by grind), hb] at ih; first | exact ih | exact EV_ls (by repeat (first | exact lsub_0 | refine lsub_n ?_ | refine lsub_s ?_)) ih) | (rw [bst_0 (c := fun i => decide (w (42 + i) = h) && (mvL w (w (10 + i))).isNone && (mdO w i).isSome) (b := fun i q => decide (wtF w q < wtF w i)) (n := j) (by grind) hb] at ih; first | exact ih | exact EV_ls (by repeat (first | exact lsub_0 | refine lsub_n ?_ | refine lsub_s ?_)) ih)
                              · try first | contradiction | omega
                                all_goals
                                  refine e_aload_n dX11_spanToSplit_64 rfl rfl ?_
                                  refine e_iload_n dX11_spanToSplit_65 rfl rfl ?_
                                  refine x_V1 (M' := mX11_weightOf) dX11_spanToSplit_66 ml_X11_73 ok_X11_weightOf (by decide) rfl im_X11_weightOf se_X11_weightOf (ct_X11_weightOf ‹_› ‹_› (by omega)) (Nat.le_of_ble_eq_true rfl) (by decide) (Nat.le_of_ble_eq_true rfl) ?_
                                  refine e_aload_n dX11_spanToSplit_69 rfl rfl ?_
                                  refine e_iload_n dX11_spanToSplit_70 rfl rfl ?_
                                  refine x_V1 (M' := mX11_weightOf) dX11_spanToSplit_71 ml_X11_73 ok_X11_weightOf (by decide) rfl im_X11_weightOf se_X11_weightOf (ct_X11_weightOf ‹_› ‹_› (by omega)) (Nat.le_of_ble_eq_true rfl) (by decide) (Nat.le_of_ble_eq_true rfl) ?_
                                  refine e_lcmp dX11_spanToSplit_74 ?_
                                  first | ((with_reducible refine mk_ll ?_); refine m_if_le (tgt := 80) dX11_spanToSplit_75 (by decide) (by omega) (by omega) (fun h75 => ?_) (fun h75 => ?_)) | ((with_reducible refine mk_lc ?_); refine l_if_le (tgt := 80) dX11_spanToSplit_75 (by decide) (fun h75 => ?_) (fun h75 => ?_)) | ((with_reducible refine mk_n ?_); refine n_if_le (tgt := 80) dX11_spanToSplit_75 (by decide) (by omega) (fun h75 => ?_) (fun h75 => ?_)) | refine e_if_le (tgt := 80) dX11_spanToSplit_75 (by decide) (fun h75 => ?_) (fun h75 => ?_)
                                  · try first | contradiction | omega
                                    all_goals
                                      first | refine n_inc dX11_spanToSplit_80 rfl (Nat.le_of_ble_eq_true rfl) rfl ?_ | refine e_iinc dX11_spanToSplit_80 rfl rfl (Nat.le_of_ble_eq_true rfl) rfl ?_
                                      refine e_goto (tgt := 4) dX11_spanToSplit_83 (by decide) ?_
                                      first | (rw [bst_f (c := fun i => decide (w (42 + i) = h) && (mvL w (w (10 + i))).isNone && (mdO w i).isSome) (b := fun i q => decide (wtF w q < wtF w i)) (n := j) (by grind), hb] at ih; first | exact ih | exact EV_ls (by repeat (first | exact lsub_0 | refine lsub_n ?_ | refine lsub_s ?_)) ih) | (rw [bst_0 (c := fun i => decide (w (42 + i) = h) && (mvL w (w (10 + i))).isNone && (mdO w i).isSome) (b := fun i q => decide (wtF w q < wtF w i)) (n := j) (by grind) hb] at ih; first | exact ih | exact EV_ls (by repeat (first | exact lsub_0 | refine lsub_n ?_ | refine lsub_s ?_)) ih)
                                  · try first | contradiction | omega
                                    all_goals
                                      refine e_iload_n dX11_spanToSplit_78 rfl rfl ?_
                                      refine e_istore_n dX11_spanToSplit_79 rfl (Nat.le_of_ble_eq_true rfl) rfl ?_
                                      first | refine n_inc dX11_spanToSplit_80 rfl (Nat.le_of_ble_eq_true rfl) rfl ?_ | refine e_iinc dX11_spanToSplit_80 rfl rfl (Nat.le_of_ble_eq_true rfl) rfl ?_
                                      refine e_goto (tgt := 4) dX11_spanToSplit_83 (by decide) ?_
                                      first | (rw [bst_f (c := fun i => decide (w (42 + i) = h) && (mvL w (w (10 + i))).isNone && (mdO w i).isSome) (b := fun i q => decide (wtF w q < wtF w i)) (n := j) (by grind), hb] at ih; first | exact ih | exact EV_ls (by repeat (first | exact lsub_0 | refine lsub_n ?_ | refine lsub_s ?_)) ih) | (rw [bst_0 (c := fun i => decide (w (42 + i) = h) && (mvL w (w (10 + i))).isNone && (mdO w i).isSome) (b := fun i q => decide (wtF w q < wtF w i)) (n := j) (by grind) hb] at ih; first | exact ih | exact EV_ls (by repeat (first | exact lsub_0 | refine lsub_n ?_ | refine lsub_s ?_)) ih)
                          · try first | contradiction | omega
                            all_goals
                              refine e_goto (tgt := 80) dX11_spanToSplit_56 (by decide) ?_
                              first | refine n_inc dX11_spanToSplit_80 rfl (Nat.le_of_ble_eq_true rfl) rfl ?_ | refine e_iinc dX11_spanToSplit_80 rfl rfl (Nat.le_of_ble_eq_true rfl) rfl ?_
                              refine e_goto (tgt := 4) dX11_spanToSplit_83 (by decide) ?_
                              first | (rw [bst_f (c := fun i => decide (w (42 + i) = h) && (mvL w (w (10 + i))).isNone && (mdO w i).isSome) (b := fun i q => decide (wtF w q < wtF w i)) (n := j) (by grind), hb] at ih; first | exact ih | exact EV_ls (by repeat (first | exact lsub_0 | refine lsub_n ?_ | refine lsub_s ?_)) ih) | (rw [bst_0 (c := fun i => decide (w (42 + i) = h) && (mvL w (w (10 + i))).isNone && (mdO w i).isSome) (b := fun i q => decide (wtF w q < wtF w i)) (n := j) (by grind) hb] at ih; first | exact ih | exact EV_ls (by repeat (first | exact lsub_0 | refine lsub_n ?_ | refine lsub_s ?_)) ih)
        | some q =>
          have hq := (bst_in hb).1
          have hqc := (bst_in hb).2
          rw [oI_s]
          have hw2 := wtF_le iv (i := q) (by omega)
          refine e_iload_n dX11_spanToSplit_4 rfl rfl ?_
          refine e_aload_n dX11_spanToSplit_5 rfl rfl ?_
          refine e_getR dX11_spanToSplit_6 fl_X11_7 rfl (by assumption) ?_
          refine e_iconst (v := nI 1) dX11_spanToSplit_9 rfl ?_
          first | ((with_reducible refine mk_ldw ?_); refine e_ldw dX11_spanToSplit_10 (by omega) ?_) | refine e_iald _ dX11_spanToSplit_10 ⟨by decide, by decide⟩ rfl rfl (by simp only [lenK]; omega) ?_
          first | ((with_reducible refine mk_nn ?_); refine n_icmp_ge (tgt := 86) dX11_spanToSplit_11 (by decide) (by omega) (by omega) (fun h11 => ?_) (fun h11 => ?_)) | refine e_icmp_ge (tgt := 86) dX11_spanToSplit_11 (by decide) (fun h11 => ?_) (fun h11 => ?_)
          · try first | contradiction | omega
            all_goals
              refine e_iload_n dX11_spanToSplit_86 rfl rfl ?_
              refine e_ret (some _) rfl (r_int dX11_spanToSplit_87 rfl) ?_
              exact xq (by first | rfl | simp_all [bI_t, bI_f]) rfl rfl rfl rfl rfl
          · try first | contradiction | omega
            all_goals
              refine e_aload_n dX11_spanToSplit_14 rfl rfl ?_
              refine e_getR dX11_spanToSplit_15 fl_X11_7 rfl (by assumption) ?_
              refine e_iconst (v := nI 1) dX11_spanToSplit_18 rfl ?_
              first | ((with_reducible refine mk_ldw ?_); refine e_ldw dX11_spanToSplit_19 (by omega) ?_) | refine e_iald _ dX11_spanToSplit_19 ⟨by decide, by decide⟩ rfl rfl (by simp only [lenK]; omega) ?_
              refine e_bipush (v := nI 32) dX11_spanToSplit_20 rfl ?_
              first | ((with_reducible refine mk_nn ?_); refine n_icmp_ge (tgt := 86) dX11_spanToSplit_22 (by decide) (by omega) (by omega) (fun h22 => ?_) (fun h22 => ?_)) | refine e_icmp_ge (tgt := 86) dX11_spanToSplit_22 (by decide) (fun h22 => ?_) (fun h22 => ?_)
              · try first | contradiction | omega
                all_goals
                  refine e_iload_n dX11_spanToSplit_86 rfl rfl ?_
                  refine e_ret (some _) rfl (r_int dX11_spanToSplit_87 rfl) ?_
                  exact xq (by first | rfl | simp_all [bI_t, bI_f]) rfl rfl rfl rfl rfl
              · try first | contradiction | omega
                all_goals
                  refine e_aload_n dX11_spanToSplit_25 rfl rfl ?_
                  refine e_getR dX11_spanToSplit_26 fl_X11_7 rfl (by assumption) ?_
                  refine e_bipush (v := nI 42) dX11_spanToSplit_29 rfl ?_
                  refine e_iload_n dX11_spanToSplit_31 rfl rfl ?_
                  first | ((with_reducible refine mk_nn ?_); refine n_iadd dX11_spanToSplit_32 ?_) | refine e_iadd dX11_spanToSplit_32 ?_
                  first | ((with_reducible refine mk_ldw ?_); refine e_ldw dX11_spanToSplit_33 (by omega) ?_) | refine e_iald _ dX11_spanToSplit_33 ⟨by decide, by decide⟩ rfl rfl (by simp only [lenK]; omega) ?_
                  refine e_iload_n dX11_spanToSplit_34 rfl rfl ?_
                  first | ((with_reducible refine mk_mo ?_); refine p_icmp_ne (tgt := 80) dX11_spanToSplit_35 (by decide) (fun h35 => ?_) (fun h35 => ?_)) | ((with_reducible refine mk_ms ?_); refine s_icmp_ne (tgt := 80) dX11_spanToSplit_35 (by decide) (by omega) (fun h35 => ?_) (fun h35 => ?_)) | ((with_reducible refine mk_mn ?_); refine q_icmp_ne (tgt := 80) dX11_spanToSplit_35 (by decide) (by omega) (fun h35 => ?_) (fun h35 => ?_)) | ((with_reducible refine mk_nn ?_); refine n_icmp_ne (tgt := 80) dX11_spanToSplit_35 (by decide) (by omega) (by omega) (fun h35 => ?_) (fun h35 => ?_)) | refine e_icmp_ne (tgt := 80) dX11_spanToSplit_35 (by decide) (fun h35 => ?_) (fun h35 => ?_)
                  · try first | contradiction | omega
                    all_goals
                      first | refine n_inc dX11_spanToSplit_80 rfl (Nat.le_of_ble_eq_true rfl) rfl ?_ | refine e_iinc dX11_spanToSplit_80 rfl rfl (Nat.le_of_ble_eq_true rfl) rfl ?_
                      refine e_goto (tgt := 4) dX11_spanToSplit_83 (by decide) ?_
                      first | (rw [bst_f (c := fun i => decide (w (42 + i) = h) && (mvL w (w (10 + i))).isNone && (mdO w i).isSome) (b := fun i q => decide (wtF w q < wtF w i)) (n := j) (by grind), hb] at ih; first | exact ih | exact EV_ls (by repeat (first | exact lsub_0 | refine lsub_n ?_ | refine lsub_s ?_)) ih) | (rw [bst_0 (c := fun i => decide (w (42 + i) = h) && (mvL w (w (10 + i))).isNone && (mdO w i).isSome) (b := fun i q => decide (wtF w q < wtF w i)) (n := j) (by grind) hb] at ih; first | exact ih | exact EV_ls (by repeat (first | exact lsub_0 | refine lsub_n ?_ | refine lsub_s ?_)) ih) | (rw [bst_1 (c := fun i => decide (w (42 + i) = h) && (mvL w (w (10 + i))).isNone && (mdO w i).isSome) (b := fun i q => decide (wtF w q < wtF w i)) (n := j) (by grind) hb (by grind)] at ih; first | exact ih | exact EV_ls (by repeat (first | exact lsub_0 | refine lsub_n ?_ | refine lsub_s ?_)) ih) | (rw [bst_2 (c := fun i => decide (w (42 + i) = h) && (mvL w (w (10 + i))).isNone && (mdO w i).isSome) (b := fun i q => decide (wtF w q < wtF w i)) (n := j) (by grind) hb (by grind)] at ih; first | exact ih | exact EV_ls (by repeat (first | exact lsub_0 | refine lsub_n ?_ | refine lsub_s ?_)) ih)
                  · try first | contradiction | omega
                    all_goals
                      refine e_aload_n dX11_spanToSplit_38 rfl rfl ?_
                      refine e_iload_n dX11_spanToSplit_39 rfl rfl ?_
                      refine x_V1 (M' := mX11_moveOfSpan) dX11_spanToSplit_40 ml_X11_79 ok_X11_moveOfSpan (by decide) rfl im_X11_moveOfSpan se_X11_moveOfSpan (ct_X11_moveOfSpan ‹_› ‹_› (by omega)) (Nat.le_of_ble_eq_true rfl) (by decide) (Nat.le_of_ble_eq_true rfl) ?_
                      rw [hmv]
                      refine e_iconst (v := -1) dX11_spanToSplit_43 rfl ?_
                      first | ((with_reducible refine mk_mo ?_); refine p_icmp_ne (tgt := 80) dX11_spanToSplit_44 (by decide) (fun h44 => ?_) (fun h44 => ?_)) | ((with_reducible refine mk_ms ?_); refine s_icmp_ne (tgt := 80) dX11_spanToSplit_44 (by decide) (by omega) (fun h44 => ?_) (fun h44 => ?_)) | ((with_reducible refine mk_mn ?_); refine q_icmp_ne (tgt := 80) dX11_spanToSplit_44 (by decide) (by omega) (fun h44 => ?_) (fun h44 => ?_)) | ((with_reducible refine mk_nn ?_); refine n_icmp_ne (tgt := 80) dX11_spanToSplit_44 (by decide) (by omega) (by omega) (fun h44 => ?_) (fun h44 => ?_)) | refine e_icmp_ne (tgt := 80) dX11_spanToSplit_44 (by decide) (fun h44 => ?_) (fun h44 => ?_)
                      · try first | contradiction | omega
                        all_goals
                          first | refine n_inc dX11_spanToSplit_80 rfl (Nat.le_of_ble_eq_true rfl) rfl ?_ | refine e_iinc dX11_spanToSplit_80 rfl rfl (Nat.le_of_ble_eq_true rfl) rfl ?_
                          refine e_goto (tgt := 4) dX11_spanToSplit_83 (by decide) ?_
                          first | (rw [bst_f (c := fun i => decide (w (42 + i) = h) && (mvL w (w (10 + i))).isNone && (mdO w i).isSome) (b := fun i q => decide (wtF w q < wtF w i)) (n := j) (by grind), hb] at ih; first | exact ih | exact EV_ls (by repeat (first | exact lsub_0 | refine lsub_n ?_ | refine lsub_s ?_)) ih) | (rw [bst_0 (c := fun i => decide (w (42 + i) = h) && (mvL w (w (10 + i))).isNone && (mdO w i).isSome) (b := fun i q => decide (wtF w q < wtF w i)) (n := j) (by grind) hb] at ih; first | exact ih | exact EV_ls (by repeat (first | exact lsub_0 | refine lsub_n ?_ | refine lsub_s ?_)) ih) | (rw [bst_1 (c := fun i => decide (w (42 + i) = h) && (mvL w (w (10 + i))).isNone && (mdO w i).isSome) (b := fun i q => decide (wtF w q < wtF w i)) (n := j) (by grind) hb (by grind)] at ih; first | exact ih | exact EV_ls (by repeat (first | exact lsub_0 | refine lsub_n ?_ | refine lsub_s ?_)) ih) | (rw [bst_2 (c := fun i => decide (w (42 + i) = h) && (mvL w (w (10 + i))).isNone && (mdO w i).isSome) (b := fun i q => decide (wtF w q < wtF w i)) (n := j) (by grind) hb (by grind)] at ih; first | exact ih | exact EV_ls (by repeat (first | exact lsub_0 | refine lsub_n ?_ | refine lsub_s ?_)) ih)
                      · try first | contradiction | omega
                        all_goals
                          refine e_aload_n dX11_spanToSplit_47 rfl rfl ?_
                          refine e_iload_n dX11_spanToSplit_48 rfl rfl ?_
                          refine x_V1 (M' := mX11_middleIn) dX11_spanToSplit_49 ml_X11_107 ok_X11_middleIn (by decide) rfl im_X11_middleIn se_X11_middleIn (ct_X11_middleIn ‹_› ‹_› (by omega)) (Nat.le_of_ble_eq_true rfl) (by decide) (Nat.le_of_ble_eq_true rfl) ?_
                          rw [hmd]
                          refine e_iconst (v := -1) dX11_spanToSplit_52 rfl ?_
                          first | ((with_reducible refine mk_mo ?_); refine p_icmp_ne (tgt := 59) dX11_spanToSplit_53 (by decide) (fun h53 => ?_) (fun h53 => ?_)) | ((with_reducible refine mk_ms ?_); refine s_icmp_ne (tgt := 59) dX11_spanToSplit_53 (by decide) (by omega) (fun h53 => ?_) (fun h53 => ?_)) | ((with_reducible refine mk_mn ?_); refine q_icmp_ne (tgt := 59) dX11_spanToSplit_53 (by decide) (by omega) (fun h53 => ?_) (fun h53 => ?_)) | ((with_reducible refine mk_nn ?_); refine n_icmp_ne (tgt := 59) dX11_spanToSplit_53 (by decide) (by omega) (by omega) (fun h53 => ?_) (fun h53 => ?_)) | refine e_icmp_ne (tgt := 59) dX11_spanToSplit_53 (by decide) (fun h53 => ?_) (fun h53 => ?_)
                          · try first | contradiction | omega
                            all_goals
                              refine e_iload_n dX11_spanToSplit_59 rfl rfl ?_
                              refine e_iconst (v := -1) dX11_spanToSplit_60 rfl ?_
                              first | ((with_reducible refine mk_mo ?_); refine p_icmp_eq (tgt := 78) dX11_spanToSplit_61 (by decide) (fun h61 => ?_) (fun h61 => ?_)) | ((with_reducible refine mk_ms ?_); refine s_icmp_eq (tgt := 78) dX11_spanToSplit_61 (by decide) (by omega) (fun h61 => ?_) (fun h61 => ?_)) | ((with_reducible refine mk_mn ?_); refine q_icmp_eq (tgt := 78) dX11_spanToSplit_61 (by decide) (by omega) (fun h61 => ?_) (fun h61 => ?_)) | ((with_reducible refine mk_nn ?_); refine n_icmp_eq (tgt := 78) dX11_spanToSplit_61 (by decide) (by omega) (by omega) (fun h61 => ?_) (fun h61 => ?_)) | refine e_icmp_eq (tgt := 78) dX11_spanToSplit_61 (by decide) (fun h61 => ?_) (fun h61 => ?_)
                              · try first | contradiction | omega
                                all_goals
                                  refine e_iload_n dX11_spanToSplit_78 rfl rfl ?_
                                  refine e_istore_n dX11_spanToSplit_79 rfl (Nat.le_of_ble_eq_true rfl) rfl ?_
                                  first | refine n_inc dX11_spanToSplit_80 rfl (Nat.le_of_ble_eq_true rfl) rfl ?_ | refine e_iinc dX11_spanToSplit_80 rfl rfl (Nat.le_of_ble_eq_true rfl) rfl ?_
                                  refine e_goto (tgt := 4) dX11_spanToSplit_83 (by decide) ?_
                                  first | (rw [bst_f (c := fun i => decide (w (42 + i) = h) && (mvL w (w (10 + i))).isNone && (mdO w i).isSome) (b := fun i q => decide (wtF w q < wtF w i)) (n := j) (by grind), hb] at ih; first | exact ih | exact EV_ls (by repeat (first | exact lsub_0 | refine lsub_n ?_ | refine lsub_s ?_)) ih) | (rw [bst_0 (c := fun i => decide (w (42 + i) = h) && (mvL w (w (10 + i))).isNone && (mdO w i).isSome) (b := fun i q => decide (wtF w q < wtF w i)) (n := j) (by grind) hb] at ih; first | exact ih | exact EV_ls (by repeat (first | exact lsub_0 | refine lsub_n ?_ | refine lsub_s ?_)) ih) | (rw [bst_1 (c := fun i => decide (w (42 + i) = h) && (mvL w (w (10 + i))).isNone && (mdO w i).isSome) (b := fun i q => decide (wtF w q < wtF w i)) (n := j) (by grind) hb (by grind)] at ih; first | exact ih | exact EV_ls (by repeat (first | exact lsub_0 | refine lsub_n ?_ | refine lsub_s ?_)) ih) | (rw [bst_2 (c := fun i => decide (w (42 + i) = h) && (mvL w (w (10 + i))).isNone && (mdO w i).isSome) (b := fun i q => decide (wtF w q < wtF w i)) (n := j) (by grind) hb (by grind)] at ih; first | exact ih | exact EV_ls (by repeat (first | exact lsub_0 | refine lsub_n ?_ | refine lsub_s ?_)) ih)
                              · try first | contradiction | omega
                                all_goals
                                  refine e_aload_n dX11_spanToSplit_64 rfl rfl ?_
                                  refine e_iload_n dX11_spanToSplit_65 rfl rfl ?_
                                  refine x_V1 (M' := mX11_weightOf) dX11_spanToSplit_66 ml_X11_73 ok_X11_weightOf (by decide) rfl im_X11_weightOf se_X11_weightOf (ct_X11_weightOf ‹_› ‹_› (by omega)) (Nat.le_of_ble_eq_true rfl) (by decide) (Nat.le_of_ble_eq_true rfl) ?_
                                  refine e_aload_n dX11_spanToSplit_69 rfl rfl ?_
                                  refine e_iload_n dX11_spanToSplit_70 rfl rfl ?_
                                  refine x_V1 (M' := mX11_weightOf) dX11_spanToSplit_71 ml_X11_73 ok_X11_weightOf (by decide) rfl im_X11_weightOf se_X11_weightOf (ct_X11_weightOf ‹_› ‹_› (by omega)) (Nat.le_of_ble_eq_true rfl) (by decide) (Nat.le_of_ble_eq_true rfl) ?_
                                  refine e_lcmp dX11_spanToSplit_74 ?_
                                  first | ((with_reducible refine mk_ll ?_); refine m_if_le (tgt := 80) dX11_spanToSplit_75 (by decide) (by omega) (by omega) (fun h75 => ?_) (fun h75 => ?_)) | ((with_reducible refine mk_lc ?_); refine l_if_le (tgt := 80) dX11_spanToSplit_75 (by decide) (fun h75 => ?_) (fun h75 => ?_)) | ((with_reducible refine mk_n ?_); refine n_if_le (tgt := 80) dX11_spanToSplit_75 (by decide) (by omega) (fun h75 => ?_) (fun h75 => ?_)) | refine e_if_le (tgt := 80) dX11_spanToSplit_75 (by decide) (fun h75 => ?_) (fun h75 => ?_)
                                  · try first | contradiction | omega
                                    all_goals
                                      first | refine n_inc dX11_spanToSplit_80 rfl (Nat.le_of_ble_eq_true rfl) rfl ?_ | refine e_iinc dX11_spanToSplit_80 rfl rfl (Nat.le_of_ble_eq_true rfl) rfl ?_
                                      refine e_goto (tgt := 4) dX11_spanToSplit_83 (by decide) ?_
                                      first | (rw [bst_f (c := fun i => decide (w (42 + i) = h) && (mvL w (w (10 + i))).isNone && (mdO w i).isSome) (b := fun i q => decide (wtF w q < wtF w i)) (n := j) (by grind), hb] at ih; first | exact ih | exact EV_ls (by repeat (first | exact lsub_0 | refine lsub_n ?_ | refine lsub_s ?_)) ih) | (rw [bst_0 (c := fun i => decide (w (42 + i) = h) && (mvL w (w (10 + i))).isNone && (mdO w i).isSome) (b := fun i q => decide (wtF w q < wtF w i)) (n := j) (by grind) hb] at ih; first | exact ih | exact EV_ls (by repeat (first | exact lsub_0 | refine lsub_n ?_ | refine lsub_s ?_)) ih) | (rw [bst_1 (c := fun i => decide (w (42 + i) = h) && (mvL w (w (10 + i))).isNone && (mdO w i).isSome) (b := fun i q => decide (wtF w q < wtF w i)) (n := j) (by grind) hb (by grind)] at ih; first | exact ih | exact EV_ls (by repeat (first | exact lsub_0 | refine lsub_n ?_ | refine lsub_s ?_)) ih) | (rw [bst_2 (c := fun i => decide (w (42 + i) = h) && (mvL w (w (10 + i))).isNone && (mdO w i).isSome) (b := fun i q => decide (wtF w q < wtF w i)) (n := j) (by grind) hb (by grind)] at ih; first | exact ih | exact EV_ls (by repeat (first | exact lsub_0 | refine lsub_n ?_ | refine lsub_s ?_)) ih)
                                  · try first | contradiction | omega
                                    all_goals
                                      refine e_iload_n dX11_spanToSplit_78 rfl rfl ?_
                                      refine e_istore_n dX11_spanToSplit_79 rfl (Nat.le_of_ble_eq_true rfl) rfl ?_
                                      first | refine n_inc dX11_spanToSplit_80 rfl (Nat.le_of_ble_eq_true rfl) rfl ?_ | refine e_iinc dX11_spanToSplit_80 rfl rfl (Nat.le_of_ble_eq_true rfl) rfl ?_
                                      refine e_goto (tgt := 4) dX11_spanToSplit_83 (by decide) ?_
                                      first | (rw [bst_f (c := fun i => decide (w (42 + i) = h) && (mvL w (w (10 + i))).isNone && (mdO w i).isSome) (b := fun i q => decide (wtF w q < wtF w i)) (n := j) (by grind), hb] at ih; first | exact ih | exact EV_ls (by repeat (first | exact lsub_0 | refine lsub_n ?_ | refine lsub_s ?_)) ih) | (rw [bst_0 (c := fun i => decide (w (42 + i) = h) && (mvL w (w (10 + i))).isNone && (mdO w i).isSome) (b := fun i q => decide (wtF w q < wtF w i)) (n := j) (by grind) hb] at ih; first | exact ih | exact EV_ls (by repeat (first | exact lsub_0 | refine lsub_n ?_ | refine lsub_s ?_)) ih) | (rw [bst_1 (c := fun i => decide (w (42 + i) = h) && (mvL w (w (10 + i))).isNone && (mdO w i).isSome) (b := fun i q => decide (wtF w q < wtF w i)) (n := j) (by grind) hb (by grind)] at ih; first | exact ih | exact EV_ls (by repeat (first | exact lsub_0 | refine lsub_n ?_ | refine lsub_s ?_)) ih) | (rw [bst_2 (c := fun i => decide (w (42 + i) = h) && (mvL w (w (10 + i))).isNone && (mdO w i).isSome) (b := fun i q => decide (wtF w q < wtF w i)) (n := j) (by grind) hb (by grind)] at ih; first | exact ih | exact EV_ls (by repeat (first | exact lsub_0 | refine lsub_n ?_ | refine lsub_s ?_)) ih)
                          · try first | contradiction | omega
                            all_goals
                              refine e_goto (tgt := 80) dX11_spanToSplit_56 (by decide) ?_
                              first | refine n_inc dX11_spanToSplit_80 rfl (Nat.le_of_ble_eq_true rfl) rfl ?_ | refine e_iinc dX11_spanToSplit_80 rfl rfl (Nat.le_of_ble_eq_true rfl) rfl ?_
                              refine e_goto (tgt := 4) dX11_spanToSplit_83 (by decide) ?_
                              first | (rw [bst_f (c := fun i => decide (w (42 + i) = h) && (mvL w (w (10 + i))).isNone && (mdO w i).isSome) (b := fun i q => decide (wtF w q < wtF w i)) (n := j) (by grind), hb] at ih; first | exact ih | exact EV_ls (by repeat (first | exact lsub_0 | refine lsub_n ?_ | refine lsub_s ?_)) ih) | (rw [bst_0 (c := fun i => decide (w (42 + i) = h) && (mvL w (w (10 + i))).isNone && (mdO w i).isSome) (b := fun i q => decide (wtF w q < wtF w i)) (n := j) (by grind) hb] at ih; first | exact ih | exact EV_ls (by repeat (first | exact lsub_0 | refine lsub_n ?_ | refine lsub_s ?_)) ih) | (rw [bst_1 (c := fun i => decide (w (42 + i) = h) && (mvL w (w (10 + i))).isNone && (mdO w i).isSome) (b := fun i q => decide (wtF w q < wtF w i)) (n := j) (by grind) hb (by grind)] at ih; first | exact ih | exact EV_ls (by repeat (first | exact lsub_0 | refine lsub_n ?_ | refine lsub_s ?_)) ih) | (rw [bst_2 (c := fun i => decide (w (42 + i) = h) && (mvL w (w (10 + i))).isNone && (mdO w i).isSome) (b := fun i q => decide (wtF w q < wtF w i)) (n := j) (by grind) hb (by grind)] at ih; first | exact ih | exact EV_ls (by repeat (first | exact lsub_0 | refine lsub_n ?_ | refine lsub_s ?_)) ih)
    | some mm =>
      have hmm := mvL_lt hmv
      cases hb : bst (fun i => decide (w (42 + i) = h) && (mvL w (w (10 + i))).isNone && (mdO w i).isSome) (fun i q => decide (wtF w q < wtF w i)) j with
      | none =>
        refine e_iload_n dX11_spanToSplit_4 rfl rfl ?_
        refine e_aload_n dX11_spanToSplit_5 rfl rfl ?_
        refine e_getR dX11_spanToSplit_6 fl_X11_7 rfl (by assumption) ?_
        refine e_iconst (v := nI 1) dX11_spanToSplit_9 rfl ?_
        first | ((with_reducible refine mk_ldw ?_); refine e_ldw dX11_spanToSplit_10 (by omega) ?_) | refine e_iald _ dX11_spanToSplit_10 ⟨by decide, by decide⟩ rfl rfl (by simp only [lenK]; omega) ?_
        first | ((with_reducible refine mk_nn ?_); refine n_icmp_ge (tgt := 86) dX11_spanToSplit_11 (by decide) (by omega) (by omega) (fun h11 => ?_) (fun h11 => ?_)) | refine e_icmp_ge (tgt := 86) dX11_spanToSplit_11 (by decide) (fun h11 => ?_) (fun h11 => ?_)
        · try first | contradiction | omega
          all_goals
            refine e_iload_n dX11_spanToSplit_86 rfl rfl ?_
            refine e_ret (some _) rfl (r_int dX11_spanToSplit_87 rfl) ?_
            exact xq (by first | rfl | simp_all [bI_t, bI_f]) rfl rfl rfl rfl rfl
        · try first | contradiction | omega
          all_goals
            refine e_aload_n dX11_spanToSplit_14 rfl rfl ?_
            refine e_getR dX11_spanToSplit_15 fl_X11_7 rfl (by assumption) ?_
            refine e_iconst (v := nI 1) dX11_spanToSplit_18 rfl ?_
            first | ((with_reducible refine mk_ldw ?_); refine e_ldw dX11_spanToSplit_19 (by omega) ?_) | refine e_iald _ dX11_spanToSplit_19 ⟨by decide, by decide⟩ rfl rfl (by simp only [lenK]; omega) ?_
            refine e_bipush (v := nI 32) dX11_spanToSplit_20 rfl ?_
            first | ((with_reducible refine mk_nn ?_); refine n_icmp_ge (tgt := 86) dX11_spanToSplit_22 (by decide) (by omega) (by omega) (fun h22 => ?_) (fun h22 => ?_)) | refine e_icmp_ge (tgt := 86) dX11_spanToSplit_22 (by decide) (fun h22 => ?_) (fun h22 => ?_)
            · try first | contradiction | omega
              all_goals
                refine e_iload_n dX11_spanToSplit_86 rfl rfl ?_
                refine e_ret (some _) rfl (r_int dX11_spanToSplit_87 rfl) ?_
                exact xq (by first | rfl | simp_all [bI_t, bI_f]) rfl rfl rfl rfl rfl
            · try first | contradiction | omega
              all_goals
                refine e_aload_n dX11_spanToSplit_25 rfl rfl ?_
                refine e_getR dX11_spanToSplit_26 fl_X11_7 rfl (by assumption) ?_
                refine e_bipush (v := nI 42) dX11_spanToSplit_29 rfl ?_
                refine e_iload_n dX11_spanToSplit_31 rfl rfl ?_
                first | ((with_reducible refine mk_nn ?_); refine n_iadd dX11_spanToSplit_32 ?_) | refine e_iadd dX11_spanToSplit_32 ?_
                first | ((with_reducible refine mk_ldw ?_); refine e_ldw dX11_spanToSplit_33 (by omega) ?_) | refine e_iald _ dX11_spanToSplit_33 ⟨by decide, by decide⟩ rfl rfl (by simp only [lenK]; omega) ?_
                refine e_iload_n dX11_spanToSplit_34 rfl rfl ?_
                first | ((with_reducible refine mk_mo ?_); refine p_icmp_ne (tgt := 80) dX11_spanToSplit_35 (by decide) (fun h35 => ?_) (fun h35 => ?_)) | ((with_reducible refine mk_ms ?_); refine s_icmp_ne (tgt := 80) dX11_spanToSplit_35 (by decide) (by omega) (fun h35 => ?_) (fun h35 => ?_)) | ((with_reducible refine mk_mn ?_); refine q_icmp_ne (tgt := 80) dX11_spanToSplit_35 (by decide) (by omega) (fun h35 => ?_) (fun h35 => ?_)) | ((with_reducible refine mk_nn ?_); refine n_icmp_ne (tgt := 80) dX11_spanToSplit_35 (by decide) (by omega) (by omega) (fun h35 => ?_) (fun h35 => ?_)) | refine e_icmp_ne (tgt := 80) dX11_spanToSplit_35 (by decide) (fun h35 => ?_) (fun h35 => ?_)
                · try first | contradiction | omega
                  all_goals
                    first | refine n_inc dX11_spanToSplit_80 rfl (Nat.le_of_ble_eq_true rfl) rfl ?_ | refine e_iinc dX11_spanToSplit_80 rfl rfl (Nat.le_of_ble_eq_true rfl) rfl ?_
                    refine e_goto (tgt := 4) dX11_spanToSplit_83 (by decide) ?_
                    first | (rw [bst_f (c := fun i => decide (w (42 + i) = h) && (mvL w (w (10 + i))).isNone && (mdO w i).isSome) (b := fun i q => decide (wtF w q < wtF w i)) (n := j) (by grind), hb] at ih; first | exact ih | exact EV_ls (by repeat (first | exact lsub_0 | refine lsub_n ?_ | refine lsub_s ?_)) ih) | (rw [bst_0 (c := fun i => decide (w (42 + i) = h) && (mvL w (w (10 + i))).isNone && (mdO w i).isSome) (b := fun i q => decide (wtF w q < wtF w i)) (n := j) (by grind) hb] at ih; first | exact ih | exact EV_ls (by repeat (first | exact lsub_0 | refine lsub_n ?_ | refine lsub_s ?_)) ih)
                · try first | contradiction | omega
                  all_goals
                    refine e_aload_n dX11_spanToSplit_38 rfl rfl ?_
                    refine e_iload_n dX11_spanToSplit_39 rfl rfl ?_
                    refine x_V1 (M' := mX11_moveOfSpan) dX11_spanToSplit_40 ml_X11_79 ok_X11_moveOfSpan (by decide) rfl im_X11_moveOfSpan se_X11_moveOfSpan (ct_X11_moveOfSpan ‹_› ‹_› (by omega)) (Nat.le_of_ble_eq_true rfl) (by decide) (Nat.le_of_ble_eq_true rfl) ?_
                    rw [hmv]
                    refine e_iconst (v := -1) dX11_spanToSplit_43 rfl ?_
                    first | ((with_reducible refine mk_mo ?_); refine p_icmp_ne (tgt := 80) dX11_spanToSplit_44 (by decide) (fun h44 => ?_) (fun h44 => ?_)) | ((with_reducible refine mk_ms ?_); refine s_icmp_ne (tgt := 80) dX11_spanToSplit_44 (by decide) (by omega) (fun h44 => ?_) (fun h44 => ?_)) | ((with_reducible refine mk_mn ?_); refine q_icmp_ne (tgt := 80) dX11_spanToSplit_44 (by decide) (by omega) (fun h44 => ?_) (fun h44 => ?_)) | ((with_reducible refine mk_nn ?_); refine n_icmp_ne (tgt := 80) dX11_spanToSplit_44 (by decide) (by omega) (by omega) (fun h44 => ?_) (fun h44 => ?_)) | refine e_icmp_ne (tgt := 80) dX11_spanToSplit_44 (by decide) (fun h44 => ?_) (fun h44 => ?_)
                    · try first | contradiction | omega
                      all_goals
                        first | refine n_inc dX11_spanToSplit_80 rfl (Nat.le_of_ble_eq_true rfl) rfl ?_ | refine e_iinc dX11_spanToSplit_80 rfl rfl (Nat.le_of_ble_eq_true rfl) rfl ?_
                        refine e_goto (tgt := 4) dX11_spanToSplit_83 (by decide) ?_
                        first | (rw [bst_f (c := fun i => decide (w (42 + i) = h) && (mvL w (w (10 + i))).isNone && (mdO w i).isSome) (b := fun i q => decide (wtF w q < wtF w i)) (n := j) (by grind), hb] at ih; first | exact ih | exact EV_ls (by repeat (first | exact lsub_0 | refine lsub_n ?_ | refine lsub_s ?_)) ih) | (rw [bst_0 (c := fun i => decide (w (42 + i) = h) && (mvL w (w (10 + i))).isNone && (mdO w i).isSome) (b := fun i q => decide (wtF w q < wtF w i)) (n := j) (by grind) hb] at ih; first | exact ih | exact EV_ls (by repeat (first | exact lsub_0 | refine lsub_n ?_ | refine lsub_s ?_)) ih)
                    · try first | contradiction | omega
                      all_goals
                        refine e_aload_n dX11_spanToSplit_47 rfl rfl ?_
                        refine e_iload_n dX11_spanToSplit_48 rfl rfl ?_
                        refine x_V1 (M' := mX11_middleIn) dX11_spanToSplit_49 ml_X11_107 ok_X11_middleIn (by decide) rfl im_X11_middleIn se_X11_middleIn (ct_X11_middleIn ‹_› ‹_› (by omega)) (Nat.le_of_ble_eq_true rfl) (by decide) (Nat.le_of_ble_eq_true rfl) ?_
                        rw [hmd]
                        refine e_iconst (v := -1) dX11_spanToSplit_52 rfl ?_
                        first | ((with_reducible refine mk_mo ?_); refine p_icmp_ne (tgt := 59) dX11_spanToSplit_53 (by decide) (fun h53 => ?_) (fun h53 => ?_)) | ((with_reducible refine mk_ms ?_); refine s_icmp_ne (tgt := 59) dX11_spanToSplit_53 (by decide) (by omega) (fun h53 => ?_) (fun h53 => ?_)) | ((with_reducible refine mk_mn ?_); refine q_icmp_ne (tgt := 59) dX11_spanToSplit_53 (by decide) (by omega) (fun h53 => ?_) (fun h53 => ?_)) | ((with_reducible refine mk_nn ?_); refine n_icmp_ne (tgt := 59) dX11_spanToSplit_53 (by decide) (by omega) (by omega) (fun h53 => ?_) (fun h53 => ?_)) | refine e_icmp_ne (tgt := 59) dX11_spanToSplit_53 (by decide) (fun h53 => ?_) (fun h53 => ?_)
                        · try first | contradiction | omega
                          all_goals
                            refine e_iload_n dX11_spanToSplit_59 rfl rfl ?_
                            refine e_iconst (v := -1) dX11_spanToSplit_60 rfl ?_
                            first | ((with_reducible refine mk_mo ?_); refine p_icmp_eq (tgt := 78) dX11_spanToSplit_61 (by decide) (fun h61 => ?_) (fun h61 => ?_)) | ((with_reducible refine mk_ms ?_); refine s_icmp_eq (tgt := 78) dX11_spanToSplit_61 (by decide) (by omega) (fun h61 => ?_) (fun h61 => ?_)) | ((with_reducible refine mk_mn ?_); refine q_icmp_eq (tgt := 78) dX11_spanToSplit_61 (by decide) (by omega) (fun h61 => ?_) (fun h61 => ?_)) | ((with_reducible refine mk_nn ?_); refine n_icmp_eq (tgt := 78) dX11_spanToSplit_61 (by decide) (by omega) (by omega) (fun h61 => ?_) (fun h61 => ?_)) | refine e_icmp_eq (tgt := 78) dX11_spanToSplit_61 (by decide) (fun h61 => ?_) (fun h61 => ?_)
                            · try first | contradiction | omega
                              all_goals
                                refine e_iload_n dX11_spanToSplit_78 rfl rfl ?_
                                refine e_istore_n dX11_spanToSplit_79 rfl (Nat.le_of_ble_eq_true rfl) rfl ?_
                                first | refine n_inc dX11_spanToSplit_80 rfl (Nat.le_of_ble_eq_true rfl) rfl ?_ | refine e_iinc dX11_spanToSplit_80 rfl rfl (Nat.le_of_ble_eq_true rfl) rfl ?_
                                refine e_goto (tgt := 4) dX11_spanToSplit_83 (by decide) ?_
                                first | (rw [bst_f (c := fun i => decide (w (42 + i) = h) && (mvL w (w (10 + i))).isNone && (mdO w i).isSome) (b := fun i q => decide (wtF w q < wtF w i)) (n := j) (by grind), hb] at ih; first | exact ih | exact EV_ls (by repeat (first | exact lsub_0 | refine lsub_n ?_ | refine lsub_s ?_)) ih) | (rw [bst_0 (c := fun i => decide (w (42 + i) = h) && (mvL w (w (10 + i))).isNone && (mdO w i).isSome) (b := fun i q => decide (wtF w q < wtF w i)) (n := j) (by grind) hb] at ih; first | exact ih | exact EV_ls (by repeat (first | exact lsub_0 | refine lsub_n ?_ | refine lsub_s ?_)) ih)
                            · try first | contradiction | omega
                              all_goals
                                refine e_aload_n dX11_spanToSplit_64 rfl rfl ?_
                                refine e_iload_n dX11_spanToSplit_65 rfl rfl ?_
                                refine x_V1 (M' := mX11_weightOf) dX11_spanToSplit_66 ml_X11_73 ok_X11_weightOf (by decide) rfl im_X11_weightOf se_X11_weightOf (ct_X11_weightOf ‹_› ‹_› (by omega)) (Nat.le_of_ble_eq_true rfl) (by decide) (Nat.le_of_ble_eq_true rfl) ?_
                                refine e_aload_n dX11_spanToSplit_69 rfl rfl ?_
                                refine e_iload_n dX11_spanToSplit_70 rfl rfl ?_
                                refine x_V1 (M' := mX11_weightOf) dX11_spanToSplit_71 ml_X11_73 ok_X11_weightOf (by decide) rfl im_X11_weightOf se_X11_weightOf (ct_X11_weightOf ‹_› ‹_› (by omega)) (Nat.le_of_ble_eq_true rfl) (by decide) (Nat.le_of_ble_eq_true rfl) ?_
                                refine e_lcmp dX11_spanToSplit_74 ?_
                                first | ((with_reducible refine mk_ll ?_); refine m_if_le (tgt := 80) dX11_spanToSplit_75 (by decide) (by omega) (by omega) (fun h75 => ?_) (fun h75 => ?_)) | ((with_reducible refine mk_lc ?_); refine l_if_le (tgt := 80) dX11_spanToSplit_75 (by decide) (fun h75 => ?_) (fun h75 => ?_)) | ((with_reducible refine mk_n ?_); refine n_if_le (tgt := 80) dX11_spanToSplit_75 (by decide) (by omega) (fun h75 => ?_) (fun h75 => ?_)) | refine e_if_le (tgt := 80) dX11_spanToSplit_75 (by decide) (fun h75 => ?_) (fun h75 => ?_)
                                · try first | contradiction | omega
                                  all_goals
                                    first | refine n_inc dX11_spanToSplit_80 rfl (Nat.le_of_ble_eq_true rfl) rfl ?_ | refine e_iinc dX11_spanToSplit_80 rfl rfl (Nat.le_of_ble_eq_true rfl) rfl ?_
                                    refine e_goto (tgt := 4) dX11_spanToSplit_83 (by decide) ?_
                                    first | (rw [bst_f (c := fun i => decide (w (42 + i) = h) && (mvL w (w (10 + i))).isNone && (mdO w i).isSome) (b := fun i q => decide (wtF w q < wtF w i)) (n := j) (by grind), hb] at ih; first | exact ih | exact EV_ls (by repeat (first | exact lsub_0 | refine lsub_n ?_ | refine lsub_s ?_)) ih) | (rw [bst_0 (c := fun i => decide (w (42 + i) = h) && (mvL w (w (10 + i))).isNone && (mdO w i).isSome) (b := fun i q => decide (wtF w q < wtF w i)) (n := j) (by grind) hb] at ih; first | exact ih | exact EV_ls (by repeat (first | exact lsub_0 | refine lsub_n ?_ | refine lsub_s ?_)) ih)
                                · try first | contradiction | omega
                                  all_goals
                                    refine e_iload_n dX11_spanToSplit_78 rfl rfl ?_
                                    refine e_istore_n dX11_spanToSplit_79 rfl (Nat.le_of_ble_eq_true rfl) rfl ?_
                                    first | refine n_inc dX11_spanToSplit_80 rfl (Nat.le_of_ble_eq_true rfl) rfl ?_ | refine e_iinc dX11_spanToSplit_80 rfl rfl (Nat.le_of_ble_eq_true rfl) rfl ?_
                                    refine e_goto (tgt := 4) dX11_spanToSplit_83 (by decide) ?_
                                    first | (rw [bst_f (c := fun i => decide (w (42 + i) = h) && (mvL w (w (10 + i))).isNone && (mdO w i).isSome) (b := fun i q => decide (wtF w q < wtF w i)) (n := j) (by grind), hb] at ih; first | exact ih | exact EV_ls (by repeat (first | exact lsub_0 | refine lsub_n ?_ | refine lsub_s ?_)) ih) | (rw [bst_0 (c := fun i => decide (w (42 + i) = h) && (mvL w (w (10 + i))).isNone && (mdO w i).isSome) (b := fun i q => decide (wtF w q < wtF w i)) (n := j) (by grind) hb] at ih; first | exact ih | exact EV_ls (by repeat (first | exact lsub_0 | refine lsub_n ?_ | refine lsub_s ?_)) ih)
                        · try first | contradiction | omega
                          all_goals
                            refine e_goto (tgt := 80) dX11_spanToSplit_56 (by decide) ?_
                            first | refine n_inc dX11_spanToSplit_80 rfl (Nat.le_of_ble_eq_true rfl) rfl ?_ | refine e_iinc dX11_spanToSplit_80 rfl rfl (Nat.le_of_ble_eq_true rfl) rfl ?_
                            refine e_goto (tgt := 4) dX11_spanToSplit_83 (by decide) ?_
                            first | (rw [bst_f (c := fun i => decide (w (42 + i) = h) && (mvL w (w (10 + i))).isNone && (mdO w i).isSome) (b := fun i q => decide (wtF w q < wtF w i)) (n := j) (by grind), hb] at ih; first | exact ih | exact EV_ls (by repeat (first | exact lsub_0 | refine lsub_n ?_ | refine lsub_s ?_)) ih) | (rw [bst_0 (c := fun i => decide (w (42 + i) = h) && (mvL w (w (10 + i))).isNone && (mdO w i).isSome) (b := fun i q => decide (wtF w q < wtF w i)) (n := j) (by grind) hb] at ih; first | exact ih | exact EV_ls (by repeat (first | exact lsub_0 | refine lsub_n ?_ | refine lsub_s ?_)) ih)
      | some q =>
        have hq := (bst_in hb).1
        have hqc := (bst_in hb).2
        rw [oI_s]
        have hw2 := wtF_le iv (i := q) (by omega)
        refine e_iload_n dX11_spanToSplit_4 rfl rfl ?_
        refine e_aload_n dX11_spanToSplit_5 rfl rfl ?_
        refine e_getR dX11_spanToSplit_6 fl_X11_7 rfl (by assumption) ?_
        refine e_iconst (v := nI 1) dX11_spanToSplit_9 rfl ?_
        first | ((with_reducible refine mk_ldw ?_); refine e_ldw dX11_spanToSplit_10 (by omega) ?_) | refine e_iald _ dX11_spanToSplit_10 ⟨by decide, by decide⟩ rfl rfl (by simp only [lenK]; omega) ?_
        first | ((with_reducible refine mk_nn ?_); refine n_icmp_ge (tgt := 86) dX11_spanToSplit_11 (by decide) (by omega) (by omega) (fun h11 => ?_) (fun h11 => ?_)) | refine e_icmp_ge (tgt := 86) dX11_spanToSplit_11 (by decide) (fun h11 => ?_) (fun h11 => ?_)
        · try first | contradiction | omega
          all_goals
            refine e_iload_n dX11_spanToSplit_86 rfl rfl ?_
            refine e_ret (some _) rfl (r_int dX11_spanToSplit_87 rfl) ?_
            exact xq (by first | rfl | simp_all [bI_t, bI_f]) rfl rfl rfl rfl rfl
        · try first | contradiction | omega
          all_goals
            refine e_aload_n dX11_spanToSplit_14 rfl rfl ?_
            refine e_getR dX11_spanToSplit_15 fl_X11_7 rfl (by assumption) ?_
            refine e_iconst (v := nI 1) dX11_spanToSplit_18 rfl ?_
            first | ((with_reducible refine mk_ldw ?_); refine e_ldw dX11_spanToSplit_19 (by omega) ?_) | refine e_iald _ dX11_spanToSplit_19 ⟨by decide, by decide⟩ rfl rfl (by simp only [lenK]; omega) ?_
            refine e_bipush (v := nI 32) dX11_spanToSplit_20 rfl ?_
            first | ((with_reducible refine mk_nn ?_); refine n_icmp_ge (tgt := 86) dX11_spanToSplit_22 (by decide) (by omega) (by omega) (fun h22 => ?_) (fun h22 => ?_)) | refine e_icmp_ge (tgt := 86) dX11_spanToSplit_22 (by decide) (fun h22 => ?_) (fun h22 => ?_)
            · try first | contradiction | omega
              all_goals
                refine e_iload_n dX11_spanToSplit_86 rfl rfl ?_
                refine e_ret (some _) rfl (r_int dX11_spanToSplit_87 rfl) ?_
                exact xq (by first | rfl | simp_all [bI_t, bI_f]) rfl rfl rfl rfl rfl
            · try first | contradiction | omega
              all_goals
                refine e_aload_n dX11_spanToSplit_25 rfl rfl ?_
                refine e_getR dX11_spanToSplit_26 fl_X11_7 rfl (by assumption) ?_
                refine e_bipush (v := nI 42) dX11_spanToSplit_29 rfl ?_
                refine e_iload_n dX11_spanToSplit_31 rfl rfl ?_
                first | ((with_reducible refine mk_nn ?_); refine n_iadd dX11_spanToSplit_32 ?_) | refine e_iadd dX11_spanToSplit_32 ?_
                first | ((with_reducible refine mk_ldw ?_); refine e_ldw dX11_spanToSplit_33 (by omega) ?_) | refine e_iald _ dX11_spanToSplit_33 ⟨by decide, by decide⟩ rfl rfl (by simp only [lenK]; omega) ?_
                refine e_iload_n dX11_spanToSplit_34 rfl rfl ?_
                first | ((with_reducible refine mk_mo ?_); refine p_icmp_ne (tgt := 80) dX11_spanToSplit_35 (by decide) (fun h35 => ?_) (fun h35 => ?_)) | ((with_reducible refine mk_ms ?_); refine s_icmp_ne (tgt := 80) dX11_spanToSplit_35 (by decide) (by omega) (fun h35 => ?_) (fun h35 => ?_)) | ((with_reducible refine mk_mn ?_); refine q_icmp_ne (tgt := 80) dX11_spanToSplit_35 (by decide) (by omega) (fun h35 => ?_) (fun h35 => ?_)) | ((with_reducible refine mk_nn ?_); refine n_icmp_ne (tgt := 80) dX11_spanToSplit_35 (by decide) (by omega) (by omega) (fun h35 => ?_) (fun h35 => ?_)) | refine e_icmp_ne (tgt := 80) dX11_spanToSplit_35 (by decide) (fun h35 => ?_) (fun h35 => ?_)
                · try first | contradiction | omega
                  all_goals
                    first | refine n_inc dX11_spanToSplit_80 rfl (Nat.le_of_ble_eq_true rfl) rfl ?_ | refine e_iinc dX11_spanToSplit_80 rfl rfl (Nat.le_of_ble_eq_true rfl) rfl ?_
                    refine e_goto (tgt := 4) dX11_spanToSplit_83 (by decide) ?_
                    first | (rw [bst_f (c := fun i => decide (w (42 + i) = h) && (mvL w (w (10 + i))).isNone && (mdO w i).isSome) (b := fun i q => decide (wtF w q < wtF w i)) (n := j) (by grind), hb] at ih; first | exact ih | exact EV_ls (by repeat (first | exact lsub_0 | refine lsub_n ?_ | refine lsub_s ?_)) ih) | (rw [bst_0 (c := fun i => decide (w (42 + i) = h) && (mvL w (w (10 + i))).isNone && (mdO w i).isSome) (b := fun i q => decide (wtF w q < wtF w i)) (n := j) (by grind) hb] at ih; first | exact ih | exact EV_ls (by repeat (first | exact lsub_0 | refine lsub_n ?_ | refine lsub_s ?_)) ih) | (rw [bst_1 (c := fun i => decide (w (42 + i) = h) && (mvL w (w (10 + i))).isNone && (mdO w i).isSome) (b := fun i q => decide (wtF w q < wtF w i)) (n := j) (by grind) hb (by grind)] at ih; first | exact ih | exact EV_ls (by repeat (first | exact lsub_0 | refine lsub_n ?_ | refine lsub_s ?_)) ih) | (rw [bst_2 (c := fun i => decide (w (42 + i) = h) && (mvL w (w (10 + i))).isNone && (mdO w i).isSome) (b := fun i q => decide (wtF w q < wtF w i)) (n := j) (by grind) hb (by grind)] at ih; first | exact ih | exact EV_ls (by repeat (first | exact lsub_0 | refine lsub_n ?_ | refine lsub_s ?_)) ih)
                · try first | contradiction | omega
                  all_goals
                    refine e_aload_n dX11_spanToSplit_38 rfl rfl ?_
                    refine e_iload_n dX11_spanToSplit_39 rfl rfl ?_
                    refine x_V1 (M' := mX11_moveOfSpan) dX11_spanToSplit_40 ml_X11_79 ok_X11_moveOfSpan (by decide) rfl im_X11_moveOfSpan se_X11_moveOfSpan (ct_X11_moveOfSpan ‹_› ‹_› (by omega)) (Nat.le_of_ble_eq_true rfl) (by decide) (Nat.le_of_ble_eq_true rfl) ?_
                    rw [hmv]
                    refine e_iconst (v := -1) dX11_spanToSplit_43 rfl ?_
                    first | ((with_reducible refine mk_mo ?_); refine p_icmp_ne (tgt := 80) dX11_spanToSplit_44 (by decide) (fun h44 => ?_) (fun h44 => ?_)) | ((with_reducible refine mk_ms ?_); refine s_icmp_ne (tgt := 80) dX11_spanToSplit_44 (by decide) (by omega) (fun h44 => ?_) (fun h44 => ?_)) | ((with_reducible refine mk_mn ?_); refine q_icmp_ne (tgt := 80) dX11_spanToSplit_44 (by decide) (by omega) (fun h44 => ?_) (fun h44 => ?_)) | ((with_reducible refine mk_nn ?_); refine n_icmp_ne (tgt := 80) dX11_spanToSplit_44 (by decide) (by omega) (by omega) (fun h44 => ?_) (fun h44 => ?_)) | refine e_icmp_ne (tgt := 80) dX11_spanToSplit_44 (by decide) (fun h44 => ?_) (fun h44 => ?_)
                    · try first | contradiction | omega
                      all_goals
                        first | refine n_inc dX11_spanToSplit_80 rfl (Nat.le_of_ble_eq_true rfl) rfl ?_ | refine e_iinc dX11_spanToSplit_80 rfl rfl (Nat.le_of_ble_eq_true rfl) rfl ?_
                        refine e_goto (tgt := 4) dX11_spanToSplit_83 (by decide) ?_
                        first | (rw [bst_f (c := fun i => decide (w (42 + i) = h) && (mvL w (w (10 + i))).isNone && (mdO w i).isSome) (b := fun i q => decide (wtF w q < wtF w i)) (n := j) (by grind), hb] at ih; first | exact ih | exact EV_ls (by repeat (first | exact lsub_0 | refine lsub_n ?_ | refine lsub_s ?_)) ih) | (rw [bst_0 (c := fun i => decide (w (42 + i) = h) && (mvL w (w (10 + i))).isNone && (mdO w i).isSome) (b := fun i q => decide (wtF w q < wtF w i)) (n := j) (by grind) hb] at ih; first | exact ih | exact EV_ls (by repeat (first | exact lsub_0 | refine lsub_n ?_ | refine lsub_s ?_)) ih) | (rw [bst_1 (c := fun i => decide (w (42 + i) = h) && (mvL w (w (10 + i))).isNone && (mdO w i).isSome) (b := fun i q => decide (wtF w q < wtF w i)) (n := j) (by grind) hb (by grind)] at ih; first | exact ih | exact EV_ls (by repeat (first | exact lsub_0 | refine lsub_n ?_ | refine lsub_s ?_)) ih) | (rw [bst_2 (c := fun i => decide (w (42 + i) = h) && (mvL w (w (10 + i))).isNone && (mdO w i).isSome) (b := fun i q => decide (wtF w q < wtF w i)) (n := j) (by grind) hb (by grind)] at ih; first | exact ih | exact EV_ls (by repeat (first | exact lsub_0 | refine lsub_n ?_ | refine lsub_s ?_)) ih)
                    · try first | contradiction | omega
                      all_goals
                        refine e_aload_n dX11_spanToSplit_47 rfl rfl ?_
                        refine e_iload_n dX11_spanToSplit_48 rfl rfl ?_
                        refine x_V1 (M' := mX11_middleIn) dX11_spanToSplit_49 ml_X11_107 ok_X11_middleIn (by decide) rfl im_X11_middleIn se_X11_middleIn (ct_X11_middleIn ‹_› ‹_› (by omega)) (Nat.le_of_ble_eq_true rfl) (by decide) (Nat.le_of_ble_eq_true rfl) ?_
                        rw [hmd]
                        refine e_iconst (v := -1) dX11_spanToSplit_52 rfl ?_
                        first | ((with_reducible refine mk_mo ?_); refine p_icmp_ne (tgt := 59) dX11_spanToSplit_53 (by decide) (fun h53 => ?_) (fun h53 => ?_)) | ((with_reducible refine mk_ms ?_); refine s_icmp_ne (tgt := 59) dX11_spanToSplit_53 (by decide) (by omega) (fun h53 => ?_) (fun h53 => ?_)) | ((with_reducible refine mk_mn ?_); refine q_icmp_ne (tgt := 59) dX11_spanToSplit_53 (by decide) (by omega) (fun h53 => ?_) (fun h53 => ?_)) | ((with_reducible refine mk_nn ?_); refine n_icmp_ne (tgt := 59) dX11_spanToSplit_53 (by decide) (by omega) (by omega) (fun h53 => ?_) (fun h53 => ?_)) | refine e_icmp_ne (tgt := 59) dX11_spanToSplit_53 (by decide) (fun h53 => ?_) (fun h53 => ?_)
                        · try first | contradiction | omega
                          all_goals
                            refine e_iload_n dX11_spanToSplit_59 rfl rfl ?_
                            refine e_iconst (v := -1) dX11_spanToSplit_60 rfl ?_
                            first | ((with_reducible refine mk_mo ?_); refine p_icmp_eq (tgt := 78) dX11_spanToSplit_61 (by decide) (fun h61 => ?_) (fun h61 => ?_)) | ((with_reducible refine mk_ms ?_); refine s_icmp_eq (tgt := 78) dX11_spanToSplit_61 (by decide) (by omega) (fun h61 => ?_) (fun h61 => ?_)) | ((with_reducible refine mk_mn ?_); refine q_icmp_eq (tgt := 78) dX11_spanToSplit_61 (by decide) (by omega) (fun h61 => ?_) (fun h61 => ?_)) | ((with_reducible refine mk_nn ?_); refine n_icmp_eq (tgt := 78) dX11_spanToSplit_61 (by decide) (by omega) (by omega) (fun h61 => ?_) (fun h61 => ?_)) | refine e_icmp_eq (tgt := 78) dX11_spanToSplit_61 (by decide) (fun h61 => ?_) (fun h61 => ?_)
                            · try first | contradiction | omega
                              all_goals
                                refine e_iload_n dX11_spanToSplit_78 rfl rfl ?_
                                refine e_istore_n dX11_spanToSplit_79 rfl (Nat.le_of_ble_eq_true rfl) rfl ?_
                                first | refine n_inc dX11_spanToSplit_80 rfl (Nat.le_of_ble_eq_true rfl) rfl ?_ | refine e_iinc dX11_spanToSplit_80 rfl rfl (Nat.le_of_ble_eq_true rfl) rfl ?_
                                refine e_goto (tgt := 4) dX11_spanToSplit_83 (by decide) ?_
                                first | (rw [bst_f (c := fun i => decide (w (42 + i) = h) && (mvL w (w (10 + i))).isNone && (mdO w i).isSome) (b := fun i q => decide (wtF w q < wtF w i)) (n := j) (by grind), hb] at ih; first | exact ih | exact EV_ls (by repeat (first | exact lsub_0 | refine lsub_n ?_ | refine lsub_s ?_)) ih) | (rw [bst_0 (c := fun i => decide (w (42 + i) = h) && (mvL w (w (10 + i))).isNone && (mdO w i).isSome) (b := fun i q => decide (wtF w q < wtF w i)) (n := j) (by grind) hb] at ih; first | exact ih | exact EV_ls (by repeat (first | exact lsub_0 | refine lsub_n ?_ | refine lsub_s ?_)) ih) | (rw [bst_1 (c := fun i => decide (w (42 + i) = h) && (mvL w (w (10 + i))).isNone && (mdO w i).isSome) (b := fun i q => decide (wtF w q < wtF w i)) (n := j) (by grind) hb (by grind)] at ih; first | exact ih | exact EV_ls (by repeat (first | exact lsub_0 | refine lsub_n ?_ | refine lsub_s ?_)) ih) | (rw [bst_2 (c := fun i => decide (w (42 + i) = h) && (mvL w (w (10 + i))).isNone && (mdO w i).isSome) (b := fun i q => decide (wtF w q < wtF w i)) (n := j) (by grind) hb (by grind)] at ih; first | exact ih | exact EV_ls (by repeat (first | exact lsub_0 | refine lsub_n ?_ | refine lsub_s ?_)) ih)
                            · try first | contradiction | omega
                              all_goals
                                refine e_aload_n dX11_spanToSplit_64 rfl rfl ?_
                                refine e_iload_n dX11_spanToSplit_65 rfl rfl ?_
                                refine x_V1 (M' := mX11_weightOf) dX11_spanToSplit_66 ml_X11_73 ok_X11_weightOf (by decide) rfl im_X11_weightOf se_X11_weightOf (ct_X11_weightOf ‹_› ‹_› (by omega)) (Nat.le_of_ble_eq_true rfl) (by decide) (Nat.le_of_ble_eq_true rfl) ?_
                                refine e_aload_n dX11_spanToSplit_69 rfl rfl ?_
                                refine e_iload_n dX11_spanToSplit_70 rfl rfl ?_
                                refine x_V1 (M' := mX11_weightOf) dX11_spanToSplit_71 ml_X11_73 ok_X11_weightOf (by decide) rfl im_X11_weightOf se_X11_weightOf (ct_X11_weightOf ‹_› ‹_› (by omega)) (Nat.le_of_ble_eq_true rfl) (by decide) (Nat.le_of_ble_eq_true rfl) ?_
                                refine e_lcmp dX11_spanToSplit_74 ?_
                                first | ((with_reducible refine mk_ll ?_); refine m_if_le (tgt := 80) dX11_spanToSplit_75 (by decide) (by omega) (by omega) (fun h75 => ?_) (fun h75 => ?_)) | ((with_reducible refine mk_lc ?_); refine l_if_le (tgt := 80) dX11_spanToSplit_75 (by decide) (fun h75 => ?_) (fun h75 => ?_)) | ((with_reducible refine mk_n ?_); refine n_if_le (tgt := 80) dX11_spanToSplit_75 (by decide) (by omega) (fun h75 => ?_) (fun h75 => ?_)) | refine e_if_le (tgt := 80) dX11_spanToSplit_75 (by decide) (fun h75 => ?_) (fun h75 => ?_)
                                · try first | contradiction | omega
                                  all_goals
                                    first | refine n_inc dX11_spanToSplit_80 rfl (Nat.le_of_ble_eq_true rfl) rfl ?_ | refine e_iinc dX11_spanToSplit_80 rfl rfl (Nat.le_of_ble_eq_true rfl) rfl ?_
                                    refine e_goto (tgt := 4) dX11_spanToSplit_83 (by decide) ?_
                                    first | (rw [bst_f (c := fun i => decide (w (42 + i) = h) && (mvL w (w (10 + i))).isNone && (mdO w i).isSome) (b := fun i q => decide (wtF w q < wtF w i)) (n := j) (by grind), hb] at ih; first | exact ih | exact EV_ls (by repeat (first | exact lsub_0 | refine lsub_n ?_ | refine lsub_s ?_)) ih) | (rw [bst_0 (c := fun i => decide (w (42 + i) = h) && (mvL w (w (10 + i))).isNone && (mdO w i).isSome) (b := fun i q => decide (wtF w q < wtF w i)) (n := j) (by grind) hb] at ih; first | exact ih | exact EV_ls (by repeat (first | exact lsub_0 | refine lsub_n ?_ | refine lsub_s ?_)) ih) | (rw [bst_1 (c := fun i => decide (w (42 + i) = h) && (mvL w (w (10 + i))).isNone && (mdO w i).isSome) (b := fun i q => decide (wtF w q < wtF w i)) (n := j) (by grind) hb (by grind)] at ih; first | exact ih | exact EV_ls (by repeat (first | exact lsub_0 | refine lsub_n ?_ | refine lsub_s ?_)) ih) | (rw [bst_2 (c := fun i => decide (w (42 + i) = h) && (mvL w (w (10 + i))).isNone && (mdO w i).isSome) (b := fun i q => decide (wtF w q < wtF w i)) (n := j) (by grind) hb (by grind)] at ih; first | exact ih | exact EV_ls (by repeat (first | exact lsub_0 | refine lsub_n ?_ | refine lsub_s ?_)) ih)
                                · try first | contradiction | omega
                                  all_goals
                                    refine e_iload_n dX11_spanToSplit_78 rfl rfl ?_
                                    refine e_istore_n dX11_spanToSplit_79 rfl (Nat.le_of_ble_eq_true rfl) rfl ?_
                                    first | refine n_inc dX11_spanToSplit_80 rfl (Nat.le_of_ble_eq_true rfl) rfl ?_ | refine e_iinc dX11_spanToSplit_80 rfl rfl (Nat.le_of_ble_eq_true rfl) rfl ?_
                                    refine e_goto (tgt := 4) dX11_spanToSplit_83 (by decide) ?_
                                    first | (rw [bst_f (c := fun i => decide (w (42 + i) = h) && (mvL w (w (10 + i))).isNone && (mdO w i).isSome) (b := fun i q => decide (wtF w q < wtF w i)) (n := j) (by grind), hb] at ih; first | exact ih | exact EV_ls (by repeat (first | exact lsub_0 | refine lsub_n ?_ | refine lsub_s ?_)) ih) | (rw [bst_0 (c := fun i => decide (w (42 + i) = h) && (mvL w (w (10 + i))).isNone && (mdO w i).isSome) (b := fun i q => decide (wtF w q < wtF w i)) (n := j) (by grind) hb] at ih; first | exact ih | exact EV_ls (by repeat (first | exact lsub_0 | refine lsub_n ?_ | refine lsub_s ?_)) ih) | (rw [bst_1 (c := fun i => decide (w (42 + i) = h) && (mvL w (w (10 + i))).isNone && (mdO w i).isSome) (b := fun i q => decide (wtF w q < wtF w i)) (n := j) (by grind) hb (by grind)] at ih; first | exact ih | exact EV_ls (by repeat (first | exact lsub_0 | refine lsub_n ?_ | refine lsub_s ?_)) ih) | (rw [bst_2 (c := fun i => decide (w (42 + i) = h) && (mvL w (w (10 + i))).isNone && (mdO w i).isSome) (b := fun i q => decide (wtF w q < wtF w i)) (n := j) (by grind) hb (by grind)] at ih; first | exact ih | exact EV_ls (by repeat (first | exact lsub_0 | refine lsub_n ?_ | refine lsub_s ?_)) ih)
                        · try first | contradiction | omega
                          all_goals
                            refine e_goto (tgt := 80) dX11_spanToSplit_56 (by decide) ?_
                            first | refine n_inc dX11_spanToSplit_80 rfl (Nat.le_of_ble_eq_true rfl) rfl ?_ | refine e_iinc dX11_spanToSplit_80 rfl rfl (Nat.le_of_ble_eq_true rfl) rfl ?_
                            refine e_goto (tgt := 4) dX11_spanToSplit_83 (by decide) ?_
                            first | (rw [bst_f (c := fun i => decide (w (42 + i) = h) && (mvL w (w (10 + i))).isNone && (mdO w i).isSome) (b := fun i q => decide (wtF w q < wtF w i)) (n := j) (by grind), hb] at ih; first | exact ih | exact EV_ls (by repeat (first | exact lsub_0 | refine lsub_n ?_ | refine lsub_s ?_)) ih) | (rw [bst_0 (c := fun i => decide (w (42 + i) = h) && (mvL w (w (10 + i))).isNone && (mdO w i).isSome) (b := fun i q => decide (wtF w q < wtF w i)) (n := j) (by grind) hb] at ih; first | exact ih | exact EV_ls (by repeat (first | exact lsub_0 | refine lsub_n ?_ | refine lsub_s ?_)) ih) | (rw [bst_1 (c := fun i => decide (w (42 + i) = h) && (mvL w (w (10 + i))).isNone && (mdO w i).isSome) (b := fun i q => decide (wtF w q < wtF w i)) (n := j) (by grind) hb (by grind)] at ih; first | exact ih | exact EV_ls (by repeat (first | exact lsub_0 | refine lsub_n ?_ | refine lsub_s ?_)) ih) | (rw [bst_2 (c := fun i => decide (w (42 + i) = h) && (mvL w (w (10 + i))).isNone && (mdO w i).isSome) (b := fun i q => decide (wtF w q < wtF w i)) (n := j) (by grind) hb (by grind)] at ih; first | exact ih | exact EV_ls (by repeat (first | exact lsub_0 | refine lsub_n ?_ | refine lsub_s ?_)) ih)
    ) (by
    refine e_iload_n dX11_spanToSplit_4 rfl rfl ?_
    refine e_aload_n dX11_spanToSplit_5 rfl rfl ?_
    refine e_getR dX11_spanToSplit_6 fl_X11_7 rfl (by assumption) ?_
    refine e_iconst (v := nI 1) dX11_spanToSplit_9 rfl ?_
    first | ((with_reducible refine mk_ldw ?_); refine e_ldw dX11_spanToSplit_10 (by omega) ?_) | refine e_iald _ dX11_spanToSplit_10 ⟨by decide, by decide⟩ rfl rfl (by simp only [lenK]; omega) ?_
    first | ((with_reducible refine mk_nn ?_); refine n_icmp_ge (tgt := 86) dX11_spanToSplit_11 (by decide) (by omega) (by omega) (fun h11 => ?_) (fun h11 => ?_)) | refine e_icmp_ge (tgt := 86) dX11_spanToSplit_11 (by decide) (fun h11 => ?_) (fun h11 => ?_)
    · try first | contradiction | omega
      all_goals
        refine e_iload_n dX11_spanToSplit_86 rfl rfl ?_
        refine e_ret (some _) rfl (r_int dX11_spanToSplit_87 rfl) ?_
        refine xq ?_ rfl rfl rfl rfl rfl
        unfold ssO
        rw [if_pos (by omega)]
    · try first | contradiction | omega
      all_goals
        refine e_aload_n dX11_spanToSplit_14 rfl rfl ?_
        refine e_getR dX11_spanToSplit_15 fl_X11_7 rfl (by assumption) ?_
        refine e_iconst (v := nI 1) dX11_spanToSplit_18 rfl ?_
        first | ((with_reducible refine mk_ldw ?_); refine e_ldw dX11_spanToSplit_19 (by omega) ?_) | refine e_iald _ dX11_spanToSplit_19 ⟨by decide, by decide⟩ rfl rfl (by simp only [lenK]; omega) ?_
        refine e_bipush (v := nI 32) dX11_spanToSplit_20 rfl ?_
        first | ((with_reducible refine mk_nn ?_); refine n_icmp_ge (tgt := 86) dX11_spanToSplit_22 (by decide) (by omega) (by omega) (fun h22 => ?_) (fun h22 => ?_)) | refine e_icmp_ge (tgt := 86) dX11_spanToSplit_22 (by decide) (fun h22 => ?_) (fun h22 => ?_)
        · try first | contradiction | omega
          all_goals
            refine e_iload_n dX11_spanToSplit_86 rfl rfl ?_
            refine e_ret (some _) rfl (r_int dX11_spanToSplit_87 rfl) ?_
            refine xq ?_ rfl rfl rfl rfl rfl
            unfold ssO
            rw [if_pos (by omega)]
        · try first | contradiction | omega
          all_goals
            refine e_aload_n dX11_spanToSplit_25 rfl rfl ?_
            refine e_getR dX11_spanToSplit_26 fl_X11_7 rfl (by assumption) ?_
            refine e_bipush (v := nI 42) dX11_spanToSplit_29 rfl ?_
            refine e_iload_n dX11_spanToSplit_31 rfl rfl ?_
            first | ((with_reducible refine mk_nn ?_); refine n_iadd dX11_spanToSplit_32 ?_) | refine e_iadd dX11_spanToSplit_32 ?_
            first | ((with_reducible refine mk_ldw ?_); refine e_ldw dX11_spanToSplit_33 (by omega) ?_) | refine e_iald _ dX11_spanToSplit_33 ⟨by decide, by decide⟩ rfl rfl (by simp only [lenK]; omega) ?_
            refine e_iload_n dX11_spanToSplit_34 rfl rfl ?_
            first | ((with_reducible refine mk_mo ?_); refine p_icmp_ne (tgt := 80) dX11_spanToSplit_35 (by decide) (fun h35 => ?_) (fun h35 => ?_)) | ((with_reducible refine mk_ms ?_); refine s_icmp_ne (tgt := 80) dX11_spanToSplit_35 (by decide) (by omega) (fun h35 => ?_) (fun h35 => ?_)) | ((with_reducible refine mk_mn ?_); refine q_icmp_ne (tgt := 80) dX11_spanToSplit_35 (by decide) (by omega) (fun h35 => ?_) (fun h35 => ?_)) | ((with_reducible refine mk_nn ?_); refine n_icmp_ne (tgt := 80) dX11_spanToSplit_35 (by decide) (by omega) (by omega) (fun h35 => ?_) (fun h35 => ?_)) | refine e_icmp_ne (tgt := 80) dX11_spanToSplit_35 (by decide) (fun h35 => ?_) (fun h35 => ?_)
            · try first | contradiction | omega
              all_goals
                first | refine n_inc dX11_spanToSplit_80 rfl (Nat.le_of_ble_eq_true rfl) rfl ?_ | refine e_iinc dX11_spanToSplit_80 rfl rfl (Nat.le_of_ble_eq_true rfl) rfl ?_
                refine e_goto (tgt := 4) dX11_spanToSplit_83 (by decide) ?_
                first | (rw [bst_f (c := fun i => decide (w (42 + i) = h) && (mvL w (w (10 + i))).isNone && (mdO w i).isSome) (b := fun i q => decide (wtF w q < wtF w i)) (n := j) (by grind), hb] at ih; first | exact ih | exact EV_ls (by repeat (first | exact lsub_0 | refine lsub_n ?_ | refine lsub_s ?_)) ih) | (rw [bst_0 (c := fun i => decide (w (42 + i) = h) && (mvL w (w (10 + i))).isNone && (mdO w i).isSome) (b := fun i q => decide (wtF w q < wtF w i)) (n := j) (by grind) hb] at ih; first | exact ih | exact EV_ls (by repeat (first | exact lsub_0 | refine lsub_n ?_ | refine lsub_s ?_)) ih) | (rw [bst_1 (c := fun i => decide (w (42 + i) = h) && (mvL w (w (10 + i))).isNone && (mdO w i).isSome) (b := fun i q => decide (wtF w q < wtF w i)) (n := j) (by grind) hb (by grind)] at ih; first | exact ih | exact EV_ls (by repeat (first | exact lsub_0 | refine lsub_n ?_ | refine lsub_s ?_)) ih) | (rw [bst_2 (c := fun i => decide (w (42 + i) = h) && (mvL w (w (10 + i))).isNone && (mdO w i).isSome) (b := fun i q => decide (wtF w q < wtF w i)) (n := j) (by grind) hb (by grind)] at ih; first | exact ih | exact EV_ls (by repeat (first | exact lsub_0 | refine lsub_n ?_ | refine lsub_s ?_)) ih)
            · try first | contradiction | omega
              all_goals
                refine e_aload_n dX11_spanToSplit_38 rfl rfl ?_
                refine e_iload_n dX11_spanToSplit_39 rfl rfl ?_
                refine x_V1 (M' := mX11_moveOfSpan) dX11_spanToSplit_40 ml_X11_79 ok_X11_moveOfSpan (by decide) rfl im_X11_moveOfSpan se_X11_moveOfSpan (ct_X11_moveOfSpan ‹_› ‹_› (by omega)) (Nat.le_of_ble_eq_true rfl) (by decide) (Nat.le_of_ble_eq_true rfl) ?_
                rw [hmv]
                refine e_iconst (v := -1) dX11_spanToSplit_43 rfl ?_
                first | ((with_reducible refine mk_mo ?_); refine p_icmp_ne (tgt := 80) dX11_spanToSplit_44 (by decide) (fun h44 => ?_) (fun h44 => ?_)) | ((with_reducible refine mk_ms ?_); refine s_icmp_ne (tgt := 80) dX11_spanToSplit_44 (by decide) (by omega) (fun h44 => ?_) (fun h44 => ?_)) | ((with_reducible refine mk_mn ?_); refine q_icmp_ne (tgt := 80) dX11_spanToSplit_44 (by decide) (by omega) (fun h44 => ?_) (fun h44 => ?_)) | ((with_reducible refine mk_nn ?_); refine n_icmp_ne (tgt := 80) dX11_spanToSplit_44 (by decide) (by omega) (by omega) (fun h44 => ?_) (fun h44 => ?_)) | refine e_icmp_ne (tgt := 80) dX11_spanToSplit_44 (by decide) (fun h44 => ?_) (fun h44 => ?_)
                · try first | contradiction | omega
                  all_goals
                    first | refine n_inc dX11_spanToSplit_80 rfl (Nat.le_of_ble_eq_true rfl) rfl ?_ | refine e_iinc dX11_spanToSplit_80 rfl rfl (Nat.le_of_ble_eq_true rfl) rfl ?_
                    refine e_goto (tgt := 4) dX11_spanToSplit_83 (by decide) ?_
                    first | (rw [bst_f (c := fun i => decide (w (42 + i) = h) && (mvL w (w (10 + i))).isNone && (mdO w i).isSome) (b := fun i q => decide (wtF w q < wtF w i)) (n := j) (by grind), hb] at ih; first | exact ih | exact EV_ls (by repeat (first | exact lsub_0 | refine lsub_n ?_ | refine lsub_s ?_)) ih) | (rw [bst_0 (c := fun i => decide (w (42 + i) = h) && (mvL w (w (10 + i))).isNone && (mdO w i).isSome) (b := fun i q => decide (wtF w q < wtF w i)) (n := j) (by grind) hb] at ih; first | exact ih | exact EV_ls (by repeat (first | exact lsub_0 | refine lsub_n ?_ | refine lsub_s ?_)) ih) | (rw [bst_1 (c := fun i => decide (w (42 + i) = h) && (mvL w (w (10 + i))).isNone && (mdO w i).isSome) (b := fun i q => decide (wtF w q < wtF w i)) (n := j) (by grind) hb (by grind)] at ih; first | exact ih | exact EV_ls (by repeat (first | exact lsub_0 | refine lsub_n ?_ | refine lsub_s ?_)) ih) | (rw [bst_2 (c := fun i => decide (w (42 + i) = h) && (mvL w (w (10 + i))).isNone && (mdO w i).isSome) (b := fun i q => decide (wtF w q < wtF w i)) (n := j) (by grind) hb (by grind)] at ih; first | exact ih | exact EV_ls (by repeat (first | exact lsub_0 | refine lsub_n ?_ | refine lsub_s ?_)) ih)
                · try first | contradiction | omega
                  all_goals
                    refine e_aload_n dX11_spanToSplit_47 rfl rfl ?_
                    refine e_iload_n dX11_spanToSplit_48 rfl rfl ?_
                    refine x_V1 (M' := mX11_middleIn) dX11_spanToSplit_49 ml_X11_107 ok_X11_middleIn (by decide) rfl im_X11_middleIn se_X11_middleIn (ct_X11_middleIn ‹_› ‹_› (by omega)) (Nat.le_of_ble_eq_true rfl) (by decide) (Nat.le_of_ble_eq_true rfl) ?_
                    rw [hmd]
                    refine e_iconst (v := -1) dX11_spanToSplit_52 rfl ?_
                    first | ((with_reducible refine mk_mo ?_); refine p_icmp_ne (tgt := 59) dX11_spanToSplit_53 (by decide) (fun h53 => ?_) (fun h53 => ?_)) | ((with_reducible refine mk_ms ?_); refine s_icmp_ne (tgt := 59) dX11_spanToSplit_53 (by decide) (by omega) (fun h53 => ?_) (fun h53 => ?_)) | ((with_reducible refine mk_mn ?_); refine q_icmp_ne (tgt := 59) dX11_spanToSplit_53 (by decide) (by omega) (fun h53 => ?_) (fun h53 => ?_)) | ((with_reducible refine mk_nn ?_); refine n_icmp_ne (tgt := 59) dX11_spanToSplit_53 (by decide) (by omega) (by omega) (fun h53 => ?_) (fun h53 => ?_)) | refine e_icmp_ne (tgt := 59) dX11_spanToSplit_53 (by decide) (fun h53 => ?_) (fun h53 => ?_)
                    · try first | contradiction | omega
                      all_goals
                        refine e_iload_n dX11_spanToSplit_59 rfl rfl ?_
                        refine e_iconst (v := -1) dX11_spanToSplit_60 rfl ?_
                        first | ((with_reducible refine mk_mo ?_); refine p_icmp_eq (tgt := 78) dX11_spanToSplit_61 (by decide) (fun h61 => ?_) (fun h61 => ?_)) | ((with_reducible refine mk_ms ?_); refine s_icmp_eq (tgt := 78) dX11_spanToSplit_61 (by decide) (by omega) (fun h61 => ?_) (fun h61 => ?_)) | ((with_reducible refine mk_mn ?_); refine q_icmp_eq (tgt := 78) dX11_spanToSplit_61 (by decide) (by omega) (fun h61 => ?_) (fun h61 => ?_)) | ((with_reducible refine mk_nn ?_); refine n_icmp_eq (tgt := 78) dX11_spanToSplit_61 (by decide) (by omega) (by omega) (fun h61 => ?_) (fun h61 => ?_)) | refine e_icmp_eq (tgt := 78) dX11_spanToSplit_61 (by decide) (fun h61 => ?_) (fun h61 => ?_)
                        · try first | contradiction | omega
                          all_goals
                            refine e_iload_n dX11_spanToSplit_78 rfl rfl ?_
                            refine e_istore_n dX11_spanToSplit_79 rfl (Nat.le_of_ble_eq_true rfl) rfl ?_
                            first | refine n_inc dX11_spanToSplit_80 rfl (Nat.le_of_ble_eq_true rfl) rfl ?_ | refine e_iinc dX11_spanToSplit_80 rfl rfl (Nat.le_of_ble_eq_true rfl) rfl ?_
                            refine e_goto (tgt := 4) dX11_spanToSplit_83 (by decide) ?_
                            first | (rw [bst_f (c := fun i => decide (w (42 + i) = h) && (mvL w (w (10 + i))).isNone && (mdO w i).isSome) (b := fun i q => decide (wtF w q < wtF w i)) (n := j) (by grind), hb] at ih; first | exact ih | exact EV_ls (by repeat (first | exact lsub_0 | refine lsub_n ?_ | refine lsub_s ?_)) ih) | (rw [bst_0 (c := fun i => decide (w (42 + i) = h) && (mvL w (w (10 + i))).isNone && (mdO w i).isSome) (b := fun i q => decide (wtF w q < wtF w i)) (n := j) (by grind) hb] at ih; first | exact ih | exact EV_ls (by repeat (first | exact lsub_0 | refine lsub_n ?_ | refine lsub_s ?_)) ih) | (rw [bst_1 (c := fun i => decide (w (42 + i) = h) && (mvL w (w (10 + i))).isNone && (mdO w i).isSome) (b := fun i q => decide (wtF w q < wtF w i)) (n := j) (by grind) hb (by grind)] at ih; first | exact ih | exact EV_ls (by repeat (first | exact lsub_0 | refine lsub_n ?_ | refine lsub_s ?_)) ih) | (rw [bst_2 (c := fun i => decide (w (42 + i) = h) && (mvL w (w (10 + i))).isNone && (mdO w i).isSome) (b := fun i q => decide (wtF w q < wtF w i)) (n := j) (by grind) hb (by grind)] at ih; first | exact ih | exact EV_ls (by repeat (first | exact lsub_0 | refine lsub_n ?_ | refine lsub_s ?_)) ih)
                        · try first | contradiction | omega
                          all_goals
                            refine e_aload_n dX11_spanToSplit_64 rfl rfl ?_
                            refine e_iload_n dX11_spanToSplit_65 rfl rfl ?_
                            refine x_V1 (M' := mX11_weightOf) dX11_spanToSplit_66 ml_X11_73 ok_X11_weightOf (by decide) rfl im_X11_weightOf se_X11_weightOf (ct_X11_weightOf ‹_› ‹_› (by omega)) (Nat.le_of_ble_eq_true rfl) (by decide) (Nat.le_of_ble_eq_true rfl) ?_
                            refine e_aload_n dX11_spanToSplit_69 rfl rfl ?_
                            refine e_iload_n dX11_spanToSplit_70 rfl rfl ?_
                            refine x_V1 (M' := mX11_weightOf) dX11_spanToSplit_71 ml_X11_73 ok_X11_weightOf (by decide) rfl im_X11_weightOf se_X11_weightOf (ct_X11_weightOf ‹_› ‹_› (by omega)) (Nat.le_of_ble_eq_true rfl) (by decide) (Nat.le_of_ble_eq_true rfl) ?_
                            refine e_lcmp dX11_spanToSplit_74 ?_
                            first | ((with_reducible refine mk_ll ?_); refine m_if_le (tgt := 80) dX11_spanToSplit_75 (by decide) (by omega) (by omega) (fun h75 => ?_) (fun h75 => ?_)) | ((with_reducible refine mk_lc ?_); refine l_if_le (tgt := 80) dX11_spanToSplit_75 (by decide) (fun h75 => ?_) (fun h75 => ?_)) | ((with_reducible refine mk_n ?_); refine n_if_le (tgt := 80) dX11_spanToSplit_75 (by decide) (by omega) (fun h75 => ?_) (fun h75 => ?_)) | refine e_if_le (tgt := 80) dX11_spanToSplit_75 (by decide) (fun h75 => ?_) (fun h75 => ?_)
                            · try first | contradiction | omega
                              all_goals
                                first | refine n_inc dX11_spanToSplit_80 rfl (Nat.le_of_ble_eq_true rfl) rfl ?_ | refine e_iinc dX11_spanToSplit_80 rfl rfl (Nat.le_of_ble_eq_true rfl) rfl ?_
                                refine e_goto (tgt := 4) dX11_spanToSplit_83 (by decide) ?_
                                first | (rw [bst_f (c := fun i => decide (w (42 + i) = h) && (mvL w (w (10 + i))).isNone && (mdO w i).isSome) (b := fun i q => decide (wtF w q < wtF w i)) (n := j) (by grind), hb] at ih; first | exact ih | exact EV_ls (by repeat (first | exact lsub_0 | refine lsub_n ?_ | refine lsub_s ?_)) ih) | (rw [bst_0 (c := fun i => decide (w (42 + i) = h) && (mvL w (w (10 + i))).isNone && (mdO w i).isSome) (b := fun i q => decide (wtF w q < wtF w i)) (n := j) (by grind) hb] at ih; first | exact ih | exact EV_ls (by repeat (first | exact lsub_0 | refine lsub_n ?_ | refine lsub_s ?_)) ih) | (rw [bst_1 (c := fun i => decide (w (42 + i) = h) && (mvL w (w (10 + i))).isNone && (mdO w i).isSome) (b := fun i q => decide (wtF w q < wtF w i)) (n := j) (by grind) hb (by grind)] at ih; first | exact ih | exact EV_ls (by repeat (first | exact lsub_0 | refine lsub_n ?_ | refine lsub_s ?_)) ih) | (rw [bst_2 (c := fun i => decide (w (42 + i) = h) && (mvL w (w (10 + i))).isNone && (mdO w i).isSome) (b := fun i q => decide (wtF w q < wtF w i)) (n := j) (by grind) hb (by grind)] at ih; first | exact ih | exact EV_ls (by repeat (first | exact lsub_0 | refine lsub_n ?_ | refine lsub_s ?_)) ih)
                            · try first | contradiction | omega
                              all_goals
                                refine e_iload_n dX11_spanToSplit_78 rfl rfl ?_
                                refine e_istore_n dX11_spanToSplit_79 rfl (Nat.le_of_ble_eq_true rfl) rfl ?_
                                first | refine n_inc dX11_spanToSplit_80 rfl (Nat.le_of_ble_eq_true rfl) rfl ?_ | refine e_iinc dX11_spanToSplit_80 rfl rfl (Nat.le_of_ble_eq_true rfl) rfl ?_
                                refine e_goto (tgt := 4) dX11_spanToSplit_83 (by decide) ?_
                                first | (rw [bst_f (c := fun i => decide (w (42 + i) = h) && (mvL w (w (10 + i))).isNone && (mdO w i).isSome) (b := fun i q => decide (wtF w q < wtF w i)) (n := j) (by grind), hb] at ih; first | exact ih | exact EV_ls (by repeat (first | exact lsub_0 | refine lsub_n ?_ | refine lsub_s ?_)) ih) | (rw [bst_0 (c := fun i => decide (w (42 + i) = h) && (mvL w (w (10 + i))).isNone && (mdO w i).isSome) (b := fun i q => decide (wtF w q < wtF w i)) (n := j) (by grind) hb] at ih; first | exact ih | exact EV_ls (by repeat (first | exact lsub_0 | refine lsub_n ?_ | refine lsub_s ?_)) ih) | (rw [bst_1 (c := fun i => decide (w (42 + i) = h) && (mvL w (w (10 + i))).isNone && (mdO w i).isSome) (b := fun i q => decide (wtF w q < wtF w i)) (n := j) (by grind) hb (by grind)] at ih; first | exact ih | exact EV_ls (by repeat (first | exact lsub_0 | refine lsub_n ?_ | refine lsub_s ?_)) ih) | (rw [bst_2 (c := fun i => decide (w (42 + i) = h) && (mvL w (w (10 + i))).isNone && (mdO w i).isSome) (b := fun i q => decide (wtF w q < wtF w i)) (n := j) (by grind) hb (by grind)] at ih; first | exact ih | exact EV_ls (by repeat (first | exact lsub_0 | refine lsub_n ?_ | refine lsub_s ?_)) ih)
                    · try first | contradiction | omega
                      all_goals
                        refine e_goto (tgt := 80) dX11_spanToSplit_56 (by decide) ?_
                        first | refine n_inc dX11_spanToSplit_80 rfl (Nat.le_of_ble_eq_true rfl) rfl ?_ | refine e_iinc dX11_spanToSplit_80 rfl rfl (Nat.le_of_ble_eq_true rfl) rfl ?_
                        refine e_goto (tgt := 4) dX11_spanToSplit_83 (by decide) ?_
                        first | (rw [bst_f (c := fun i => decide (w (42 + i) = h) && (mvL w (w (10 + i))).isNone && (mdO w i).isSome) (b := fun i q => decide (wtF w q < wtF w i)) (n := j) (by grind), hb] at ih; first | exact ih | exact EV_ls (by repeat (first | exact lsub_0 | refine lsub_n ?_ | refine lsub_s ?_)) ih) | (rw [bst_0 (c := fun i => decide (w (42 + i) = h) && (mvL w (w (10 + i))).isNone && (mdO w i).isSome) (b := fun i q => decide (wtF w q < wtF w i)) (n := j) (by grind) hb] at ih; first | exact ih | exact EV_ls (by repeat (first | exact lsub_0 | refine lsub_n ?_ | refine lsub_s ?_)) ih) | (rw [bst_1 (c := fun i => decide (w (42 + i) = h) && (mvL w (w (10 + i))).isNone && (mdO w i).isSome) (b := fun i q => decide (wtF w q < wtF w i)) (n := j) (by grind) hb (by grind)] at ih; first | exact ih | exact EV_ls (by repeat (first | exact lsub_0 | refine lsub_n ?_ | refine lsub_s ?_)) ih) | (rw [bst_2 (c := fun i => decide (w (42 + i) = h) && (mvL w (w (10 + i))).isNone && (mdO w i).isSome) (b := fun i q => decide (wtF w q < wtF w i)) (n := j) (by grind) hb (by grind)] at ih; first | exact ih | exact EV_ls (by repeat (first | exact lsub_0 | refine lsub_n ?_ | refine lsub_s ?_)) ih)
    )
  refine e_iconst (v := -1) dX11_spanToSplit_0 rfl ?_
  refine e_istore_n dX11_spanToSplit_1 rfl (Nat.le_of_ble_eq_true rfl) rfl ?_
  refine e_iconst (v := nI 0) dX11_spanToSplit_2 rfl ?_
  refine e_istore_n dX11_spanToSplit_3 rfl (Nat.le_of_ble_eq_true rfl) rfl ?_
  exact key 0 (by omega)
theorem ct_X11_switchBehind {fi : FI} {fr : FR} {ai : FI} {ar : FR} {N : Nat} {w : Nat → Nat} (sm : SM fr) (iv : Inv w) {e t k : Nat} (he : e < 2000) (ht : t < 2000) (hk : k < 1000) : CP mX11_switchBehind 1 0 0 [.ref (rf 11 80), .int (nI e), .int (nI t), .int (nI k)] fi fr (mW ai w) ar N (xQ (some (.int (oI (sbO w e t k)))) fi fr (mW ai w) ar N) := by
  obtain ⟨sW, sA, sK, sU, sC, sKC, sT, sCl⟩ := id sm
  have h1 := iv_n iv
  have h3 := iv_mm iv
  change EV mX11_switchBehind 1 0 0 0 [some (.ref (rf 11 80)), some (.int (nI e)), some (.int (nI t)), some (.int (nI k)), none, none, none] [] fi fr (mW ai w) ar N (xQ (some (.int (oI (sbO w e t k)))) fi fr (mW ai w) ar N)
  have key := ev_up (P := (fun j => EV mX11_switchBehind 1 0 0 6 [some (.ref (rf 11 80)), some (.int (nI e)), some (.int (nI t)), some (.int (nI k)), some (.int (oI (bst (fun m => decide (w (7694 + 72 * m + 11) ≠ 0) && decide (e + 1 ≤ w (7694 + 72 * m + 11) ∧ w (7694 + 72 * m + 11) ≤ t) && decide (w (7694 + 72 * m + 1) ≤ k ∧ k ≤ w (7694 + 72 * m + 2) - 1)) (fun m q => decide (w (7694 + 72 * m + 11) < w (7694 + 72 * q + 11))) j))), some (.int (nI j)), none] [] fi fr (mW ai w) ar N (xQ (some (.int (oI (sbO w e t k)))) fi fr (mW ai w) ar N))) (w 3) (fun j hj ih => by
    have hm := iv_mv iv hj
    cases hb : bst (fun m => decide (w (7694 + 72 * m + 11) ≠ 0) && decide (e + 1 ≤ w (7694 + 72 * m + 11) ∧ w (7694 + 72 * m + 11) ≤ t) && decide (w (7694 + 72 * m + 1) ≤ k ∧ k ≤ w (7694 + 72 * m + 2) - 1)) (fun m q => decide (w (7694 + 72 * m + 11) < w (7694 + 72 * q + 11))) j with
    | none =>
      refine e_iload dX11_switchBehind_6 rfl ?_
      refine e_aload_n dX11_switchBehind_8 rfl rfl ?_
      refine e_getR dX11_switchBehind_9 fl_X11_7 rfl (by assumption) ?_
      refine e_iconst (v := nI 3) dX11_switchBehind_12 rfl ?_
      first | ((with_reducible refine mk_ldw ?_); refine e_ldw dX11_switchBehind_13 (by omega) ?_) | refine e_iald _ dX11_switchBehind_13 ⟨by decide, by decide⟩ rfl rfl (by simp only [lenK]; omega) ?_
      first | ((with_reducible refine mk_nn ?_); refine n_icmp_ge (tgt := 125) dX11_switchBehind_14 (by decide) (by omega) (by omega) (fun h14 => ?_) (fun h14 => ?_)) | refine e_icmp_ge (tgt := 125) dX11_switchBehind_14 (by decide) (fun h14 => ?_) (fun h14 => ?_)
      · try first | contradiction | omega
        all_goals
          refine e_iload dX11_switchBehind_125 rfl ?_
          refine e_ret (some _) rfl (r_int dX11_switchBehind_127 rfl) ?_
          exact xq (by first | rfl | simp_all [bI_t, bI_f]) rfl rfl rfl rfl rfl
      · try first | contradiction | omega
        all_goals
          refine e_aload_n dX11_switchBehind_17 rfl rfl ?_
          refine e_getR dX11_switchBehind_18 fl_X11_7 rfl (by assumption) ?_
          refine e_iload dX11_switchBehind_21 rfl ?_
          refine x_S1 (M' := mX11_moveAt) dX11_switchBehind_23 ml_X11_62 ok_X11_moveAt rfl sc_X11_moveAt (ct_X11_moveAt) (Nat.le_of_ble_eq_true rfl) (by decide) (Nat.le_of_ble_eq_true rfl) ?_
          refine e_bipush (v := nI 11) dX11_switchBehind_26 rfl ?_
          first | ((with_reducible refine mk_nn ?_); refine n_iadd dX11_switchBehind_28 ?_) | refine e_iadd dX11_switchBehind_28 ?_
          first | ((with_reducible refine mk_ldw ?_); refine e_ldw dX11_switchBehind_29 (by omega) ?_) | refine e_iald _ dX11_switchBehind_29 ⟨by decide, by decide⟩ rfl rfl (by simp only [lenK]; omega) ?_
          refine e_istore dX11_switchBehind_30 (Nat.le_of_ble_eq_true rfl) rfl ?_
          refine e_iload dX11_switchBehind_32 rfl ?_
          first | ((with_reducible refine mk_b ?_); refine b_if_eq (tgt := 119) dX11_switchBehind_34 (by decide) (fun h34 => ?_) (fun h34 => ?_)) | ((with_reducible refine mk_ll ?_); refine m_if_eq (tgt := 119) dX11_switchBehind_34 (by decide) (by omega) (by omega) (fun h34 => ?_) (fun h34 => ?_)) | ((with_reducible refine mk_lc ?_); refine l_if_eq (tgt := 119) dX11_switchBehind_34 (by decide) (fun h34 => ?_) (fun h34 => ?_)) | ((with_reducible refine mk_n ?_); refine n_if_eq (tgt := 119) dX11_switchBehind_34 (by decide) (by omega) (fun h34 => ?_) (fun h34 => ?_)) | refine e_if_eq (tgt := 119) dX11_switchBehind_34 (by decide) (fun h34 => ?_) (fun h34 => ?_)
          · try first | contradiction | omega
            all_goals
              first | refine n_inc dX11_switchBehind_119 rfl (Nat.le_of_ble_eq_true rfl) rfl ?_ | refine e_iinc dX11_switchBehind_119 rfl rfl (Nat.le_of_ble_eq_true rfl) rfl ?_
              refine e_goto (tgt := 6) dX11_switchBehind_122 (by decide) ?_
              first | (rw [bst_f (c := fun m => decide (w (7694 + 72 * m + 11) ≠ 0) && decide (e + 1 ≤ w (7694 + 72 * m + 11) ∧ w (7694 + 72 * m + 11) ≤ t) && decide (w (7694 + 72 * m + 1) ≤ k ∧ k ≤ w (7694 + 72 * m + 2) - 1)) (b := fun m q => decide (w (7694 + 72 * m + 11) < w (7694 + 72 * q + 11))) (n := j) (by grind), hb] at ih; first | exact ih | exact EV_ls (by repeat (first | exact lsub_0 | refine lsub_n ?_ | refine lsub_s ?_)) ih) | (rw [bst_0 (c := fun m => decide (w (7694 + 72 * m + 11) ≠ 0) && decide (e + 1 ≤ w (7694 + 72 * m + 11) ∧ w (7694 + 72 * m + 11) ≤ t) && decide (w (7694 + 72 * m + 1) ≤ k ∧ k ≤ w (7694 + 72 * m + 2) - 1)) (b := fun m q => decide (w (7694 + 72 * m + 11) < w (7694 + 72 * q + 11))) (n := j) (by grind) hb] at ih; first | exact ih | exact EV_ls (by repeat (first | exact lsub_0 | refine lsub_n ?_ | refine lsub_s ?_)) ih)
          · try first | contradiction | omega
            all_goals
              refine e_iload dX11_switchBehind_37 rfl ?_
              first | ((with_reducible refine mk_n ?_); refine n_i2l dX11_switchBehind_39 (by omega) ?_) | refine e_i2l dX11_switchBehind_39 ?_
              refine e_iload_n dX11_switchBehind_40 rfl rfl ?_
              refine e_iconst (v := nI 1) dX11_switchBehind_41 rfl ?_
              first | ((with_reducible refine mk_nn ?_); refine n_iadd dX11_switchBehind_42 ?_) | refine e_iadd dX11_switchBehind_42 ?_
              first | ((with_reducible refine mk_n ?_); refine n_i2l dX11_switchBehind_43 (by omega) ?_) | refine e_i2l dX11_switchBehind_43 ?_
              refine e_iload_n dX11_switchBehind_44 rfl rfl ?_
              first | ((with_reducible refine mk_n ?_); refine n_i2l dX11_switchBehind_45 (by omega) ?_) | refine e_i2l dX11_switchBehind_45 ?_
              refine x_S3 (M' := mX11_isIn) dX11_switchBehind_46 ml_X11_45 ok_X11_isIn rfl sc_X11_isIn (ct_isInN (by omega) (by omega) (by omega)) (Nat.le_of_ble_eq_true rfl) (by decide) (Nat.le_of_ble_eq_true rfl) ?_
              first | ((with_reducible refine mk_b ?_); refine b_if_eq (tgt := 119) dX11_switchBehind_49 (by decide) (fun h49 => ?_) (fun h49 => ?_)) | ((with_reducible refine mk_ll ?_); refine m_if_eq (tgt := 119) dX11_switchBehind_49 (by decide) (by omega) (by omega) (fun h49 => ?_) (fun h49 => ?_)) | ((with_reducible refine mk_lc ?_); refine l_if_eq (tgt := 119) dX11_switchBehind_49 (by decide) (fun h49 => ?_) (fun h49 => ?_)) | ((with_reducible refine mk_n ?_); refine n_if_eq (tgt := 119) dX11_switchBehind_49 (by decide) (by omega) (fun h49 => ?_) (fun h49 => ?_)) | refine e_if_eq (tgt := 119) dX11_switchBehind_49 (by decide) (fun h49 => ?_) (fun h49 => ?_)
              · try first | contradiction | omega
                all_goals
                  first | refine n_inc dX11_switchBehind_119 rfl (Nat.le_of_ble_eq_true rfl) rfl ?_ | refine e_iinc dX11_switchBehind_119 rfl rfl (Nat.le_of_ble_eq_true rfl) rfl ?_
                  refine e_goto (tgt := 6) dX11_switchBehind_122 (by decide) ?_
                  first | (rw [bst_f (c := fun m => decide (w (7694 + 72 * m + 11) ≠ 0) && decide (e + 1 ≤ w (7694 + 72 * m + 11) ∧ w (7694 + 72 * m + 11) ≤ t) && decide (w (7694 + 72 * m + 1) ≤ k ∧ k ≤ w (7694 + 72 * m + 2) - 1)) (b := fun m q => decide (w (7694 + 72 * m + 11) < w (7694 + 72 * q + 11))) (n := j) (by grind), hb] at ih; first | exact ih | exact EV_ls (by repeat (first | exact lsub_0 | refine lsub_n ?_ | refine lsub_s ?_)) ih) | (rw [bst_0 (c := fun m => decide (w (7694 + 72 * m + 11) ≠ 0) && decide (e + 1 ≤ w (7694 + 72 * m + 11) ∧ w (7694 + 72 * m + 11) ≤ t) && decide (w (7694 + 72 * m + 1) ≤ k ∧ k ≤ w (7694 + 72 * m + 2) - 1)) (b := fun m q => decide (w (7694 + 72 * m + 11) < w (7694 + 72 * q + 11))) (n := j) (by grind) hb] at ih; first | exact ih | exact EV_ls (by repeat (first | exact lsub_0 | refine lsub_n ?_ | refine lsub_s ?_)) ih)
              · try first | contradiction | omega
                all_goals
                  refine e_iload_n dX11_switchBehind_52 rfl rfl ?_
                  first | ((with_reducible refine mk_n ?_); refine n_i2l dX11_switchBehind_53 (by omega) ?_) | refine e_i2l dX11_switchBehind_53 ?_
                  refine e_aload_n dX11_switchBehind_54 rfl rfl ?_
                  refine e_getR dX11_switchBehind_55 fl_X11_7 rfl (by assumption) ?_
                  refine e_iload dX11_switchBehind_58 rfl ?_
                  refine x_S1 (M' := mX11_moveAt) dX11_switchBehind_60 ml_X11_62 ok_X11_moveAt rfl sc_X11_moveAt (ct_X11_moveAt) (Nat.le_of_ble_eq_true rfl) (by decide) (Nat.le_of_ble_eq_true rfl) ?_
                  refine e_iconst (v := nI 1) dX11_switchBehind_63 rfl ?_
                  first | ((with_reducible refine mk_nn ?_); refine n_iadd dX11_switchBehind_64 ?_) | refine e_iadd dX11_switchBehind_64 ?_
                  first | ((with_reducible refine mk_ldw ?_); refine e_ldw dX11_switchBehind_65 (by omega) ?_) | refine e_iald _ dX11_switchBehind_65 ⟨by decide, by decide⟩ rfl rfl (by simp only [lenK]; omega) ?_
                  first | ((with_reducible refine mk_n ?_); refine n_i2l dX11_switchBehind_66 (by omega) ?_) | refine e_i2l dX11_switchBehind_66 ?_
                  refine e_aload_n dX11_switchBehind_67 rfl rfl ?_
                  refine e_getR dX11_switchBehind_68 fl_X11_7 rfl (by assumption) ?_
                  refine e_iload dX11_switchBehind_71 rfl ?_
                  refine x_S1 (M' := mX11_moveAt) dX11_switchBehind_73 ml_X11_62 ok_X11_moveAt rfl sc_X11_moveAt (ct_X11_moveAt) (Nat.le_of_ble_eq_true rfl) (by decide) (Nat.le_of_ble_eq_true rfl) ?_
                  refine e_iconst (v := nI 2) dX11_switchBehind_76 rfl ?_
                  first | ((with_reducible refine mk_nn ?_); refine n_iadd dX11_switchBehind_77 ?_) | refine e_iadd dX11_switchBehind_77 ?_
                  first | ((with_reducible refine mk_ldw ?_); refine e_ldw dX11_switchBehind_78 (by omega) ?_) | refine e_iald _ dX11_switchBehind_78 ⟨by decide, by decide⟩ rfl rfl (by simp only [lenK]; omega) ?_
                  refine e_iconst (v := nI 1) dX11_switchBehind_79 rfl ?_
                  first | ((with_reducible refine mk_nn ?_); refine n_isub dX11_switchBehind_80 (by omega) ?_) | refine e_isub dX11_switchBehind_80 ?_
                  first | ((with_reducible refine mk_n ?_); refine n_i2l dX11_switchBehind_81 (by omega) ?_) | refine e_i2l dX11_switchBehind_81 ?_
                  refine x_S3 (M' := mX11_isIn) dX11_switchBehind_82 ml_X11_45 ok_X11_isIn rfl sc_X11_isIn (ct_isInN (by omega) (by omega) (by omega)) (Nat.le_of_ble_eq_true rfl) (by decide) (Nat.le_of_ble_eq_true rfl) ?_
                  first | ((with_reducible refine mk_b ?_); refine b_if_ne (tgt := 91) dX11_switchBehind_85 (by decide) (fun h85 => ?_) (fun h85 => ?_)) | ((with_reducible refine mk_ll ?_); refine m_if_ne (tgt := 91) dX11_switchBehind_85 (by decide) (by omega) (by omega) (fun h85 => ?_) (fun h85 => ?_)) | ((with_reducible refine mk_lc ?_); refine l_if_ne (tgt := 91) dX11_switchBehind_85 (by decide) (fun h85 => ?_) (fun h85 => ?_)) | ((with_reducible refine mk_n ?_); refine n_if_ne (tgt := 91) dX11_switchBehind_85 (by decide) (by omega) (fun h85 => ?_) (fun h85 => ?_)) | refine e_if_ne (tgt := 91) dX11_switchBehind_85 (by decide) (fun h85 => ?_) (fun h85 => ?_)
                  · try first | contradiction | omega
                    all_goals
                      refine e_iload dX11_switchBehind_91 rfl ?_
                      refine e_iconst (v := -1) dX11_switchBehind_93 rfl ?_
                      first | ((with_reducible refine mk_mo ?_); refine p_icmp_eq (tgt := 115) dX11_switchBehind_94 (by decide) (fun h94 => ?_) (fun h94 => ?_)) | ((with_reducible refine mk_ms ?_); refine s_icmp_eq (tgt := 115) dX11_switchBehind_94 (by decide) (by omega) (fun h94 => ?_) (fun h94 => ?_)) | ((with_reducible refine mk_mn ?_); refine q_icmp_eq (tgt := 115) dX11_switchBehind_94 (by decide) (by omega) (fun h94 => ?_) (fun h94 => ?_)) | ((with_reducible refine mk_nn ?_); refine n_icmp_eq (tgt := 115) dX11_switchBehind_94 (by decide) (by omega) (by omega) (fun h94 => ?_) (fun h94 => ?_)) | refine e_icmp_eq (tgt := 115) dX11_switchBehind_94 (by decide) (fun h94 => ?_) (fun h94 => ?_)
                      · try first | contradiction | omega
                        all_goals
                          refine e_iload dX11_switchBehind_115 rfl ?_
                          refine e_istore dX11_switchBehind_117 (Nat.le_of_ble_eq_true rfl) rfl ?_
                          first | refine n_inc dX11_switchBehind_119 rfl (Nat.le_of_ble_eq_true rfl) rfl ?_ | refine e_iinc dX11_switchBehind_119 rfl rfl (Nat.le_of_ble_eq_true rfl) rfl ?_
                          refine e_goto (tgt := 6) dX11_switchBehind_122 (by decide) ?_
                          first | (rw [bst_f (c := fun m => decide (w (7694 + 72 * m + 11) ≠ 0) && decide (e + 1 ≤ w (7694 + 72 * m + 11) ∧ w (7694 + 72 * m + 11) ≤ t) && decide (w (7694 + 72 * m + 1) ≤ k ∧ k ≤ w (7694 + 72 * m + 2) - 1)) (b := fun m q => decide (w (7694 + 72 * m + 11) < w (7694 + 72 * q + 11))) (n := j) (by grind), hb] at ih; first | exact ih | exact EV_ls (by repeat (first | exact lsub_0 | refine lsub_n ?_ | refine lsub_s ?_)) ih) | (rw [bst_0 (c := fun m => decide (w (7694 + 72 * m + 11) ≠ 0) && decide (e + 1 ≤ w (7694 + 72 * m + 11) ∧ w (7694 + 72 * m + 11) ≤ t) && decide (w (7694 + 72 * m + 1) ≤ k ∧ k ≤ w (7694 + 72 * m + 2) - 1)) (b := fun m q => decide (w (7694 + 72 * m + 11) < w (7694 + 72 * q + 11))) (n := j) (by grind) hb] at ih; first | exact ih | exact EV_ls (by repeat (first | exact lsub_0 | refine lsub_n ?_ | refine lsub_s ?_)) ih)
                      · try first | contradiction | omega
                        all_goals
                          refine e_iload dX11_switchBehind_97 rfl ?_
                          refine e_aload_n dX11_switchBehind_99 rfl rfl ?_
                          refine e_getR dX11_switchBehind_100 fl_X11_7 rfl (by assumption) ?_
                          refine e_iload dX11_switchBehind_103 rfl ?_
                          refine x_S1 (M' := mX11_moveAt) dX11_switchBehind_105 ml_X11_62 ok_X11_moveAt rfl sc_X11_moveAt (ct_X11_moveAt) (Nat.le_of_ble_eq_true rfl) (by decide) (Nat.le_of_ble_eq_true rfl) ?_
                          refine e_bipush (v := nI 11) dX11_switchBehind_108 rfl ?_
                          first | ((with_reducible refine mk_nn ?_); refine n_iadd dX11_switchBehind_110 ?_) | refine e_iadd dX11_switchBehind_110 ?_
                          first | ((with_reducible refine mk_ldw ?_); refine e_ldw dX11_switchBehind_111 (by omega) ?_) | refine e_iald _ dX11_switchBehind_111 ⟨by decide, by decide⟩ rfl rfl (by simp only [lenK]; omega) ?_
                          first | ((with_reducible refine mk_nn ?_); refine n_icmp_ge (tgt := 119) dX11_switchBehind_112 (by decide) (by omega) (by omega) (fun h112 => ?_) (fun h112 => ?_)) | refine e_icmp_ge (tgt := 119) dX11_switchBehind_112 (by decide) (fun h112 => ?_) (fun h112 => ?_)
                          · try first | contradiction | omega
                            all_goals
                              first | refine n_inc dX11_switchBehind_119 rfl (Nat.le_of_ble_eq_true rfl) rfl ?_ | refine e_iinc dX11_switchBehind_119 rfl rfl (Nat.le_of_ble_eq_true rfl) rfl ?_
                              refine e_goto (tgt := 6) dX11_switchBehind_122 (by decide) ?_
                              first | (rw [bst_f (c := fun m => decide (w (7694 + 72 * m + 11) ≠ 0) && decide (e + 1 ≤ w (7694 + 72 * m + 11) ∧ w (7694 + 72 * m + 11) ≤ t) && decide (w (7694 + 72 * m + 1) ≤ k ∧ k ≤ w (7694 + 72 * m + 2) - 1)) (b := fun m q => decide (w (7694 + 72 * m + 11) < w (7694 + 72 * q + 11))) (n := j) (by grind), hb] at ih; first | exact ih | exact EV_ls (by repeat (first | exact lsub_0 | refine lsub_n ?_ | refine lsub_s ?_)) ih) | (rw [bst_0 (c := fun m => decide (w (7694 + 72 * m + 11) ≠ 0) && decide (e + 1 ≤ w (7694 + 72 * m + 11) ∧ w (7694 + 72 * m + 11) ≤ t) && decide (w (7694 + 72 * m + 1) ≤ k ∧ k ≤ w (7694 + 72 * m + 2) - 1)) (b := fun m q => decide (w (7694 + 72 * m + 11) < w (7694 + 72 * q + 11))) (n := j) (by grind) hb] at ih; first | exact ih | exact EV_ls (by repeat (first | exact lsub_0 | refine lsub_n ?_ | refine lsub_s ?_)) ih)
                          · try first | contradiction | omega
                            all_goals
                              refine e_iload dX11_switchBehind_115 rfl ?_
                              refine e_istore dX11_switchBehind_117 (Nat.le_of_ble_eq_true rfl) rfl ?_
                              first | refine n_inc dX11_switchBehind_119 rfl (Nat.le_of_ble_eq_true rfl) rfl ?_ | refine e_iinc dX11_switchBehind_119 rfl rfl (Nat.le_of_ble_eq_true rfl) rfl ?_
                              refine e_goto (tgt := 6) dX11_switchBehind_122 (by decide) ?_
                              first | (rw [bst_f (c := fun m => decide (w (7694 + 72 * m + 11) ≠ 0) && decide (e + 1 ≤ w (7694 + 72 * m + 11) ∧ w (7694 + 72 * m + 11) ≤ t) && decide (w (7694 + 72 * m + 1) ≤ k ∧ k ≤ w (7694 + 72 * m + 2) - 1)) (b := fun m q => decide (w (7694 + 72 * m + 11) < w (7694 + 72 * q + 11))) (n := j) (by grind), hb] at ih; first | exact ih | exact EV_ls (by repeat (first | exact lsub_0 | refine lsub_n ?_ | refine lsub_s ?_)) ih) | (rw [bst_0 (c := fun m => decide (w (7694 + 72 * m + 11) ≠ 0) && decide (e + 1 ≤ w (7694 + 72 * m + 11) ∧ w (7694 + 72 * m + 11) ≤ t) && decide (w (7694 + 72 * m + 1) ≤ k ∧ k ≤ w (7694 + 72 * m + 2) - 1)) (b := fun m q => decide (w (7694 + 72 * m + 11) < w (7694 + 72 * q + 11))) (n := j) (by grind) hb] at ih; first | exact ih | exact EV_ls (by repeat (first | exact lsub_0 | refine lsub_n ?_ | refine lsub_s ?_)) ih)
                  · try first | contradiction | omega
                    all_goals
                      refine e_goto (tgt := 119) dX11_switchBehind_88 (by decide) ?_
                      first | refine n_inc dX11_switchBehind_119 rfl (Nat.le_of_ble_eq_true rfl) rfl ?_ | refine e_iinc dX11_switchBehind_119 rfl rfl (Nat.le_of_ble_eq_true rfl) rfl ?_
                      refine e_goto (tgt := 6) dX11_switchBehind_122 (by decide) ?_
                      first | (rw [bst_f (c := fun m => decide (w (7694 + 72 * m + 11) ≠ 0) && decide (e + 1 ≤ w (7694 + 72 * m + 11) ∧ w (7694 + 72 * m + 11) ≤ t) && decide (w (7694 + 72 * m + 1) ≤ k ∧ k ≤ w (7694 + 72 * m + 2) - 1)) (b := fun m q => decide (w (7694 + 72 * m + 11) < w (7694 + 72 * q + 11))) (n := j) (by grind), hb] at ih; first | exact ih | exact EV_ls (by repeat (first | exact lsub_0 | refine lsub_n ?_ | refine lsub_s ?_)) ih) | (rw [bst_0 (c := fun m => decide (w (7694 + 72 * m + 11) ≠ 0) && decide (e + 1 ≤ w (7694 + 72 * m + 11) ∧ w (7694 + 72 * m + 11) ≤ t) && decide (w (7694 + 72 * m + 1) ≤ k ∧ k ≤ w (7694 + 72 * m + 2) - 1)) (b := fun m q => decide (w (7694 + 72 * m + 11) < w (7694 + 72 * q + 11))) (n := j) (by grind) hb] at ih; first | exact ih | exact EV_ls (by repeat (first | exact lsub_0 | refine lsub_n ?_ | refine lsub_s ?_)) ih)
    | some q =>
      have hq := (bst_in hb).1
      have hqc := (bst_in hb).2
      rw [oI_s]
      have hm2 := iv_mv iv (m := q) (by omega)
      refine e_iload dX11_switchBehind_6 rfl ?_
      refine e_aload_n dX11_switchBehind_8 rfl rfl ?_
      refine e_getR dX11_switchBehind_9 fl_X11_7 rfl (by assumption) ?_
      refine e_iconst (v := nI 3) dX11_switchBehind_12 rfl ?_
      first | ((with_reducible refine mk_ldw ?_); refine e_ldw dX11_switchBehind_13 (by omega) ?_) | refine e_iald _ dX11_switchBehind_13 ⟨by decide, by decide⟩ rfl rfl (by simp only [lenK]; omega) ?_
      first | ((with_reducible refine mk_nn ?_); refine n_icmp_ge (tgt := 125) dX11_switchBehind_14 (by decide) (by omega) (by omega) (fun h14 => ?_) (fun h14 => ?_)) | refine e_icmp_ge (tgt := 125) dX11_switchBehind_14 (by decide) (fun h14 => ?_) (fun h14 => ?_)
      · try first | contradiction | omega
        all_goals
          refine e_iload dX11_switchBehind_125 rfl ?_
          refine e_ret (some _) rfl (r_int dX11_switchBehind_127 rfl) ?_
          exact xq (by first | rfl | simp_all [bI_t, bI_f]) rfl rfl rfl rfl rfl
      · try first | contradiction | omega
        all_goals
          refine e_aload_n dX11_switchBehind_17 rfl rfl ?_
          refine e_getR dX11_switchBehind_18 fl_X11_7 rfl (by assumption) ?_
          refine e_iload dX11_switchBehind_21 rfl ?_
          refine x_S1 (M' := mX11_moveAt) dX11_switchBehind_23 ml_X11_62 ok_X11_moveAt rfl sc_X11_moveAt (ct_X11_moveAt) (Nat.le_of_ble_eq_true rfl) (by decide) (Nat.le_of_ble_eq_true rfl) ?_
          refine e_bipush (v := nI 11) dX11_switchBehind_26 rfl ?_
          first | ((with_reducible refine mk_nn ?_); refine n_iadd dX11_switchBehind_28 ?_) | refine e_iadd dX11_switchBehind_28 ?_
          first | ((with_reducible refine mk_ldw ?_); refine e_ldw dX11_switchBehind_29 (by omega) ?_) | refine e_iald _ dX11_switchBehind_29 ⟨by decide, by decide⟩ rfl rfl (by simp only [lenK]; omega) ?_
          refine e_istore dX11_switchBehind_30 (Nat.le_of_ble_eq_true rfl) rfl ?_
          refine e_iload dX11_switchBehind_32 rfl ?_
          first | ((with_reducible refine mk_b ?_); refine b_if_eq (tgt := 119) dX11_switchBehind_34 (by decide) (fun h34 => ?_) (fun h34 => ?_)) | ((with_reducible refine mk_ll ?_); refine m_if_eq (tgt := 119) dX11_switchBehind_34 (by decide) (by omega) (by omega) (fun h34 => ?_) (fun h34 => ?_)) | ((with_reducible refine mk_lc ?_); refine l_if_eq (tgt := 119) dX11_switchBehind_34 (by decide) (fun h34 => ?_) (fun h34 => ?_)) | ((with_reducible refine mk_n ?_); refine n_if_eq (tgt := 119) dX11_switchBehind_34 (by decide) (by omega) (fun h34 => ?_) (fun h34 => ?_)) | refine e_if_eq (tgt := 119) dX11_switchBehind_34 (by decide) (fun h34 => ?_) (fun h34 => ?_)
          · try first | contradiction | omega
            all_goals
              first | refine n_inc dX11_switchBehind_119 rfl (Nat.le_of_ble_eq_true rfl) rfl ?_ | refine e_iinc dX11_switchBehind_119 rfl rfl (Nat.le_of_ble_eq_true rfl) rfl ?_
              refine e_goto (tgt := 6) dX11_switchBehind_122 (by decide) ?_
              first | (rw [bst_f (c := fun m => decide (w (7694 + 72 * m + 11) ≠ 0) && decide (e + 1 ≤ w (7694 + 72 * m + 11) ∧ w (7694 + 72 * m + 11) ≤ t) && decide (w (7694 + 72 * m + 1) ≤ k ∧ k ≤ w (7694 + 72 * m + 2) - 1)) (b := fun m q => decide (w (7694 + 72 * m + 11) < w (7694 + 72 * q + 11))) (n := j) (by grind), hb] at ih; first | exact ih | exact EV_ls (by repeat (first | exact lsub_0 | refine lsub_n ?_ | refine lsub_s ?_)) ih) | (rw [bst_0 (c := fun m => decide (w (7694 + 72 * m + 11) ≠ 0) && decide (e + 1 ≤ w (7694 + 72 * m + 11) ∧ w (7694 + 72 * m + 11) ≤ t) && decide (w (7694 + 72 * m + 1) ≤ k ∧ k ≤ w (7694 + 72 * m + 2) - 1)) (b := fun m q => decide (w (7694 + 72 * m + 11) < w (7694 + 72 * q + 11))) (n := j) (by grind) hb] at ih; first | exact ih | exact EV_ls (by repeat (first | exact lsub_0 | refine lsub_n ?_ | refine lsub_s ?_)) ih) | (rw [bst_1 (c := fun m => decide (w (7694 + 72 * m + 11) ≠ 0) && decide (e + 1 ≤ w (7694 + 72 * m + 11) ∧ w (7694 + 72 * m + 11) ≤ t) && decide (w (7694 + 72 * m + 1) ≤ k ∧ k ≤ w (7694 + 72 * m + 2) - 1)) (b := fun m q => decide (w (7694 + 72 * m + 11) < w (7694 + 72 * q + 11))) (n := j) (by grind) hb (by grind)] at ih; first | exact ih | exact EV_ls (by repeat (first | exact lsub_0 | refine lsub_n ?_ | refine lsub_s ?_)) ih) | (rw [bst_2 (c := fun m => decide (w (7694 + 72 * m + 11) ≠ 0) && decide (e + 1 ≤ w (7694 + 72 * m + 11) ∧ w (7694 + 72 * m + 11) ≤ t) && decide (w (7694 + 72 * m + 1) ≤ k ∧ k ≤ w (7694 + 72 * m + 2) - 1)) (b := fun m q => decide (w (7694 + 72 * m + 11) < w (7694 + 72 * q + 11))) (n := j) (by grind) hb (by grind)] at ih; first | exact ih | exact EV_ls (by repeat (first | exact lsub_0 | refine lsub_n ?_ | refine lsub_s ?_)) ih)
          · try first | contradiction | omega
            all_goals
              refine e_iload dX11_switchBehind_37 rfl ?_
              first | ((with_reducible refine mk_n ?_); refine n_i2l dX11_switchBehind_39 (by omega) ?_) | refine e_i2l dX11_switchBehind_39 ?_
              refine e_iload_n dX11_switchBehind_40 rfl rfl ?_
              refine e_iconst (v := nI 1) dX11_switchBehind_41 rfl ?_
              first | ((with_reducible refine mk_nn ?_); refine n_iadd dX11_switchBehind_42 ?_) | refine e_iadd dX11_switchBehind_42 ?_
              first | ((with_reducible refine mk_n ?_); refine n_i2l dX11_switchBehind_43 (by omega) ?_) | refine e_i2l dX11_switchBehind_43 ?_
              refine e_iload_n dX11_switchBehind_44 rfl rfl ?_
              first | ((with_reducible refine mk_n ?_); refine n_i2l dX11_switchBehind_45 (by omega) ?_) | refine e_i2l dX11_switchBehind_45 ?_
              refine x_S3 (M' := mX11_isIn) dX11_switchBehind_46 ml_X11_45 ok_X11_isIn rfl sc_X11_isIn (ct_isInN (by omega) (by omega) (by omega)) (Nat.le_of_ble_eq_true rfl) (by decide) (Nat.le_of_ble_eq_true rfl) ?_
              first | ((with_reducible refine mk_b ?_); refine b_if_eq (tgt := 119) dX11_switchBehind_49 (by decide) (fun h49 => ?_) (fun h49 => ?_)) | ((with_reducible refine mk_ll ?_); refine m_if_eq (tgt := 119) dX11_switchBehind_49 (by decide) (by omega) (by omega) (fun h49 => ?_) (fun h49 => ?_)) | ((with_reducible refine mk_lc ?_); refine l_if_eq (tgt := 119) dX11_switchBehind_49 (by decide) (fun h49 => ?_) (fun h49 => ?_)) | ((with_reducible refine mk_n ?_); refine n_if_eq (tgt := 119) dX11_switchBehind_49 (by decide) (by omega) (fun h49 => ?_) (fun h49 => ?_)) | refine e_if_eq (tgt := 119) dX11_switchBehind_49 (by decide) (fun h49 => ?_) (fun h49 => ?_)
              · try first | contradiction | omega
                all_goals
                  first | refine n_inc dX11_switchBehind_119 rfl (Nat.le_of_ble_eq_true rfl) rfl ?_ | refine e_iinc dX11_switchBehind_119 rfl rfl (Nat.le_of_ble_eq_true rfl) rfl ?_
                  refine e_goto (tgt := 6) dX11_switchBehind_122 (by decide) ?_
                  first | (rw [bst_f (c := fun m => decide (w (7694 + 72 * m + 11) ≠ 0) && decide (e + 1 ≤ w (7694 + 72 * m + 11) ∧ w (7694 + 72 * m + 11) ≤ t) && decide (w (7694 + 72 * m + 1) ≤ k ∧ k ≤ w (7694 + 72 * m + 2) - 1)) (b := fun m q => decide (w (7694 + 72 * m + 11) < w (7694 + 72 * q + 11))) (n := j) (by grind), hb] at ih; first | exact ih | exact EV_ls (by repeat (first | exact lsub_0 | refine lsub_n ?_ | refine lsub_s ?_)) ih) | (rw [bst_0 (c := fun m => decide (w (7694 + 72 * m + 11) ≠ 0) && decide (e + 1 ≤ w (7694 + 72 * m + 11) ∧ w (7694 + 72 * m + 11) ≤ t) && decide (w (7694 + 72 * m + 1) ≤ k ∧ k ≤ w (7694 + 72 * m + 2) - 1)) (b := fun m q => decide (w (7694 + 72 * m + 11) < w (7694 + 72 * q + 11))) (n := j) (by grind) hb] at ih; first | exact ih | exact EV_ls (by repeat (first | exact lsub_0 | refine lsub_n ?_ | refine lsub_s ?_)) ih) | (rw [bst_1 (c := fun m => decide (w (7694 + 72 * m + 11) ≠ 0) && decide (e + 1 ≤ w (7694 + 72 * m + 11) ∧ w (7694 + 72 * m + 11) ≤ t) && decide (w (7694 + 72 * m + 1) ≤ k ∧ k ≤ w (7694 + 72 * m + 2) - 1)) (b := fun m q => decide (w (7694 + 72 * m + 11) < w (7694 + 72 * q + 11))) (n := j) (by grind) hb (by grind)] at ih; first | exact ih | exact EV_ls (by repeat (first | exact lsub_0 | refine lsub_n ?_ | refine lsub_s ?_)) ih) | (rw [bst_2 (c := fun m => decide (w (7694 + 72 * m + 11) ≠ 0) && decide (e + 1 ≤ w (7694 + 72 * m + 11) ∧ w (7694 + 72 * m + 11) ≤ t) && decide (w (7694 + 72 * m + 1) ≤ k ∧ k ≤ w (7694 + 72 * m + 2) - 1)) (b := fun m q => decide (w (7694 + 72 * m + 11) < w (7694 + 72 * q + 11))) (n := j) (by grind) hb (by grind)] at ih; first | exact ih | exact EV_ls (by repeat (first | exact lsub_0 | refine lsub_n ?_ | refine lsub_s ?_)) ih)
              · try first | contradiction | omega
                all_goals
                  refine e_iload_n dX11_switchBehind_52 rfl rfl ?_
                  first | ((with_reducible refine mk_n ?_); refine n_i2l dX11_switchBehind_53 (by omega) ?_) | refine e_i2l dX11_switchBehind_53 ?_
                  refine e_aload_n dX11_switchBehind_54 rfl rfl ?_
                  refine e_getR dX11_switchBehind_55 fl_X11_7 rfl (by assumption) ?_
                  refine e_iload dX11_switchBehind_58 rfl ?_
                  refine x_S1 (M' := mX11_moveAt) dX11_switchBehind_60 ml_X11_62 ok_X11_moveAt rfl sc_X11_moveAt (ct_X11_moveAt) (Nat.le_of_ble_eq_true rfl) (by decide) (Nat.le_of_ble_eq_true rfl) ?_
                  refine e_iconst (v := nI 1) dX11_switchBehind_63 rfl ?_
                  first | ((with_reducible refine mk_nn ?_); refine n_iadd dX11_switchBehind_64 ?_) | refine e_iadd dX11_switchBehind_64 ?_
                  first | ((with_reducible refine mk_ldw ?_); refine e_ldw dX11_switchBehind_65 (by omega) ?_) | refine e_iald _ dX11_switchBehind_65 ⟨by decide, by decide⟩ rfl rfl (by simp only [lenK]; omega) ?_
                  first | ((with_reducible refine mk_n ?_); refine n_i2l dX11_switchBehind_66 (by omega) ?_) | refine e_i2l dX11_switchBehind_66 ?_
                  refine e_aload_n dX11_switchBehind_67 rfl rfl ?_
                  refine e_getR dX11_switchBehind_68 fl_X11_7 rfl (by assumption) ?_
                  refine e_iload dX11_switchBehind_71 rfl ?_
                  refine x_S1 (M' := mX11_moveAt) dX11_switchBehind_73 ml_X11_62 ok_X11_moveAt rfl sc_X11_moveAt (ct_X11_moveAt) (Nat.le_of_ble_eq_true rfl) (by decide) (Nat.le_of_ble_eq_true rfl) ?_
                  refine e_iconst (v := nI 2) dX11_switchBehind_76 rfl ?_
                  first | ((with_reducible refine mk_nn ?_); refine n_iadd dX11_switchBehind_77 ?_) | refine e_iadd dX11_switchBehind_77 ?_
                  first | ((with_reducible refine mk_ldw ?_); refine e_ldw dX11_switchBehind_78 (by omega) ?_) | refine e_iald _ dX11_switchBehind_78 ⟨by decide, by decide⟩ rfl rfl (by simp only [lenK]; omega) ?_
                  refine e_iconst (v := nI 1) dX11_switchBehind_79 rfl ?_
                  first | ((with_reducible refine mk_nn ?_); refine n_isub dX11_switchBehind_80 (by omega) ?_) | refine e_isub dX11_switchBehind_80 ?_
                  first | ((with_reducible refine mk_n ?_); refine n_i2l dX11_switchBehind_81 (by omega) ?_) | refine e_i2l dX11_switchBehind_81 ?_
                  refine x_S3 (M' := mX11_isIn) dX11_switchBehind_82 ml_X11_45 ok_X11_isIn rfl sc_X11_isIn (ct_isInN (by omega) (by omega) (by omega)) (Nat.le_of_ble_eq_true rfl) (by decide) (Nat.le_of_ble_eq_true rfl) ?_
                  first | ((with_reducible refine mk_b ?_); refine b_if_ne (tgt := 91) dX11_switchBehind_85 (by decide) (fun h85 => ?_) (fun h85 => ?_)) | ((with_reducible refine mk_ll ?_); refine m_if_ne (tgt := 91) dX11_switchBehind_85 (by decide) (by omega) (by omega) (fun h85 => ?_) (fun h85 => ?_)) | ((with_reducible refine mk_lc ?_); refine l_if_ne (tgt := 91) dX11_switchBehind_85 (by decide) (fun h85 => ?_) (fun h85 => ?_)) | ((with_reducible refine mk_n ?_); refine n_if_ne (tgt := 91) dX11_switchBehind_85 (by decide) (by omega) (fun h85 => ?_) (fun h85 => ?_)) | refine e_if_ne (tgt := 91) dX11_switchBehind_85 (by decide) (fun h85 => ?_) (fun h85 => ?_)
                  · try first | contradiction | omega
                    all_goals
                      refine e_iload dX11_switchBehind_91 rfl ?_
                      refine e_iconst (v := -1) dX11_switchBehind_93 rfl ?_
                      first | ((with_reducible refine mk_mo ?_); refine p_icmp_eq (tgt := 115) dX11_switchBehind_94 (by decide) (fun h94 => ?_) (fun h94 => ?_)) | ((with_reducible refine mk_ms ?_); refine s_icmp_eq (tgt := 115) dX11_switchBehind_94 (by decide) (by omega) (fun h94 => ?_) (fun h94 => ?_)) | ((with_reducible refine mk_mn ?_); refine q_icmp_eq (tgt := 115) dX11_switchBehind_94 (by decide) (by omega) (fun h94 => ?_) (fun h94 => ?_)) | ((with_reducible refine mk_nn ?_); refine n_icmp_eq (tgt := 115) dX11_switchBehind_94 (by decide) (by omega) (by omega) (fun h94 => ?_) (fun h94 => ?_)) | refine e_icmp_eq (tgt := 115) dX11_switchBehind_94 (by decide) (fun h94 => ?_) (fun h94 => ?_)
                      · try first | contradiction | omega
                        all_goals
                          refine e_iload dX11_switchBehind_115 rfl ?_
                          refine e_istore dX11_switchBehind_117 (Nat.le_of_ble_eq_true rfl) rfl ?_
                          first | refine n_inc dX11_switchBehind_119 rfl (Nat.le_of_ble_eq_true rfl) rfl ?_ | refine e_iinc dX11_switchBehind_119 rfl rfl (Nat.le_of_ble_eq_true rfl) rfl ?_
                          refine e_goto (tgt := 6) dX11_switchBehind_122 (by decide) ?_
                          first | (rw [bst_f (c := fun m => decide (w (7694 + 72 * m + 11) ≠ 0) && decide (e + 1 ≤ w (7694 + 72 * m + 11) ∧ w (7694 + 72 * m + 11) ≤ t) && decide (w (7694 + 72 * m + 1) ≤ k ∧ k ≤ w (7694 + 72 * m + 2) - 1)) (b := fun m q => decide (w (7694 + 72 * m + 11) < w (7694 + 72 * q + 11))) (n := j) (by grind), hb] at ih; first | exact ih | exact EV_ls (by repeat (first | exact lsub_0 | refine lsub_n ?_ | refine lsub_s ?_)) ih) | (rw [bst_0 (c := fun m => decide (w (7694 + 72 * m + 11) ≠ 0) && decide (e + 1 ≤ w (7694 + 72 * m + 11) ∧ w (7694 + 72 * m + 11) ≤ t) && decide (w (7694 + 72 * m + 1) ≤ k ∧ k ≤ w (7694 + 72 * m + 2) - 1)) (b := fun m q => decide (w (7694 + 72 * m + 11) < w (7694 + 72 * q + 11))) (n := j) (by grind) hb] at ih; first | exact ih | exact EV_ls (by repeat (first | exact lsub_0 | refine lsub_n ?_ | refine lsub_s ?_)) ih) | (rw [bst_1 (c := fun m => decide (w (7694 + 72 * m + 11) ≠ 0) && decide (e + 1 ≤ w (7694 + 72 * m + 11) ∧ w (7694 + 72 * m + 11) ≤ t) && decide (w (7694 + 72 * m + 1) ≤ k ∧ k ≤ w (7694 + 72 * m + 2) - 1)) (b := fun m q => decide (w (7694 + 72 * m + 11) < w (7694 + 72 * q + 11))) (n := j) (by grind) hb (by grind)] at ih; first | exact ih | exact EV_ls (by repeat (first | exact lsub_0 | refine lsub_n ?_ | refine lsub_s ?_)) ih) | (rw [bst_2 (c := fun m => decide (w (7694 + 72 * m + 11) ≠ 0) && decide (e + 1 ≤ w (7694 + 72 * m + 11) ∧ w (7694 + 72 * m + 11) ≤ t) && decide (w (7694 + 72 * m + 1) ≤ k ∧ k ≤ w (7694 + 72 * m + 2) - 1)) (b := fun m q => decide (w (7694 + 72 * m + 11) < w (7694 + 72 * q + 11))) (n := j) (by grind) hb (by grind)] at ih; first | exact ih | exact EV_ls (by repeat (first | exact lsub_0 | refine lsub_n ?_ | refine lsub_s ?_)) ih)
                      · try first | contradiction | omega
                        all_goals
                          refine e_iload dX11_switchBehind_97 rfl ?_
                          refine e_aload_n dX11_switchBehind_99 rfl rfl ?_
                          refine e_getR dX11_switchBehind_100 fl_X11_7 rfl (by assumption) ?_
                          refine e_iload dX11_switchBehind_103 rfl ?_
                          refine x_S1 (M' := mX11_moveAt) dX11_switchBehind_105 ml_X11_62 ok_X11_moveAt rfl sc_X11_moveAt (ct_X11_moveAt) (Nat.le_of_ble_eq_true rfl) (by decide) (Nat.le_of_ble_eq_true rfl) ?_
                          refine e_bipush (v := nI 11) dX11_switchBehind_108 rfl ?_
                          first | ((with_reducible refine mk_nn ?_); refine n_iadd dX11_switchBehind_110 ?_) | refine e_iadd dX11_switchBehind_110 ?_
                          first | ((with_reducible refine mk_ldw ?_); refine e_ldw dX11_switchBehind_111 (by omega) ?_) | refine e_iald _ dX11_switchBehind_111 ⟨by decide, by decide⟩ rfl rfl (by simp only [lenK]; omega) ?_
                          first | ((with_reducible refine mk_nn ?_); refine n_icmp_ge (tgt := 119) dX11_switchBehind_112 (by decide) (by omega) (by omega) (fun h112 => ?_) (fun h112 => ?_)) | refine e_icmp_ge (tgt := 119) dX11_switchBehind_112 (by decide) (fun h112 => ?_) (fun h112 => ?_)
                          · try first | contradiction | omega
                            all_goals
                              first | refine n_inc dX11_switchBehind_119 rfl (Nat.le_of_ble_eq_true rfl) rfl ?_ | refine e_iinc dX11_switchBehind_119 rfl rfl (Nat.le_of_ble_eq_true rfl) rfl ?_
                              refine e_goto (tgt := 6) dX11_switchBehind_122 (by decide) ?_
                              first | (rw [bst_f (c := fun m => decide (w (7694 + 72 * m + 11) ≠ 0) && decide (e + 1 ≤ w (7694 + 72 * m + 11) ∧ w (7694 + 72 * m + 11) ≤ t) && decide (w (7694 + 72 * m + 1) ≤ k ∧ k ≤ w (7694 + 72 * m + 2) - 1)) (b := fun m q => decide (w (7694 + 72 * m + 11) < w (7694 + 72 * q + 11))) (n := j) (by grind), hb] at ih; first | exact ih | exact EV_ls (by repeat (first | exact lsub_0 | refine lsub_n ?_ | refine lsub_s ?_)) ih) | (rw [bst_0 (c := fun m => decide (w (7694 + 72 * m + 11) ≠ 0) && decide (e + 1 ≤ w (7694 + 72 * m + 11) ∧ w (7694 + 72 * m + 11) ≤ t) && decide (w (7694 + 72 * m + 1) ≤ k ∧ k ≤ w (7694 + 72 * m + 2) - 1)) (b := fun m q => decide (w (7694 + 72 * m + 11) < w (7694 + 72 * q + 11))) (n := j) (by grind) hb] at ih; first | exact ih | exact EV_ls (by repeat (first | exact lsub_0 | refine lsub_n ?_ | refine lsub_s ?_)) ih) | (rw [bst_1 (c := fun m => decide (w (7694 + 72 * m + 11) ≠ 0) && decide (e + 1 ≤ w (7694 + 72 * m + 11) ∧ w (7694 + 72 * m + 11) ≤ t) && decide (w (7694 + 72 * m + 1) ≤ k ∧ k ≤ w (7694 + 72 * m + 2) - 1)) (b := fun m q => decide (w (7694 + 72 * m + 11) < w (7694 + 72 * q + 11))) (n := j) (by grind) hb (by grind)] at ih; first | exact ih | exact EV_ls (by repeat (first | exact lsub_0 | refine lsub_n ?_ | refine lsub_s ?_)) ih) | (rw [bst_2 (c := fun m => decide (w (7694 + 72 * m + 11) ≠ 0) && decide (e + 1 ≤ w (7694 + 72 * m + 11) ∧ w (7694 + 72 * m + 11) ≤ t) && decide (w (7694 + 72 * m + 1) ≤ k ∧ k ≤ w (7694 + 72 * m + 2) - 1)) (b := fun m q => decide (w (7694 + 72 * m + 11) < w (7694 + 72 * q + 11))) (n := j) (by grind) hb (by grind)] at ih; first | exact ih | exact EV_ls (by repeat (first | exact lsub_0 | refine lsub_n ?_ | refine lsub_s ?_)) ih)
                          · try first | contradiction | omega
                            all_goals
                              refine e_iload dX11_switchBehind_115 rfl ?_
                              refine e_istore dX11_switchBehind_117 (Nat.le_of_ble_eq_true rfl) rfl ?_
                              first | refine n_inc dX11_switchBehind_119 rfl (Nat.le_of_ble_eq_true rfl) rfl ?_ | refine e_iinc dX11_switchBehind_119 rfl rfl (Nat.le_of_ble_eq_true rfl) rfl ?_
                              refine e_goto (tgt := 6) dX11_switchBehind_122 (by decide) ?_
                              first | (rw [bst_f (c := fun m => decide (w (7694 + 72 * m + 11) ≠ 0) && decide (e + 1 ≤ w (7694 + 72 * m + 11) ∧ w (7694 + 72 * m + 11) ≤ t) && decide (w (7694 + 72 * m + 1) ≤ k ∧ k ≤ w (7694 + 72 * m + 2) - 1)) (b := fun m q => decide (w (7694 + 72 * m + 11) < w (7694 + 72 * q + 11))) (n := j) (by grind), hb] at ih; first | exact ih | exact EV_ls (by repeat (first | exact lsub_0 | refine lsub_n ?_ | refine lsub_s ?_)) ih) | (rw [bst_0 (c := fun m => decide (w (7694 + 72 * m + 11) ≠ 0) && decide (e + 1 ≤ w (7694 + 72 * m + 11) ∧ w (7694 + 72 * m + 11) ≤ t) && decide (w (7694 + 72 * m + 1) ≤ k ∧ k ≤ w (7694 + 72 * m + 2) - 1)) (b := fun m q => decide (w (7694 + 72 * m + 11) < w (7694 + 72 * q + 11))) (n := j) (by grind) hb] at ih; first | exact ih | exact EV_ls (by repeat (first | exact lsub_0 | refine lsub_n ?_ | refine lsub_s ?_)) ih) | (rw [bst_1 (c := fun m => decide (w (7694 + 72 * m + 11) ≠ 0) && decide (e + 1 ≤ w (7694 + 72 * m + 11) ∧ w (7694 + 72 * m + 11) ≤ t) && decide (w (7694 + 72 * m + 1) ≤ k ∧ k ≤ w (7694 + 72 * m + 2) - 1)) (b := fun m q => decide (w (7694 + 72 * m + 11) < w (7694 + 72 * q + 11))) (n := j) (by grind) hb (by grind)] at ih; first | exact ih | exact EV_ls (by repeat (first | exact lsub_0 | refine lsub_n ?_ | refine lsub_s ?_)) ih) | (rw [bst_2 (c := fun m => decide (w (7694 + 72 * m + 11) ≠ 0) && decide (e + 1 ≤ w (7694 + 72 * m + 11) ∧ w (7694 + 72 * m + 11) ≤ t) && decide (w (7694 + 72 * m + 1) ≤ k ∧ k ≤ w (7694 + 72 * m + 2) - 1)) (b := fun m q => decide (w (7694 + 72 * m + 11) < w (7694 + 72 * q + 11))) (n := j) (by grind) hb (by grind)] at ih; first | exact ih | exact EV_ls (by repeat (first | exact lsub_0 | refine lsub_n ?_ | refine lsub_s ?_)) ih)
                  · try first | contradiction | omega
                    all_goals
                      refine e_goto (tgt := 119) dX11_switchBehind_88 (by decide) ?_
                      first | refine n_inc dX11_switchBehind_119 rfl (Nat.le_of_ble_eq_true rfl) rfl ?_ | refine e_iinc dX11_switchBehind_119 rfl rfl (Nat.le_of_ble_eq_true rfl) rfl ?_
                      refine e_goto (tgt := 6) dX11_switchBehind_122 (by decide) ?_
                      first | (rw [bst_f (c := fun m => decide (w (7694 + 72 * m + 11) ≠ 0) && decide (e + 1 ≤ w (7694 + 72 * m + 11) ∧ w (7694 + 72 * m + 11) ≤ t) && decide (w (7694 + 72 * m + 1) ≤ k ∧ k ≤ w (7694 + 72 * m + 2) - 1)) (b := fun m q => decide (w (7694 + 72 * m + 11) < w (7694 + 72 * q + 11))) (n := j) (by grind), hb] at ih; first | exact ih | exact EV_ls (by repeat (first | exact lsub_0 | refine lsub_n ?_ | refine lsub_s ?_)) ih) | (rw [bst_0 (c := fun m => decide (w (7694 + 72 * m + 11) ≠ 0) && decide (e + 1 ≤ w (7694 + 72 * m + 11) ∧ w (7694 + 72 * m + 11) ≤ t) && decide (w (7694 + 72 * m + 1) ≤ k ∧ k ≤ w (7694 + 72 * m + 2) - 1)) (b := fun m q => decide (w (7694 + 72 * m + 11) < w (7694 + 72 * q + 11))) (n := j) (by grind) hb] at ih; first | exact ih | exact EV_ls (by repeat (first | exact lsub_0 | refine lsub_n ?_ | refine lsub_s ?_)) ih) | (rw [bst_1 (c := fun m => decide (w (7694 + 72 * m + 11) ≠ 0) && decide (e + 1 ≤ w (7694 + 72 * m + 11) ∧ w (7694 + 72 * m + 11) ≤ t) && decide (w (7694 + 72 * m + 1) ≤ k ∧ k ≤ w (7694 + 72 * m + 2) - 1)) (b := fun m q => decide (w (7694 + 72 * m + 11) < w (7694 + 72 * q + 11))) (n := j) (by grind) hb (by grind)] at ih; first | exact ih | exact EV_ls (by repeat (first | exact lsub_0 | refine lsub_n ?_ | refine lsub_s ?_)) ih) | (rw [bst_2 (c := fun m => decide (w (7694 + 72 * m + 11) ≠ 0) && decide (e + 1 ≤ w (7694 + 72 * m + 11) ∧ w (7694 + 72 * m + 11) ≤ t) && decide (w (7694 + 72 * m + 1) ≤ k ∧ k ≤ w (7694 + 72 * m + 2) - 1)) (b := fun m q => decide (w (7694 + 72 * m + 11) < w (7694 + 72 * q + 11))) (n := j) (by grind) hb (by grind)] at ih; first | exact ih | exact EV_ls (by repeat (first | exact lsub_0 | refine lsub_n ?_ | refine lsub_s ?_)) ih)
    ) (by
    refine e_iload dX11_switchBehind_6 rfl ?_
    refine e_aload_n dX11_switchBehind_8 rfl rfl ?_
    refine e_getR dX11_switchBehind_9 fl_X11_7 rfl (by assumption) ?_
    refine e_iconst (v := nI 3) dX11_switchBehind_12 rfl ?_
    first | ((with_reducible refine mk_ldw ?_); refine e_ldw dX11_switchBehind_13 (by omega) ?_) | refine e_iald _ dX11_switchBehind_13 ⟨by decide, by decide⟩ rfl rfl (by simp only [lenK]; omega) ?_
    first | ((with_reducible refine mk_nn ?_); refine n_icmp_ge (tgt := 125) dX11_switchBehind_14 (by decide) (by omega) (by omega) (fun h14 => ?_) (fun h14 => ?_)) | refine e_icmp_ge (tgt := 125) dX11_switchBehind_14 (by decide) (fun h14 => ?_) (fun h14 => ?_)
    · try first | contradiction | omega
      all_goals
        refine e_iload dX11_switchBehind_125 rfl ?_
        refine e_ret (some _) rfl (r_int dX11_switchBehind_127 rfl) ?_
        exact xq rfl rfl rfl rfl rfl rfl
    · try first | contradiction | omega
      all_goals
        refine e_aload_n dX11_switchBehind_17 rfl rfl ?_
        refine e_getR dX11_switchBehind_18 fl_X11_7 rfl (by assumption) ?_
        refine e_iload dX11_switchBehind_21 rfl ?_
        refine x_S1 (M' := mX11_moveAt) dX11_switchBehind_23 ml_X11_62 ok_X11_moveAt rfl sc_X11_moveAt (ct_X11_moveAt) (Nat.le_of_ble_eq_true rfl) (by decide) (Nat.le_of_ble_eq_true rfl) ?_
        refine e_bipush (v := nI 11) dX11_switchBehind_26 rfl ?_
        first | ((with_reducible refine mk_nn ?_); refine n_iadd dX11_switchBehind_28 ?_) | refine e_iadd dX11_switchBehind_28 ?_
        first | ((with_reducible refine mk_ldw ?_); refine e_ldw dX11_switchBehind_29 (by omega) ?_) | refine e_iald _ dX11_switchBehind_29 ⟨by decide, by decide⟩ rfl rfl (by simp only [lenK]; omega) ?_
        refine e_istore dX11_switchBehind_30 (Nat.le_of_ble_eq_true rfl) rfl ?_
        refine e_iload dX11_switchBehind_32 rfl ?_
        first | ((with_reducible refine mk_b ?_); refine b_if_eq (tgt := 119) dX11_switchBehind_34 (by decide) (fun h34 => ?_) (fun h34 => ?_)) | ((with_reducible refine mk_ll ?_); refine m_if_eq (tgt := 119) dX11_switchBehind_34 (by decide) (by omega) (by omega) (fun h34 => ?_) (fun h34 => ?_)) | ((with_reducible refine mk_lc ?_); refine l_if_eq (tgt := 119) dX11_switchBehind_34 (by decide) (fun h34 => ?_) (fun h34 => ?_)) | ((with_reducible refine mk_n ?_); refine n_if_eq (tgt := 119) dX11_switchBehind_34 (by decide) (by omega) (fun h34 => ?_) (fun h34 => ?_)) | refine e_if_eq (tgt := 119) dX11_switchBehind_34 (by decide) (fun h34 => ?_) (fun h34 => ?_)
        · try first | contradiction | omega
          all_goals
            first | refine n_inc dX11_switchBehind_119 rfl (Nat.le_of_ble_eq_true rfl) rfl ?_ | refine e_iinc dX11_switchBehind_119 rfl rfl (Nat.le_of_ble_eq_true rfl) rfl ?_
            refine e_goto (tgt := 6) dX11_switchBehind_122 (by decide) ?_
            first | (rw [bst_f (c := fun m => decide (w (7694 + 72 * m + 11) ≠ 0) && decide (e + 1 ≤ w (7694 + 72 * m + 11) ∧ w (7694 + 72 * m + 11) ≤ t) && decide (w (7694 + 72 * m + 1) ≤ k ∧ k ≤ w (7694 + 72 * m + 2) - 1)) (b := fun m q => decide (w (7694 + 72 * m + 11) < w (7694 + 72 * q + 11))) (n := j) (by grind), hb] at ih; first | exact ih | exact EV_ls (by repeat (first | exact lsub_0 | refine lsub_n ?_ | refine lsub_s ?_)) ih) | (rw [bst_0 (c := fun m => decide (w (7694 + 72 * m + 11) ≠ 0) && decide (e + 1 ≤ w (7694 + 72 * m + 11) ∧ w (7694 + 72 * m + 11) ≤ t) && decide (w (7694 + 72 * m + 1) ≤ k ∧ k ≤ w (7694 + 72 * m + 2) - 1)) (b := fun m q => decide (w (7694 + 72 * m + 11) < w (7694 + 72 * q + 11))) (n := j) (by grind) hb] at ih; first | exact ih | exact EV_ls (by repeat (first | exact lsub_0 | refine lsub_n ?_ | refine lsub_s ?_)) ih) | (rw [bst_1 (c := fun m => decide (w (7694 + 72 * m + 11) ≠ 0) && decide (e + 1 ≤ w (7694 + 72 * m + 11) ∧ w (7694 + 72 * m + 11) ≤ t) && decide (w (7694 + 72 * m + 1) ≤ k ∧ k ≤ w (7694 + 72 * m + 2) - 1)) (b := fun m q => decide (w (7694 + 72 * m + 11) < w (7694 + 72 * q + 11))) (n := j) (by grind) hb (by grind)] at ih; first | exact ih | exact EV_ls (by repeat (first | exact lsub_0 | refine lsub_n ?_ | refine lsub_s ?_)) ih) | (rw [bst_2 (c := fun m => decide (w (7694 + 72 * m + 11) ≠ 0) && decide (e + 1 ≤ w (7694 + 72 * m + 11) ∧ w (7694 + 72 * m + 11) ≤ t) && decide (w (7694 + 72 * m + 1) ≤ k ∧ k ≤ w (7694 + 72 * m + 2) - 1)) (b := fun m q => decide (w (7694 + 72 * m + 11) < w (7694 + 72 * q + 11))) (n := j) (by grind) hb (by grind)] at ih; first | exact ih | exact EV_ls (by repeat (first | exact lsub_0 | refine lsub_n ?_ | refine lsub_s ?_)) ih)
        · try first | contradiction | omega
          all_goals
            refine e_iload dX11_switchBehind_37 rfl ?_
            first | ((with_reducible refine mk_n ?_); refine n_i2l dX11_switchBehind_39 (by omega) ?_) | refine e_i2l dX11_switchBehind_39 ?_
            refine e_iload_n dX11_switchBehind_40 rfl rfl ?_
            refine e_iconst (v := nI 1) dX11_switchBehind_41 rfl ?_
            first | ((with_reducible refine mk_nn ?_); refine n_iadd dX11_switchBehind_42 ?_) | refine e_iadd dX11_switchBehind_42 ?_
            first | ((with_reducible refine mk_n ?_); refine n_i2l dX11_switchBehind_43 (by omega) ?_) | refine e_i2l dX11_switchBehind_43 ?_
            refine e_iload_n dX11_switchBehind_44 rfl rfl ?_
            first | ((with_reducible refine mk_n ?_); refine n_i2l dX11_switchBehind_45 (by omega) ?_) | refine e_i2l dX11_switchBehind_45 ?_
            refine x_S3 (M' := mX11_isIn) dX11_switchBehind_46 ml_X11_45 ok_X11_isIn rfl sc_X11_isIn (ct_isInN (by omega) (by omega) (by omega)) (Nat.le_of_ble_eq_true rfl) (by decide) (Nat.le_of_ble_eq_true rfl) ?_
            first | ((with_reducible refine mk_b ?_); refine b_if_eq (tgt := 119) dX11_switchBehind_49 (by decide) (fun h49 => ?_) (fun h49 => ?_)) | ((with_reducible refine mk_ll ?_); refine m_if_eq (tgt := 119) dX11_switchBehind_49 (by decide) (by omega) (by omega) (fun h49 => ?_) (fun h49 => ?_)) | ((with_reducible refine mk_lc ?_); refine l_if_eq (tgt := 119) dX11_switchBehind_49 (by decide) (fun h49 => ?_) (fun h49 => ?_)) | ((with_reducible refine mk_n ?_); refine n_if_eq (tgt := 119) dX11_switchBehind_49 (by decide) (by omega) (fun h49 => ?_) (fun h49 => ?_)) | refine e_if_eq (tgt := 119) dX11_switchBehind_49 (by decide) (fun h49 => ?_) (fun h49 => ?_)
            · try first | contradiction | omega
              all_goals
                first | refine n_inc dX11_switchBehind_119 rfl (Nat.le_of_ble_eq_true rfl) rfl ?_ | refine e_iinc dX11_switchBehind_119 rfl rfl (Nat.le_of_ble_eq_true rfl) rfl ?_
                refine e_goto (tgt := 6) dX11_switchBehind_122 (by decide) ?_
                first | (rw [bst_f (c := fun m => decide (w (7694 + 72 * m + 11) ≠ 0) && decide (e + 1 ≤ w (7694 + 72 * m + 11) ∧ w (7694 + 72 * m + 11) ≤ t) && decide (w (7694 + 72 * m + 1) ≤ k ∧ k ≤ w (7694 + 72 * m + 2) - 1)) (b := fun m q => decide (w (7694 + 72 * m + 11) < w (7694 + 72 * q + 11))) (n := j) (by grind), hb] at ih; first | exact ih | exact EV_ls (by repeat (first | exact lsub_0 | refine lsub_n ?_ | refine lsub_s ?_)) ih) | (rw [bst_0 (c := fun m => decide (w (7694 + 72 * m + 11) ≠ 0) && decide (e + 1 ≤ w (7694 + 72 * m + 11) ∧ w (7694 + 72 * m + 11) ≤ t) && decide (w (7694 + 72 * m + 1) ≤ k ∧ k ≤ w (7694 + 72 * m + 2) - 1)) (b := fun m q => decide (w (7694 + 72 * m + 11) < w (7694 + 72 * q + 11))) (n := j) (by grind) hb] at ih; first | exact ih | exact EV_ls (by repeat (first | exact lsub_0 | refine lsub_n ?_ | refine lsub_s ?_)) ih) | (rw [bst_1 (c := fun m => decide (w (7694 + 72 * m + 11) ≠ 0) && decide (e + 1 ≤ w (7694 + 72 * m + 11) ∧ w (7694 + 72 * m + 11) ≤ t) && decide (w (7694 + 72 * m + 1) ≤ k ∧ k ≤ w (7694 + 72 * m + 2) - 1)) (b := fun m q => decide (w (7694 + 72 * m + 11) < w (7694 + 72 * q + 11))) (n := j) (by grind) hb (by grind)] at ih; first | exact ih | exact EV_ls (by repeat (first | exact lsub_0 | refine lsub_n ?_ | refine lsub_s ?_)) ih) | (rw [bst_2 (c := fun m => decide (w (7694 + 72 * m + 11) ≠ 0) && decide (e + 1 ≤ w (7694 + 72 * m + 11) ∧ w (7694 + 72 * m + 11) ≤ t) && decide (w (7694 + 72 * m + 1) ≤ k ∧ k ≤ w (7694 + 72 * m + 2) - 1)) (b := fun m q => decide (w (7694 + 72 * m + 11) < w (7694 + 72 * q + 11))) (n := j) (by grind) hb (by grind)] at ih; first | exact ih | exact EV_ls (by repeat (first | exact lsub_0 | refine lsub_n ?_ | refine lsub_s ?_)) ih)
            · try first | contradiction | omega
              all_goals
                refine e_iload_n dX11_switchBehind_52 rfl rfl ?_
                first | ((with_reducible refine mk_n ?_); refine n_i2l dX11_switchBehind_53 (by omega) ?_) | refine e_i2l dX11_switchBehind_53 ?_
                refine e_aload_n dX11_switchBehind_54 rfl rfl ?_
                refine e_getR dX11_switchBehind_55 fl_X11_7 rfl (by assumption) ?_
                refine e_iload dX11_switchBehind_58 rfl ?_
                refine x_S1 (M' := mX11_moveAt) dX11_switchBehind_60 ml_X11_62 ok_X11_moveAt rfl sc_X11_moveAt (ct_X11_moveAt) (Nat.le_of_ble_eq_true rfl) (by decide) (Nat.le_of_ble_eq_true rfl) ?_
                refine e_iconst (v := nI 1) dX11_switchBehind_63 rfl ?_
                first | ((with_reducible refine mk_nn ?_); refine n_iadd dX11_switchBehind_64 ?_) | refine e_iadd dX11_switchBehind_64 ?_
                first | ((with_reducible refine mk_ldw ?_); refine e_ldw dX11_switchBehind_65 (by omega) ?_) | refine e_iald _ dX11_switchBehind_65 ⟨by decide, by decide⟩ rfl rfl (by simp only [lenK]; omega) ?_
                first | ((with_reducible refine mk_n ?_); refine n_i2l dX11_switchBehind_66 (by omega) ?_) | refine e_i2l dX11_switchBehind_66 ?_
                refine e_aload_n dX11_switchBehind_67 rfl rfl ?_
                refine e_getR dX11_switchBehind_68 fl_X11_7 rfl (by assumption) ?_
                refine e_iload dX11_switchBehind_71 rfl ?_
                refine x_S1 (M' := mX11_moveAt) dX11_switchBehind_73 ml_X11_62 ok_X11_moveAt rfl sc_X11_moveAt (ct_X11_moveAt) (Nat.le_of_ble_eq_true rfl) (by decide) (Nat.le_of_ble_eq_true rfl) ?_
                refine e_iconst (v := nI 2) dX11_switchBehind_76 rfl ?_
                first | ((with_reducible refine mk_nn ?_); refine n_iadd dX11_switchBehind_77 ?_) | refine e_iadd dX11_switchBehind_77 ?_
                first | ((with_reducible refine mk_ldw ?_); refine e_ldw dX11_switchBehind_78 (by omega) ?_) | refine e_iald _ dX11_switchBehind_78 ⟨by decide, by decide⟩ rfl rfl (by simp only [lenK]; omega) ?_
                refine e_iconst (v := nI 1) dX11_switchBehind_79 rfl ?_
                first | ((with_reducible refine mk_nn ?_); refine n_isub dX11_switchBehind_80 (by omega) ?_) | refine e_isub dX11_switchBehind_80 ?_
                first | ((with_reducible refine mk_n ?_); refine n_i2l dX11_switchBehind_81 (by omega) ?_) | refine e_i2l dX11_switchBehind_81 ?_
                refine x_S3 (M' := mX11_isIn) dX11_switchBehind_82 ml_X11_45 ok_X11_isIn rfl sc_X11_isIn (ct_isInN (by omega) (by omega) (by omega)) (Nat.le_of_ble_eq_true rfl) (by decide) (Nat.le_of_ble_eq_true rfl) ?_
                first | ((with_reducible refine mk_b ?_); refine b_if_ne (tgt := 91) dX11_switchBehind_85 (by decide) (fun h85 => ?_) (fun h85 => ?_)) | ((with_reducible refine mk_ll ?_); refine m_if_ne (tgt := 91) dX11_switchBehind_85 (by decide) (by omega) (by omega) (fun h85 => ?_) (fun h85 => ?_)) | ((with_reducible refine mk_lc ?_); refine l_if_ne (tgt := 91) dX11_switchBehind_85 (by decide) (fun h85 => ?_) (fun h85 => ?_)) | ((with_reducible refine mk_n ?_); refine n_if_ne (tgt := 91) dX11_switchBehind_85 (by decide) (by omega) (fun h85 => ?_) (fun h85 => ?_)) | refine e_if_ne (tgt := 91) dX11_switchBehind_85 (by decide) (fun h85 => ?_) (fun h85 => ?_)
                · try first | contradiction | omega
                  all_goals
                    refine e_iload dX11_switchBehind_91 rfl ?_
                    refine e_iconst (v := -1) dX11_switchBehind_93 rfl ?_
                    first | ((with_reducible refine mk_mo ?_); refine p_icmp_eq (tgt := 115) dX11_switchBehind_94 (by decide) (fun h94 => ?_) (fun h94 => ?_)) | ((with_reducible refine mk_ms ?_); refine s_icmp_eq (tgt := 115) dX11_switchBehind_94 (by decide) (by omega) (fun h94 => ?_) (fun h94 => ?_)) | ((with_reducible refine mk_mn ?_); refine q_icmp_eq (tgt := 115) dX11_switchBehind_94 (by decide) (by omega) (fun h94 => ?_) (fun h94 => ?_)) | ((with_reducible refine mk_nn ?_); refine n_icmp_eq (tgt := 115) dX11_switchBehind_94 (by decide) (by omega) (by omega) (fun h94 => ?_) (fun h94 => ?_)) | refine e_icmp_eq (tgt := 115) dX11_switchBehind_94 (by decide) (fun h94 => ?_) (fun h94 => ?_)
                    · try first | contradiction | omega
                      all_goals
                        refine e_iload dX11_switchBehind_115 rfl ?_
                        refine e_istore dX11_switchBehind_117 (Nat.le_of_ble_eq_true rfl) rfl ?_
                        first | refine n_inc dX11_switchBehind_119 rfl (Nat.le_of_ble_eq_true rfl) rfl ?_ | refine e_iinc dX11_switchBehind_119 rfl rfl (Nat.le_of_ble_eq_true rfl) rfl ?_
                        refine e_goto (tgt := 6) dX11_switchBehind_122 (by decide) ?_
                        first | (rw [bst_f (c := fun m => decide (w (7694 + 72 * m + 11) ≠ 0) && decide (e + 1 ≤ w (7694 + 72 * m + 11) ∧ w (7694 + 72 * m + 11) ≤ t) && decide (w (7694 + 72 * m + 1) ≤ k ∧ k ≤ w (7694 + 72 * m + 2) - 1)) (b := fun m q => decide (w (7694 + 72 * m + 11) < w (7694 + 72 * q + 11))) (n := j) (by grind), hb] at ih; first | exact ih | exact EV_ls (by repeat (first | exact lsub_0 | refine lsub_n ?_ | refine lsub_s ?_)) ih) | (rw [bst_0 (c := fun m => decide (w (7694 + 72 * m + 11) ≠ 0) && decide (e + 1 ≤ w (7694 + 72 * m + 11) ∧ w (7694 + 72 * m + 11) ≤ t) && decide (w (7694 + 72 * m + 1) ≤ k ∧ k ≤ w (7694 + 72 * m + 2) - 1)) (b := fun m q => decide (w (7694 + 72 * m + 11) < w (7694 + 72 * q + 11))) (n := j) (by grind) hb] at ih; first | exact ih | exact EV_ls (by repeat (first | exact lsub_0 | refine lsub_n ?_ | refine lsub_s ?_)) ih) | (rw [bst_1 (c := fun m => decide (w (7694 + 72 * m + 11) ≠ 0) && decide (e + 1 ≤ w (7694 + 72 * m + 11) ∧ w (7694 + 72 * m + 11) ≤ t) && decide (w (7694 + 72 * m + 1) ≤ k ∧ k ≤ w (7694 + 72 * m + 2) - 1)) (b := fun m q => decide (w (7694 + 72 * m + 11) < w (7694 + 72 * q + 11))) (n := j) (by grind) hb (by grind)] at ih; first | exact ih | exact EV_ls (by repeat (first | exact lsub_0 | refine lsub_n ?_ | refine lsub_s ?_)) ih) | (rw [bst_2 (c := fun m => decide (w (7694 + 72 * m + 11) ≠ 0) && decide (e + 1 ≤ w (7694 + 72 * m + 11) ∧ w (7694 + 72 * m + 11) ≤ t) && decide (w (7694 + 72 * m + 1) ≤ k ∧ k ≤ w (7694 + 72 * m + 2) - 1)) (b := fun m q => decide (w (7694 + 72 * m + 11) < w (7694 + 72 * q + 11))) (n := j) (by grind) hb (by grind)] at ih; first | exact ih | exact EV_ls (by repeat (first | exact lsub_0 | refine lsub_n ?_ | refine lsub_s ?_)) ih)
                    · try first | contradiction | omega
                      all_goals
                        refine e_iload dX11_switchBehind_97 rfl ?_
                        refine e_aload_n dX11_switchBehind_99 rfl rfl ?_
                        refine e_getR dX11_switchBehind_100 fl_X11_7 rfl (by assumption) ?_
                        refine e_iload dX11_switchBehind_103 rfl ?_
                        refine x_S1 (M' := mX11_moveAt) dX11_switchBehind_105 ml_X11_62 ok_X11_moveAt rfl sc_X11_moveAt (ct_X11_moveAt) (Nat.le_of_ble_eq_true rfl) (by decide) (Nat.le_of_ble_eq_true rfl) ?_
                        refine e_bipush (v := nI 11) dX11_switchBehind_108 rfl ?_
                        first | ((with_reducible refine mk_nn ?_); refine n_iadd dX11_switchBehind_110 ?_) | refine e_iadd dX11_switchBehind_110 ?_
                        first | ((with_reducible refine mk_ldw ?_); refine e_ldw dX11_switchBehind_111 (by omega) ?_) | refine e_iald _ dX11_switchBehind_111 ⟨by decide, by decide⟩ rfl rfl (by simp only [lenK]; omega) ?_
                        first | ((with_reducible refine mk_nn ?_); refine n_icmp_ge (tgt := 119) dX11_switchBehind_112 (by decide) (by omega) (by omega) (fun h112 => ?_) (fun h112 => ?_)) | refine e_icmp_ge (tgt := 119) dX11_switchBehind_112 (by decide) (fun h112 => ?_) (fun h112 => ?_)
                        · try first | contradiction | omega
                          all_goals
                            first | refine n_inc dX11_switchBehind_119 rfl (Nat.le_of_ble_eq_true rfl) rfl ?_ | refine e_iinc dX11_switchBehind_119 rfl rfl (Nat.le_of_ble_eq_true rfl) rfl ?_
                            refine e_goto (tgt := 6) dX11_switchBehind_122 (by decide) ?_
                            first | (rw [bst_f (c := fun m => decide (w (7694 + 72 * m + 11) ≠ 0) && decide (e + 1 ≤ w (7694 + 72 * m + 11) ∧ w (7694 + 72 * m + 11) ≤ t) && decide (w (7694 + 72 * m + 1) ≤ k ∧ k ≤ w (7694 + 72 * m + 2) - 1)) (b := fun m q => decide (w (7694 + 72 * m + 11) < w (7694 + 72 * q + 11))) (n := j) (by grind), hb] at ih; first | exact ih | exact EV_ls (by repeat (first | exact lsub_0 | refine lsub_n ?_ | refine lsub_s ?_)) ih) | (rw [bst_0 (c := fun m => decide (w (7694 + 72 * m + 11) ≠ 0) && decide (e + 1 ≤ w (7694 + 72 * m + 11) ∧ w (7694 + 72 * m + 11) ≤ t) && decide (w (7694 + 72 * m + 1) ≤ k ∧ k ≤ w (7694 + 72 * m + 2) - 1)) (b := fun m q => decide (w (7694 + 72 * m + 11) < w (7694 + 72 * q + 11))) (n := j) (by grind) hb] at ih; first | exact ih | exact EV_ls (by repeat (first | exact lsub_0 | refine lsub_n ?_ | refine lsub_s ?_)) ih) | (rw [bst_1 (c := fun m => decide (w (7694 + 72 * m + 11) ≠ 0) && decide (e + 1 ≤ w (7694 + 72 * m + 11) ∧ w (7694 + 72 * m + 11) ≤ t) && decide (w (7694 + 72 * m + 1) ≤ k ∧ k ≤ w (7694 + 72 * m + 2) - 1)) (b := fun m q => decide (w (7694 + 72 * m + 11) < w (7694 + 72 * q + 11))) (n := j) (by grind) hb (by grind)] at ih; first | exact ih | exact EV_ls (by repeat (first | exact lsub_0 | refine lsub_n ?_ | refine lsub_s ?_)) ih) | (rw [bst_2 (c := fun m => decide (w (7694 + 72 * m + 11) ≠ 0) && decide (e + 1 ≤ w (7694 + 72 * m + 11) ∧ w (7694 + 72 * m + 11) ≤ t) && decide (w (7694 + 72 * m + 1) ≤ k ∧ k ≤ w (7694 + 72 * m + 2) - 1)) (b := fun m q => decide (w (7694 + 72 * m + 11) < w (7694 + 72 * q + 11))) (n := j) (by grind) hb (by grind)] at ih; first | exact ih | exact EV_ls (by repeat (first | exact lsub_0 | refine lsub_n ?_ | refine lsub_s ?_)) ih)
                        · try first | contradiction | omega
                          all_goals
                            refine e_iload dX11_switchBehind_115 rfl ?_
                            refine e_istore dX11_switchBehind_117 (Nat.le_of_ble_eq_true rfl) rfl ?_
                            first | refine n_inc dX11_switchBehind_119 rfl (Nat.le_of_ble_eq_true rfl) rfl ?_ | refine e_iinc dX11_switchBehind_119 rfl rfl (Nat.le_of_ble_eq_true rfl) rfl ?_
                            refine e_goto (tgt := 6) dX11_switchBehind_122 (by decide) ?_
                            first | (rw [bst_f (c := fun m => decide (w (7694 + 72 * m + 11) ≠ 0) && decide (e + 1 ≤ w (7694 + 72 * m + 11) ∧ w (7694 + 72 * m + 11) ≤ t) && decide (w (7694 + 72 * m + 1) ≤ k ∧ k ≤ w (7694 + 72 * m + 2) - 1)) (b := fun m q => decide (w (7694 + 72 * m + 11) < w (7694 + 72 * q + 11))) (n := j) (by grind), hb] at ih; first | exact ih | exact EV_ls (by repeat (first | exact lsub_0 | refine lsub_n ?_ | refine lsub_s ?_)) ih) | (rw [bst_0 (c := fun m => decide (w (7694 + 72 * m + 11) ≠ 0) && decide (e + 1 ≤ w (7694 + 72 * m + 11) ∧ w (7694 + 72 * m + 11) ≤ t) && decide (w (7694 + 72 * m + 1) ≤ k ∧ k ≤ w (7694 + 72 * m + 2) - 1)) (b := fun m q => decide (w (7694 + 72 * m + 11) < w (7694 + 72 * q + 11))) (n := j) (by grind) hb] at ih; first | exact ih | exact EV_ls (by repeat (first | exact lsub_0 | refine lsub_n ?_ | refine lsub_s ?_)) ih) | (rw [bst_1 (c := fun m => decide (w (7694 + 72 * m + 11) ≠ 0) && decide (e + 1 ≤ w (7694 + 72 * m + 11) ∧ w (7694 + 72 * m + 11) ≤ t) && decide (w (7694 + 72 * m + 1) ≤ k ∧ k ≤ w (7694 + 72 * m + 2) - 1)) (b := fun m q => decide (w (7694 + 72 * m + 11) < w (7694 + 72 * q + 11))) (n := j) (by grind) hb (by grind)] at ih; first | exact ih | exact EV_ls (by repeat (first | exact lsub_0 | refine lsub_n ?_ | refine lsub_s ?_)) ih) | (rw [bst_2 (c := fun m => decide (w (7694 + 72 * m + 11) ≠ 0) && decide (e + 1 ≤ w (7694 + 72 * m + 11) ∧ w (7694 + 72 * m + 11) ≤ t) && decide (w (7694 + 72 * m + 1) ≤ k ∧ k ≤ w (7694 + 72 * m + 2) - 1)) (b := fun m q => decide (w (7694 + 72 * m + 11) < w (7694 + 72 * q + 11))) (n := j) (by grind) hb (by grind)] at ih; first | exact ih | exact EV_ls (by repeat (first | exact lsub_0 | refine lsub_n ?_ | refine lsub_s ?_)) ih)
                · try first | contradiction | omega
                  all_goals
                    refine e_goto (tgt := 119) dX11_switchBehind_88 (by decide) ?_
                    first | refine n_inc dX11_switchBehind_119 rfl (Nat.le_of_ble_eq_true rfl) rfl ?_ | refine e_iinc dX11_switchBehind_119 rfl rfl (Nat.le_of_ble_eq_true rfl) rfl ?_
                    refine e_goto (tgt := 6) dX11_switchBehind_122 (by decide) ?_
                    first | (rw [bst_f (c := fun m => decide (w (7694 + 72 * m + 11) ≠ 0) && decide (e + 1 ≤ w (7694 + 72 * m + 11) ∧ w (7694 + 72 * m + 11) ≤ t) && decide (w (7694 + 72 * m + 1) ≤ k ∧ k ≤ w (7694 + 72 * m + 2) - 1)) (b := fun m q => decide (w (7694 + 72 * m + 11) < w (7694 + 72 * q + 11))) (n := j) (by grind), hb] at ih; first | exact ih | exact EV_ls (by repeat (first | exact lsub_0 | refine lsub_n ?_ | refine lsub_s ?_)) ih) | (rw [bst_0 (c := fun m => decide (w (7694 + 72 * m + 11) ≠ 0) && decide (e + 1 ≤ w (7694 + 72 * m + 11) ∧ w (7694 + 72 * m + 11) ≤ t) && decide (w (7694 + 72 * m + 1) ≤ k ∧ k ≤ w (7694 + 72 * m + 2) - 1)) (b := fun m q => decide (w (7694 + 72 * m + 11) < w (7694 + 72 * q + 11))) (n := j) (by grind) hb] at ih; first | exact ih | exact EV_ls (by repeat (first | exact lsub_0 | refine lsub_n ?_ | refine lsub_s ?_)) ih) | (rw [bst_1 (c := fun m => decide (w (7694 + 72 * m + 11) ≠ 0) && decide (e + 1 ≤ w (7694 + 72 * m + 11) ∧ w (7694 + 72 * m + 11) ≤ t) && decide (w (7694 + 72 * m + 1) ≤ k ∧ k ≤ w (7694 + 72 * m + 2) - 1)) (b := fun m q => decide (w (7694 + 72 * m + 11) < w (7694 + 72 * q + 11))) (n := j) (by grind) hb (by grind)] at ih; first | exact ih | exact EV_ls (by repeat (first | exact lsub_0 | refine lsub_n ?_ | refine lsub_s ?_)) ih) | (rw [bst_2 (c := fun m => decide (w (7694 + 72 * m + 11) ≠ 0) && decide (e + 1 ≤ w (7694 + 72 * m + 11) ∧ w (7694 + 72 * m + 11) ≤ t) && decide (w (7694 + 72 * m + 1) ≤ k ∧ k ≤ w (7694 + 72 * m + 2) - 1)) (b := fun m q => decide (w (7694 + 72 * m + 11) < w (7694 + 72 * q + 11))) (n := j) (by grind) hb (by grind)] at ih; first | exact ih | exact EV_ls (by repeat (first | exact lsub_0 | refine lsub_n ?_ | refine lsub_s ?_)) ih)
    )
  refine e_iconst (v := -1) dX11_switchBehind_0 rfl ?_
  refine e_istore dX11_switchBehind_1 (Nat.le_of_ble_eq_true rfl) rfl ?_
  refine e_iconst (v := nI 0) dX11_switchBehind_3 rfl ?_
  refine e_istore dX11_switchBehind_4 (Nat.le_of_ble_eq_true rfl) rfl ?_
  exact key 0 (by omega)
