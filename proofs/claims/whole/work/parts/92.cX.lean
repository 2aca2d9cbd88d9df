abbrev QS := Nat × Nat × Int32 × Int32
/-- the tape's place, the clauses read, the fault and its place, laid over the fields -/
def qsF (fi : FI) (s : QS) : FI := fun f r => if r = rf 7 76 then (if f = 32 * 7 + 7 then nI s.1 else if f = 32 * 7 + 4 then nI s.2.1 else if f = 32 * 7 + 5 then s.2.2.1 else if f = 32 * 7 + 6 then s.2.2.2 else fi f r) else fi f r
theorem qs_at (fi : FI) (s : QS) (a : Nat) : up2 (qsF fi s) (32 * 7 + 7) (rf 7 76) (nI a) = qsF fi (a, s.2) := by
  funext f r
  unfold up2 qsF
  repeat' split
  all_goals first | rfl | omega
theorem qs_cl (fi : FI) (s : QS) (a : Nat) : up2 (qsF fi s) (32 * 7 + 4) (rf 7 76) (nI a) = qsF fi (s.1, a, s.2.2) := by
  funext f r
  unfold up2 qsF
  repeat' split
  all_goals first | rfl | omega
theorem qs_fa (fi : FI) (s : QS) (x : Int32) : up2 (qsF fi s) (32 * 7 + 5) (rf 7 76) x = qsF fi (s.1, s.2.1, x, s.2.2.2) := by
  funext f r
  unfold up2 qsF
  repeat' split
  all_goals first | rfl | omega
theorem qs_pl (fi : FI) (s : QS) (x : Int32) : up2 (qsF fi s) (32 * 7 + 6) (rf 7 76) x = qsF fi (s.1, s.2.1, s.2.2.1, x) := by
  funext f r
  unfold up2 qsF
  repeat' split
  all_goals first | rfl | omega
theorem qs_ln {fi : FI} {s : QS} {t : Nat} (h : fi (32 * 7 + 3) (rf 7 76) = nI t) : qsF fi s (32 * 7 + 3) (rf 7 76) = nI t := h
theorem ct_X7_tell {fi : FI} {fr : FR} {ai : FI} {ar : FR} {N : Nat} {s : QS} {k p : Int32} : CP mX7_tell 0 0 0 [.ref (rf 7 76), .int k, .int p] (qsF fi s) fr ai ar N (xQ none (qsF fi (s.1, s.2.1, k, p)) fr ai ar N) := by
  change EV mX7_tell 0 0 0 0 [some (.ref (rf 7 76)), some (.int k), some (.int p)] [] (qsF fi s) fr ai ar N _
  refine e_aload_n dX7_tell_0 rfl rfl ?_
  refine e_iload_n dX7_tell_1 rfl rfl ?_
  refine e_putI dX7_tell_2 fl_X7_35 rfl rfl rfl rfl ?_
  rw [qs_fa]
  refine e_aload_n dX7_tell_5 rfl rfl ?_
  refine e_iload_n dX7_tell_6 rfl rfl ?_
  refine e_putI dX7_tell_7 fl_X7_22 rfl rfl rfl rfl ?_
  rw [qs_pl]
  refine e_ret none rfl (r_void dX7_tell_10 rfl) ?_
  exact xq rfl rfl rfl rfl rfl rfl
theorem ct_X7_numberOf {fi : FI} {fr : FR} {ai : FI} {ar : FR} {N : Nat} (cm : CM fr ar) {c i : Nat} (hc : c * 3 + i < 120) (x : Int32) (hx : ai (rf 30 78) (c * 3 + i) = x) : CP mX7_numberOf 0 0 0 [.ref (rf 7 76), .int (nI c), .int (nI i)] fi fr ai ar N (xQ (some (.int x)) fi fr ai ar N) := by
  change EV mX7_numberOf 0 0 0 0 [some (.ref (rf 7 76)), some (.int (nI c)), some (.int (nI i))] [] fi fr ai ar N _
  refine e_aload_n dX7_numberOf_0 rfl rfl ?_
  refine e_getR dX7_numberOf_1 fl_X7_15 rfl (cs_num cm) ?_
  refine e_iload_n dX7_numberOf_4 rfl rfl ?_
  refine e_iconst (v := nI 3) dX7_numberOf_5 rfl ?_
  first | ((with_reducible refine mk_nn ?_); refine n_imul dX7_numberOf_6 ?_) | refine e_imul dX7_numberOf_6 ?_
  refine e_iload_n dX7_numberOf_7 rfl rfl ?_
  first | ((with_reducible refine mk_nn ?_); refine n_iadd dX7_numberOf_8 ?_) | refine e_iadd dX7_numberOf_8 ?_
  refine e_iadE _ dX7_numberOf_9 ⟨by decide, by decide⟩ rfl rfl (by simp only [lenK]; omega) hx ?_
  refine e_ret (some _) rfl (r_int dX7_numberOf_10 rfl) ?_
  exact xq rfl rfl rfl rfl rfl rfl
theorem ct_X7_skipBlanks {fi : FI} {fr : FR} {ai : FI} {ar : FR} {N : Nat} (cm : CM fr ar) {s : QS} {tp : Nat → Nat} {t : Nat} (ht : fi (32 * 7 + 3) (rf 7 76) = nI t) (ht4 : t ≤ 400) (hT : ∀ i, i < t → ai (rf 29 77) i = nI (tp i)) (hb : ∀ i, tp i < 256) (hs : s.1 ≤ t) : CP mX7_skipBlanks 0 0 0 [.ref (rf 7 76)] (qsF fi s) fr ai ar N (xQ none (qsF fi (skb tp t s.1, s.2)) fr ai ar N) := by
  have key : ∀ (f a : Nat), t - a = f → a ≤ t → adv (isB tp) (t - a) a = skb tp t s.1 → EV mX7_skipBlanks 0 0 0 0 [some (.ref (rf 7 76))] [] (qsF fi (a, s.2)) fr ai ar N (xQ none (qsF fi (skb tp t s.1, s.2)) fr ai ar N) := by
    intro f
    induction f with
    | zero =>
      intro a hf ha hd
      rw [adv_f (by omega)] at hd
      subst hd
      refine e_aload_n dX7_skipBlanks_0 rfl rfl ?_
      refine e_getE dX7_skipBlanks_1 fl_X7_29 rfl rfl ?_
      refine e_aload_n dX7_skipBlanks_4 rfl rfl ?_
      refine e_getE dX7_skipBlanks_5 fl_X7_26 rfl (qs_ln ht) ?_
      first | ((with_reducible refine mk_nn ?_); refine n_icmp_ge (tgt := 38) dX7_skipBlanks_8 (by decide) (by omega) (by omega) (fun h8 => ?_) (fun h8 => ?_)) | refine e_icmp_ge (tgt := 38) dX7_skipBlanks_8 (by decide) (fun h8 => ?_) (fun h8 => ?_)
      · try first | contradiction | omega
        all_goals
          refine e_ret none rfl (r_void dX7_skipBlanks_38 rfl) ?_
          exact xq rfl rfl rfl rfl rfl rfl
      · try first | contradiction | omega
        all_goals
          omega
    | succ f ih =>
      intro a hf ha hd
      have hba := hb a
      by_cases hp : tp a = 32
      · rw [adv_t (by omega) (decide_eq_true hp)] at hd
        refine e_aload_n dX7_skipBlanks_0 rfl rfl ?_
        refine e_getE dX7_skipBlanks_1 fl_X7_29 rfl rfl ?_
        refine e_aload_n dX7_skipBlanks_4 rfl rfl ?_
        refine e_getE dX7_skipBlanks_5 fl_X7_26 rfl (qs_ln ht) ?_
        first | ((with_reducible refine mk_nn ?_); refine n_icmp_ge (tgt := 38) dX7_skipBlanks_8 (by decide) (by omega) (by omega) (fun h8 => ?_) (fun h8 => ?_)) | refine e_icmp_ge (tgt := 38) dX7_skipBlanks_8 (by decide) (fun h8 => ?_) (fun h8 => ?_)
        · try first | contradiction | omega
          all_goals
            omega
        · try first | contradiction | omega
          all_goals
            refine e_aload_n dX7_skipBlanks_11 rfl rfl ?_
            refine e_getR dX7_skipBlanks_12 fl_X7_9 rfl (cs_txt cm) ?_
            refine e_aload_n dX7_skipBlanks_15 rfl rfl ?_
            refine e_getE dX7_skipBlanks_16 fl_X7_29 rfl rfl ?_
            refine e_cadE _ dX7_skipBlanks_19 ⟨by decide, by decide⟩ rfl rfl (by simp only [lenK]; omega) (hT a (by omega)) ?_
            refine e_bipush (v := nI 32) dX7_skipBlanks_20 rfl ?_
            first | ((with_reducible refine mk_mo ?_); refine p_icmp_ne (tgt := 38) dX7_skipBlanks_22 (by decide) (fun h22 => ?_) (fun h22 => ?_)) | ((with_reducible refine mk_ms ?_); refine s_icmp_ne (tgt := 38) dX7_skipBlanks_22 (by decide) (by omega) (fun h22 => ?_) (fun h22 => ?_)) | ((with_reducible refine mk_mn ?_); refine q_icmp_ne (tgt := 38) dX7_skipBlanks_22 (by decide) (by omega) (fun h22 => ?_) (fun h22 => ?_)) | ((with_reducible refine mk_nn ?_); refine n_icmp_ne (tgt := 38) dX7_skipBlanks_22 (by decide) (by omega) (by omega) (fun h22 => ?_) (fun h22 => ?_)) | refine e_icmp_ne (tgt := 38) dX7_skipBlanks_22 (by decide) (fun h22 => ?_) (fun h22 => ?_)
            · try first | contradiction | omega
              all_goals
                omega
            · try first | contradiction | omega
              all_goals
                refine e_aload_n dX7_skipBlanks_25 rfl rfl ?_
                refine e_dup dX7_skipBlanks_26 rfl ?_
                refine e_getE dX7_skipBlanks_27 fl_X7_29 rfl rfl ?_
                refine e_iconst (v := nI 1) dX7_skipBlanks_30 rfl ?_
                first | ((with_reducible refine mk_nn ?_); refine n_iadd dX7_skipBlanks_31 ?_) | refine e_iadd dX7_skipBlanks_31 ?_
                refine e_putI dX7_skipBlanks_32 fl_X7_29 rfl rfl rfl rfl ?_
                rw [qs_at]
                refine e_goto (tgt := 0) dX7_skipBlanks_35 (by decide) ?_
                exact ih (a + 1) (by omega) (by omega) hd
      · rw [adv_f (fun q => hp (of_decide_eq_true q.2))] at hd
        subst hd
        refine e_aload_n dX7_skipBlanks_0 rfl rfl ?_
        refine e_getE dX7_skipBlanks_1 fl_X7_29 rfl rfl ?_
        refine e_aload_n dX7_skipBlanks_4 rfl rfl ?_
        refine e_getE dX7_skipBlanks_5 fl_X7_26 rfl (qs_ln ht) ?_
        first | ((with_reducible refine mk_nn ?_); refine n_icmp_ge (tgt := 38) dX7_skipBlanks_8 (by decide) (by omega) (by omega) (fun h8 => ?_) (fun h8 => ?_)) | refine e_icmp_ge (tgt := 38) dX7_skipBlanks_8 (by decide) (fun h8 => ?_) (fun h8 => ?_)
        · try first | contradiction | omega
          all_goals
            refine e_ret none rfl (r_void dX7_skipBlanks_38 rfl) ?_
            exact xq rfl rfl rfl rfl rfl rfl
        · try first | contradiction | omega
          all_goals
            refine e_aload_n dX7_skipBlanks_11 rfl rfl ?_
            refine e_getR dX7_skipBlanks_12 fl_X7_9 rfl (cs_txt cm) ?_
            refine e_aload_n dX7_skipBlanks_15 rfl rfl ?_
            refine e_getE dX7_skipBlanks_16 fl_X7_29 rfl rfl ?_
            refine e_cadE _ dX7_skipBlanks_19 ⟨by decide, by decide⟩ rfl rfl (by simp only [lenK]; omega) (hT a (by omega)) ?_
            refine e_bipush (v := nI 32) dX7_skipBlanks_20 rfl ?_
            first | ((with_reducible refine mk_mo ?_); refine p_icmp_ne (tgt := 38) dX7_skipBlanks_22 (by decide) (fun h22 => ?_) (fun h22 => ?_)) | ((with_reducible refine mk_ms ?_); refine s_icmp_ne (tgt := 38) dX7_skipBlanks_22 (by decide) (by omega) (fun h22 => ?_) (fun h22 => ?_)) | ((with_reducible refine mk_mn ?_); refine q_icmp_ne (tgt := 38) dX7_skipBlanks_22 (by decide) (by omega) (fun h22 => ?_) (fun h22 => ?_)) | ((with_reducible refine mk_nn ?_); refine n_icmp_ne (tgt := 38) dX7_skipBlanks_22 (by decide) (by omega) (by omega) (fun h22 => ?_) (fun h22 => ?_)) | refine e_icmp_ne (tgt := 38) dX7_skipBlanks_22 (by decide) (fun h22 => ?_) (fun h22 => ?_)
            · try first | contradiction | omega
              all_goals
                refine e_ret none rfl (r_void dX7_skipBlanks_38 rfl) ?_
                exact xq rfl rfl rfl rfl rfl rfl
            · try first | contradiction | omega
              all_goals
                omega
  exact key _ s.1 rfl hs rfl
