abbrev QS := Nat × Nat × Int32 × Int32
/-- the tape's place, the clauses read, the fault and its place, laid over the fields -/
def qsF (fi : FI) (s : QS) : FI := fun f r => if r = rf 7 76 then (if f = 32 * 7 + 7 then nI s.1 else if f = 32 * 7 + 4 then nI s.2.1 else if f = 32 * 7 + 5 then s.2.2.1 else if f = 32 * 7 + 6 then s.2.2.2 else fi f r) else fi f r
theorem qs_at (fi : FI) (s : QS) (a : Nat) : up2 (qsF fi s) (32 * 7 + 7) (rf 7 76) (nI a) = qsF fi (a, s.2) := by
  funext f r
  unfold up2 qsF
  repeat' split
  all_goals first | rfl | omega
theorem qs_cl (fi : FI) (s : QS) (a : Nat) : up2 (qsF fi s) (32 * 7 + 4) (rf 7 76) (nI a) = qsF fi (s.1, a, s.2.2) := by
  funext f r
  unfold up2 qsF
  repeat' split
  all_goals first | rfl | omega
theorem qs_fa (fi : FI) (s : QS) (x : Int32) : up2 (qsF fi s) (32 * 7 + 5) (rf 7 76) x = qsF fi (s.1, s.2.1, x, s.2.2.2) := by
  funext f r
  unfold up2 qsF
  repeat' split
  all_goals first | rfl | omega
theorem qs_pl (fi : FI) (s : QS) (x : Int32) : up2 (qsF fi s) (32 * 7 + 6) (rf 7 76) x = qsF fi (s.1, s.2.1, s.2.2.1, x) := by
  funext f r
  unfold up2 qsF
  repeat' split
  all_goals first | rfl | omega
theorem qs_ln {fi : FI} {s : QS} {t : Nat} (h : fi (32 * 7 + 3) (rf 7 76) = nI t) : qsF fi s (32 * 7 + 3) (rf 7 76) = nI t := h
theorem qv_at {fi : FI} {a : Nat} {p : Nat × Int32 × Int32} : qsF fi (a, p) (32 * 7 + 7) (rf 7 76) = nI a := rfl
theorem qv_cl {fi : FI} {a : Nat} {p : Nat × Int32 × Int32} : qsF fi (a, p) (32 * 7 + 4) (rf 7 76) = nI p.1 := rfl
theorem ct_X7_tell {fi : FI} {fr : FR} {ai : FI} {ar : FR} {N : Nat} {s : QS} {k p : Int32} : CP mX7_tell 0 0 0 [.ref (rf 7 76), .int k, .int p] (qsF fi s) fr ai ar N (xQ none (qsF fi (s.1, s.2.1, k, p)) fr ai ar N) := by
  change EV mX7_tell 0 0 0 0 [some (.ref (rf 7 76)), some (.int k), some (.int p)] [] (qsF fi s) fr ai ar N _
  refine e_aload_n dX7_tell_0 rfl rfl ?_
  refine e_iload_n dX7_tell_1 rfl rfl ?_
  refine e_putI dX7_tell_2 fl_X7_35 rfl rfl rfl rfl ?_
  rw [qs_fa]
  refine e_aload_n dX7_tell_5 rfl rfl ?_
  refine e_iload_n dX7_tell_6 rfl rfl ?_
  refine e_putI dX7_tell_7 fl_X7_22 rfl rfl rfl rfl ?_
  rw [qs_pl]
  refine e_ret none rfl (r_void dX7_tell_10 rfl) ?_
  exact xq rfl rfl rfl rfl rfl rfl
theorem ct_X7_numberOf {fi : FI} {fr : FR} {ai : FI} {ar : FR} {N : Nat} (cm : CM fr ar) {c i : Nat} (hc : c * 3 + i < 120) (x : Int32) (hx : ai (rf 30 78) (c * 3 + i) = x) : CP mX7_numberOf 0 0 0 [.ref (rf 7 76), .int (nI c), .int (nI i)] fi fr ai ar N (xQ (some (.int x)) fi fr ai ar N) := by
  change EV mX7_numberOf 0 0 0 0 [some (.ref (rf 7 76)), some (.int (nI c)), some (.int (nI i))] [] fi fr ai ar N _
  refine e_aload_n dX7_numberOf_0 rfl rfl ?_
  refine e_getR dX7_numberOf_1 fl_X7_15 rfl (cs_num cm) ?_
  refine e_iload_n dX7_numberOf_4 rfl rfl ?_
  refine e_iconst (v := nI 3) dX7_numberOf_5 rfl ?_
  first | ((with_reducible refine mk_nn ?_); refine n_imul dX7_numberOf_6 ?_) | refine e_imul dX7_numberOf_6 ?_
  refine e_iload_n dX7_numberOf_7 rfl rfl ?_
  first | ((with_reducible refine mk_nn ?_); refine n_iadd dX7_numberOf_8 ?_) | refine e_iadd dX7_numberOf_8 ?_
  refine e_iadE _ dX7_numberOf_9 ⟨by decide, by decide⟩ rfl rfl (by simp only [lenK]; omega) hx ?_
  refine e_ret (some _) rfl (r_int dX7_numberOf_10 rfl) ?_
  exact xq rfl rfl rfl rfl rfl rfl
theorem ct_X7_skipBlanks {fi : FI} {fr : FR} {ai : FI} {ar : FR} {N : Nat} (cm : CM fr ar) {s : QS} {tp : Nat → Nat} {t : Nat} (ht : fi (32 * 7 + 3) (rf 7 76) = nI t) (ht4 : t ≤ 400) (hT : ∀ i, i < t → ai (rf 29 77) i = nI (tp i)) (hb : ∀ i, tp i < 256) (hs : s.1 ≤ t) : CP mX7_skipBlanks 0 0 0 [.ref (rf 7 76)] (qsF fi s) fr ai ar N (xQ none (qsF fi (skb tp t s.1, s.2)) fr ai ar N) := by
  have key : ∀ (f a : Nat), t - a = f → a ≤ t → adv (isB tp) (t - a) a = skb tp t s.1 → EV mX7_skipBlanks 0 0 0 0 [some (.ref (rf 7 76))] [] (qsF fi (a, s.2)) fr ai ar N (xQ none (qsF fi (skb tp t s.1, s.2)) fr ai ar N) := by
    intro f
    induction f with
    | zero =>
      intro a hf ha hd
      rw [adv_f (by omega)] at hd
      refine e_aload_n dX7_skipBlanks_0 rfl rfl ?_
      refine e_getE dX7_skipBlanks_1 fl_X7_29 rfl (qv_at (a := a)) ?_
      refine e_aload_n dX7_skipBlanks_4 rfl rfl ?_
      refine e_getE dX7_skipBlanks_5 fl_X7_26 rfl (qs_ln ht) ?_
      first | ((with_reducible refine mk_nn ?_); refine n_icmp_ge (tgt := 38) dX7_skipBlanks_8 (by decide) (by omega) (by omega) (fun h8 => ?_) (fun h8 => ?_)) | refine e_icmp_ge (tgt := 38) dX7_skipBlanks_8 (by decide) (fun h8 => ?_) (fun h8 => ?_)
      · try first | contradiction | omega
        all_goals
          refine e_ret none rfl (r_void dX7_skipBlanks_38 rfl) ?_
          exact xq rfl (by rw [hd]) rfl rfl rfl rfl
      · try first | contradiction | omega
        all_goals
          omega
    | succ f ih =>
      intro a hf ha hd
      have hba := hb a
      by_cases hp : tp a = 32
      · rw [adv_t (by omega) (decide_eq_true hp)] at hd
        refine e_aload_n dX7_skipBlanks_0 rfl rfl ?_
        refine e_getE dX7_skipBlanks_1 fl_X7_29 rfl (qv_at (a := a)) ?_
        refine e_aload_n dX7_skipBlanks_4 rfl rfl ?_
        refine e_getE dX7_skipBlanks_5 fl_X7_26 rfl (qs_ln ht) ?_
        first | ((with_reducible refine mk_nn ?_); refine n_icmp_ge (tgt := 38) dX7_skipBlanks_8 (by decide) (by omega) (by omega) (fun h8 => ?_) (fun h8 => ?_)) | refine e_icmp_ge (tgt := 38) dX7_skipBlanks_8 (by decide) (fun h8 => ?_) (fun h8 => ?_)
        · try first | contradiction | omega
          all_goals
            omega
        · try first | contradiction | omega
          all_goals
            refine e_aload_n dX7_skipBlanks_11 rfl rfl ?_
            refine e_getR dX7_skipBlanks_12 fl_X7_9 rfl (cs_txt cm) ?_
            refine e_aload_n dX7_skipBlanks_15 rfl rfl ?_
            refine e_getE dX7_skipBlanks_16 fl_X7_29 rfl (qv_at (a := a)) ?_
            refine e_cadE _ dX7_skipBlanks_19 ⟨by decide, by decide⟩ rfl rfl (by simp only [lenK]; omega) (hT a (by omega)) ?_
            refine e_bipush (v := nI 32) dX7_skipBlanks_20 rfl ?_
            first | ((with_reducible refine mk_mo ?_); refine p_icmp_ne (tgt := 38) dX7_skipBlanks_22 (by decide) (fun h22 => ?_) (fun h22 => ?_)) | ((with_reducible refine mk_ms ?_); refine s_icmp_ne (tgt := 38) dX7_skipBlanks_22 (by decide) (by omega) (fun h22 => ?_) (fun h22 => ?_)) | ((with_reducible refine mk_mn ?_); refine q_icmp_ne (tgt := 38) dX7_skipBlanks_22 (by decide) (by omega) (fun h22 => ?_) (fun h22 => ?_)) | ((with_reducible refine mk_nn ?_); refine n_icmp_ne (tgt := 38) dX7_skipBlanks_22 (by decide) (by omega) (by omega) (fun h22 => ?_) (fun h22 => ?_)) | refine e_icmp_ne (tgt := 38) dX7_skipBlanks_22 (by decide) (fun h22 => ?_) (fun h22 => ?_)
            · try first | contradiction | omega
              all_goals
                omega
            · try first | contradiction | omega
              all_goals
                refine e_aload_n dX7_skipBlanks_25 rfl rfl ?_
                refine e_dup dX7_skipBlanks_26 rfl ?_
                refine e_getE dX7_skipBlanks_27 fl_X7_29 rfl (qv_at (a := a)) ?_
                refine e_iconst (v := nI 1) dX7_skipBlanks_30 rfl ?_
                first | ((with_reducible refine mk_nn ?_); refine n_iadd dX7_skipBlanks_31 ?_) | refine e_iadd dX7_skipBlanks_31 ?_
                refine e_putI dX7_skipBlanks_32 fl_X7_29 rfl rfl rfl rfl ?_
                rw [qs_at]
                refine e_goto (tgt := 0) dX7_skipBlanks_35 (by decide) ?_
                exact ih (a + 1) (by omega) (by omega) hd
      · rw [adv_f (fun q => hp (of_decide_eq_true q.2))] at hd
        refine e_aload_n dX7_skipBlanks_0 rfl rfl ?_
        refine e_getE dX7_skipBlanks_1 fl_X7_29 rfl (qv_at (a := a)) ?_
        refine e_aload_n dX7_skipBlanks_4 rfl rfl ?_
        refine e_getE dX7_skipBlanks_5 fl_X7_26 rfl (qs_ln ht) ?_
        first | ((with_reducible refine mk_nn ?_); refine n_icmp_ge (tgt := 38) dX7_skipBlanks_8 (by decide) (by omega) (by omega) (fun h8 => ?_) (fun h8 => ?_)) | refine e_icmp_ge (tgt := 38) dX7_skipBlanks_8 (by decide) (fun h8 => ?_) (fun h8 => ?_)
        · try first | contradiction | omega
          all_goals
            refine e_ret none rfl (r_void dX7_skipBlanks_38 rfl) ?_
            exact xq rfl (by rw [hd]) rfl rfl rfl rfl
        · try first | contradiction | omega
          all_goals
            refine e_aload_n dX7_skipBlanks_11 rfl rfl ?_
            refine e_getR dX7_skipBlanks_12 fl_X7_9 rfl (cs_txt cm) ?_
            refine e_aload_n dX7_skipBlanks_15 rfl rfl ?_
            refine e_getE dX7_skipBlanks_16 fl_X7_29 rfl (qv_at (a := a)) ?_
            refine e_cadE _ dX7_skipBlanks_19 ⟨by decide, by decide⟩ rfl rfl (by simp only [lenK]; omega) (hT a (by omega)) ?_
            refine e_bipush (v := nI 32) dX7_skipBlanks_20 rfl ?_
            first | ((with_reducible refine mk_mo ?_); refine p_icmp_ne (tgt := 38) dX7_skipBlanks_22 (by decide) (fun h22 => ?_) (fun h22 => ?_)) | ((with_reducible refine mk_ms ?_); refine s_icmp_ne (tgt := 38) dX7_skipBlanks_22 (by decide) (by omega) (fun h22 => ?_) (fun h22 => ?_)) | ((with_reducible refine mk_mn ?_); refine q_icmp_ne (tgt := 38) dX7_skipBlanks_22 (by decide) (by omega) (fun h22 => ?_) (fun h22 => ?_)) | ((with_reducible refine mk_nn ?_); refine n_icmp_ne (tgt := 38) dX7_skipBlanks_22 (by decide) (by omega) (by omega) (fun h22 => ?_) (fun h22 => ?_)) | refine e_icmp_ne (tgt := 38) dX7_skipBlanks_22 (by decide) (fun h22 => ?_) (fun h22 => ?_)
            · try first | contradiction | omega
              all_goals
                refine e_ret none rfl (r_void dX7_skipBlanks_38 rfl) ?_
                exact xq rfl (by rw [hd]) rfl rfl rfl rfl
            · try first | contradiction | omega
              all_goals
                omega
  exact key _ s.1 rfl hs rfl
def dcF (tp : Nat → Nat) : Nat → Nat → Nat → Nat × Nat
  | 0, a, v => (a, v)
  | f + 1, a, v => if isD tp a then dcF tp f (a + 1) (if 100000 < v * 10 + tp a - 48 then 100000 else v * 10 + tp a - 48) else (a, v)
theorem dcF_t {tp : Nat → Nat} {t a v : Nat} (h : a < t) (hp : isD tp a = true) : dcF tp (t - a) a v = dcF tp (t - (a + 1)) (a + 1) (if 100000 < v * 10 + tp a - 48 then 100000 else v * 10 + tp a - 48) := by
  rw [show t - a = (t - (a + 1)) + 1 by omega]
  show (if isD tp a then _ else _) = _
  rw [hp]; rfl
theorem dcF_f {tp : Nat → Nat} {t a v : Nat} (h : ¬ (a < t ∧ isD tp a = true)) : dcF tp (t - a) a v = (a, v) := by
  cases hf : t - a with
  | zero => rfl
  | succ f =>
    show (if isD tp a then _ else _) = _
    rw [if_neg (fun q => h ⟨by omega, q⟩)]
def pnR (tp : Nat → Nat) (t : Nat) (s : QS) : Nat × Nat := dcF tp (t - skb tp t s.1) (skb tp t s.1) 0
def pnS (tp : Nat → Nat) (t : Nat) (s : QS) : QS := if (pnR tp t s).1 = skb tp t s.1 then ((pnR tp t s).1, s.2.1, nI 1, nI (skb tp t s.1)) else if 99999 < (pnR tp t s).2 then ((pnR tp t s).1, s.2.1, nI 2, nI (skb tp t s.1)) else ((pnR tp t s).1, s.2)
def pnA (tp : Nat → Nat) (t : Nat) (s : QS) (i : Nat) (ai : FI) : FI := if (pnR tp t s).1 = skb tp t s.1 ∨ 99999 < (pnR tp t s).2 then ai else up2 ai (rf 30 78) (s.2.1 * 3 + i) (nI (pnR tp t s).2)
theorem ct_X7_parseNumber {fi : FI} {fr : FR} {ai : FI} {ar : FR} {N : Nat} (cm : CM fr ar) {s : QS} {tp : Nat → Nat} {t : Nat} (ht : fi (32 * 7 + 3) (rf 7 76) = nI t) (ht4 : t ≤ 400) (hT : ∀ i, i < t → ai (rf 29 77) i = nI (tp i)) (hb : ∀ i, tp i < 256) (hs : s.1 ≤ t) {i : Nat} (hi : i < 3) (hc : s.2.1 < 40) : CP mX7_parseNumber 1 0 0 [.ref (rf 7 76), .int (nI i)] (qsF fi s) fr ai ar N (xQ none (qsF fi (pnS tp t s)) fr (pnA tp t s i ai) ar N) := by
  have hsk := skb_le tp hs
  have fin : ∀ a v, skb tp t s.1 ≤ a → a ≤ t → v ≤ 100000 → pnR tp t s = (a, v) → EV mX7_parseNumber 1 0 0 86 [some (.ref (rf 7 76)), some (.int (nI i)), some (.int (nI (skb tp t s.1))), some (.int (nI v))] [] (qsF fi (a, s.2)) fr ai ar N (xQ none (qsF fi (pnS tp t s)) fr (pnA tp t s i ai) ar N) := by
    intro a v ha1 ha2 hv e
    have e1 : pnS tp t s = if a = skb tp t s.1 then (a, s.2.1, nI 1, nI (skb tp t s.1)) else if 99999 < v then (a, s.2.1, nI 2, nI (skb tp t s.1)) else (a, s.2) := by unfold pnS; rw [e]
    have e2 : pnA tp t s i ai = if a = skb tp t s.1 ∨ 99999 < v then ai else up2 ai (rf 30 78) (s.2.1 * 3 + i) (nI v) := by unfold pnA; rw [e]
    rw [e1, e2]
    refine e_aload_n dX7_parseNumber_86 rfl rfl ?_
    refine e_getE dX7_parseNumber_87 fl_X7_29 rfl (qv_at (a := a)) ?_
    refine e_iload_n dX7_parseNumber_90 rfl rfl ?_
    first | ((with_reducible refine mk_mo ?_); refine p_icmp_ne (tgt := 103) dX7_parseNumber_91 (by decide) (fun h91 => ?_) (fun h91 => ?_)) | ((with_reducible refine mk_ms ?_); refine s_icmp_ne (tgt := 103) dX7_parseNumber_91 (by decide) (by omega) (fun h91 => ?_) (fun h91 => ?_)) | ((with_reducible refine mk_mn ?_); refine q_icmp_ne (tgt := 103) dX7_parseNumber_91 (by decide) (by omega) (fun h91 => ?_) (fun h91 => ?_)) | ((with_reducible refine mk_nn ?_); refine n_icmp_ne (tgt := 103) dX7_parseNumber_91 (by decide) (by omega) (by omega) (fun h91 => ?_) (fun h91 => ?_)) | refine e_icmp_ne (tgt := 103) dX7_parseNumber_91 (by decide) (fun h91 => ?_) (fun h91 => ?_)
    · try first | contradiction | omega
      all_goals
        refine e_iload_n dX7_parseNumber_103 rfl rfl ?_
        refine e_ldc dX7_parseNumber_104 co_X7_68 ?_
        first | ((with_reducible refine mk_nn ?_); refine n_icmp_le (tgt := 118) dX7_parseNumber_106 (by decide) (by omega) (by omega) (fun h106 => ?_) (fun h106 => ?_)) | refine e_icmp_le (tgt := 118) dX7_parseNumber_106 (by decide) (fun h106 => ?_) (fun h106 => ?_)
        · try first | contradiction | omega
          all_goals
            refine e_aload_n dX7_parseNumber_118 rfl rfl ?_
            refine e_getR dX7_parseNumber_119 fl_X7_15 rfl (cs_num cm) ?_
            refine e_aload_n dX7_parseNumber_122 rfl rfl ?_
            refine e_getE dX7_parseNumber_123 fl_X7_32 rfl (qv_cl (a := a)) ?_
            refine e_iconst (v := nI 3) dX7_parseNumber_126 rfl ?_
            first | ((with_reducible refine mk_nn ?_); refine n_imul dX7_parseNumber_127 ?_) | refine e_imul dX7_parseNumber_127 ?_
            refine e_iload_n dX7_parseNumber_128 rfl rfl ?_
            first | ((with_reducible refine mk_nn ?_); refine n_iadd dX7_parseNumber_129 ?_) | refine e_iadd dX7_parseNumber_129 ?_
            refine e_iload_n dX7_parseNumber_130 rfl rfl ?_
            refine e_iast _ dX7_parseNumber_131 ⟨by decide, by decide⟩ rfl rfl (by simp only [lenK]; omega) ?_
            refine e_ret none rfl (r_void dX7_parseNumber_132 rfl) ?_
            refine xq rfl ?_ rfl ?_ rfl rfl
            · first | rw [if_pos (by omega)] | rw [if_neg (by omega), if_pos (by omega)] | rw [if_neg (by omega), if_neg (by omega)]
            · first | rw [if_pos (by omega)] | rw [if_neg (by omega)]
        · try first | contradiction | omega
          all_goals
            refine e_aload_n dX7_parseNumber_109 rfl rfl ?_
            refine e_iconst (v := nI 2) dX7_parseNumber_110 rfl ?_
            refine e_iload_n dX7_parseNumber_111 rfl rfl ?_
            refine y_V2 (M' := mX7_tell) dX7_parseNumber_112 ml_X7_48 ok_X7_tell (by decide) rfl im_X7_tell se_X7_tell (ct_X7_tell) (Nat.le_of_ble_eq_true rfl) (by decide) (Nat.le_of_ble_eq_true rfl) ?_
            refine e_goto (tgt := 132) dX7_parseNumber_115 (by decide) ?_
            refine e_ret none rfl (r_void dX7_parseNumber_132 rfl) ?_
            refine xq rfl ?_ rfl ?_ rfl rfl
            · first | rw [if_pos (by omega)] | rw [if_neg (by omega), if_pos (by omega)] | rw [if_neg (by omega), if_neg (by omega)]
            · first | rw [if_pos (by omega)] | rw [if_neg (by omega)]
    · try first | contradiction | omega
      all_goals
        refine e_aload_n dX7_parseNumber_94 rfl rfl ?_
        refine e_iconst (v := nI 1) dX7_parseNumber_95 rfl ?_
        refine e_iload_n dX7_parseNumber_96 rfl rfl ?_
        refine y_V2 (M' := mX7_tell) dX7_parseNumber_97 ml_X7_48 ok_X7_tell (by decide) rfl im_X7_tell se_X7_tell (ct_X7_tell) (Nat.le_of_ble_eq_true rfl) (by decide) (Nat.le_of_ble_eq_true rfl) ?_
        refine e_goto (tgt := 132) dX7_parseNumber_100 (by decide) ?_
        refine e_ret none rfl (r_void dX7_parseNumber_132 rfl) ?_
        refine xq rfl ?_ rfl ?_ rfl rfl
        · first | rw [if_pos (by omega)] | rw [if_neg (by omega), if_pos (by omega)] | rw [if_neg (by omega), if_neg (by omega)]
        · first | rw [if_pos (by omega)] | rw [if_neg (by omega)]
  have key : ∀ (f a v : Nat), t - a = f → skb tp t s.1 ≤ a → a ≤ t → v ≤ 100000 → dcF tp (t - a) a v = pnR tp t s → EV mX7_parseNumber 1 0 0 11 [some (.ref (rf 7 76)), some (.int (nI i)), some (.int (nI (skb tp t s.1))), some (.int (nI v))] [] (qsF fi (a, s.2)) fr ai ar N (xQ none (qsF fi (pnS tp t s)) fr (pnA tp t s i ai) ar N) := by
    intro f
    induction f with
    | zero =>
      intro a v hf ha1 ha2 hv hd
      rw [dcF_f (by omega)] at hd
      refine e_aload_n dX7_parseNumber_11 rfl rfl ?_
      refine e_getE dX7_parseNumber_12 fl_X7_29 rfl (qv_at (a := a)) ?_
      refine e_aload_n dX7_parseNumber_15 rfl rfl ?_
      refine e_getE dX7_parseNumber_16 fl_X7_26 rfl (qs_ln ht) ?_
      first | ((with_reducible refine mk_nn ?_); refine n_icmp_ge (tgt := 86) dX7_parseNumber_19 (by decide) (by omega) (by omega) (fun h19 => ?_) (fun h19 => ?_)) | refine e_icmp_ge (tgt := 86) dX7_parseNumber_19 (by decide) (fun h19 => ?_) (fun h19 => ?_)
      · try first | contradiction | omega
        all_goals
          exact fin a v ha1 ha2 hv hd.symm
      · try first | contradiction | omega
        all_goals
          omega
    | succ f ih =>
      intro a v hf ha1 ha2 hv hd
      have hba := hb a
      by_cases hp : 48 ≤ tp a ∧ tp a ≤ 57
      · rw [dcF_t (by omega) (decide_eq_true hp)] at hd
        refine e_aload_n dX7_parseNumber_11 rfl rfl ?_
        refine e_getE dX7_parseNumber_12 fl_X7_29 rfl (qv_at (a := a)) ?_
        refine e_aload_n dX7_parseNumber_15 rfl rfl ?_
        refine e_getE dX7_parseNumber_16 fl_X7_26 rfl (qs_ln ht) ?_
        first | ((with_reducible refine mk_nn ?_); refine n_icmp_ge (tgt := 86) dX7_parseNumber_19 (by decide) (by omega) (by omega) (fun h19 => ?_) (fun h19 => ?_)) | refine e_icmp_ge (tgt := 86) dX7_parseNumber_19 (by decide) (fun h19 => ?_) (fun h19 => ?_)
        · try first | contradiction | omega
          all_goals
            omega
        · try first | contradiction | omega
          all_goals
            refine e_aload_n dX7_parseNumber_22 rfl rfl ?_
            refine e_getR dX7_parseNumber_23 fl_X7_9 rfl (cs_txt cm) ?_
            refine e_aload_n dX7_parseNumber_26 rfl rfl ?_
            refine e_getE dX7_parseNumber_27 fl_X7_29 rfl (qv_at (a := a)) ?_
            refine e_cadE _ dX7_parseNumber_30 ⟨by decide, by decide⟩ rfl rfl (by simp only [lenK]; omega) (hT a (by omega)) ?_
            refine e_bipush (v := nI 48) dX7_parseNumber_31 rfl ?_
            first | ((with_reducible refine mk_nn ?_); refine n_icmp_lt (tgt := 86) dX7_parseNumber_33 (by decide) (by omega) (by omega) (fun h33 => ?_) (fun h33 => ?_)) | refine e_icmp_lt (tgt := 86) dX7_parseNumber_33 (by decide) (fun h33 => ?_) (fun h33 => ?_)
            · try first | contradiction | omega
              all_goals
                omega
            · try first | contradiction | omega
              all_goals
                refine e_aload_n dX7_parseNumber_36 rfl rfl ?_
                refine e_getR dX7_parseNumber_37 fl_X7_9 rfl (cs_txt cm) ?_
                refine e_aload_n dX7_parseNumber_40 rfl rfl ?_
                refine e_getE dX7_parseNumber_41 fl_X7_29 rfl (qv_at (a := a)) ?_
                refine e_cadE _ dX7_parseNumber_44 ⟨by decide, by decide⟩ rfl rfl (by simp only [lenK]; omega) (hT a (by omega)) ?_
                refine e_bipush (v := nI 57) dX7_parseNumber_45 rfl ?_
                first | ((with_reducible refine mk_nn ?_); refine n_icmp_gt (tgt := 86) dX7_parseNumber_47 (by decide) (by omega) (by omega) (fun h47 => ?_) (fun h47 => ?_)) | refine e_icmp_gt (tgt := 86) dX7_parseNumber_47 (by decide) (fun h47 => ?_) (fun h47 => ?_)
                · try first | contradiction | omega
                  all_goals
                    omega
                · try first | contradiction | omega
                  all_goals
                    refine e_iload_n dX7_parseNumber_50 rfl rfl ?_
                    refine e_bipush (v := nI 10) dX7_parseNumber_51 rfl ?_
                    first | ((with_reducible refine mk_nn ?_); refine n_imul dX7_parseNumber_53 ?_) | refine e_imul dX7_parseNumber_53 ?_
                    refine e_aload_n dX7_parseNumber_54 rfl rfl ?_
                    refine e_getR dX7_parseNumber_55 fl_X7_9 rfl (cs_txt cm) ?_
                    refine e_aload_n dX7_parseNumber_58 rfl rfl ?_
                    refine e_getE dX7_parseNumber_59 fl_X7_29 rfl (qv_at (a := a)) ?_
                    refine e_cadE _ dX7_parseNumber_62 ⟨by decide, by decide⟩ rfl rfl (by simp only [lenK]; omega) (hT a (by omega)) ?_
                    first | ((with_reducible refine mk_nn ?_); refine n_iadd dX7_parseNumber_63 ?_) | refine e_iadd dX7_parseNumber_63 ?_
                    refine e_bipush (v := nI 48) dX7_parseNumber_64 rfl ?_
                    first | ((with_reducible refine mk_nn ?_); refine n_isub dX7_parseNumber_66 (by omega) ?_) | refine e_isub dX7_parseNumber_66 ?_
                    refine e_ldc dX7_parseNumber_67 co_X7_62 ?_
                    refine e_mmin dX7_parseNumber_69 ml_X7_63 sc_Mmin nz_M cd_Mmin (by decide) (Nat.le_of_ble_eq_true rfl) ?_
                    rw [nI_min (by omega) (by decide)]
                    refine e_istore_n dX7_parseNumber_72 rfl (Nat.le_of_ble_eq_true rfl) rfl ?_
                    refine e_aload_n dX7_parseNumber_73 rfl rfl ?_
                    refine e_dup dX7_parseNumber_74 rfl ?_
                    refine e_getE dX7_parseNumber_75 fl_X7_29 rfl (qv_at (a := a)) ?_
                    refine e_iconst (v := nI 1) dX7_parseNumber_78 rfl ?_
                    first | ((with_reducible refine mk_nn ?_); refine n_iadd dX7_parseNumber_79 ?_) | refine e_iadd dX7_parseNumber_79 ?_
                    refine e_putI dX7_parseNumber_80 fl_X7_29 rfl rfl rfl rfl ?_
                    rw [qs_at]
                    refine e_goto (tgt := 11) dX7_parseNumber_83 (by decide) ?_
                    exact ih (a + 1) _ (by omega) (by omega) (by omega) (by split <;> omega) hd
      · rw [dcF_f (fun q => hp (of_decide_eq_true q.2))] at hd
        refine e_aload_n dX7_parseNumber_11 rfl rfl ?_
        refine e_getE dX7_parseNumber_12 fl_X7_29 rfl (qv_at (a := a)) ?_
        refine e_aload_n dX7_parseNumber_15 rfl rfl ?_
        refine e_getE dX7_parseNumber_16 fl_X7_26 rfl (qs_ln ht) ?_
        first | ((with_reducible refine mk_nn ?_); refine n_icmp_ge (tgt := 86) dX7_parseNumber_19 (by decide) (by omega) (by omega) (fun h19 => ?_) (fun h19 => ?_)) | refine e_icmp_ge (tgt := 86) dX7_parseNumber_19 (by decide) (fun h19 => ?_) (fun h19 => ?_)
        · try first | contradiction | omega
          all_goals
            exact fin a v ha1 ha2 hv hd.symm
        · try first | contradiction | omega
          all_goals
            refine e_aload_n dX7_parseNumber_22 rfl rfl ?_
            refine e_getR dX7_parseNumber_23 fl_X7_9 rfl (cs_txt cm) ?_
            refine e_aload_n dX7_parseNumber_26 rfl rfl ?_
            refine e_getE dX7_parseNumber_27 fl_X7_29 rfl (qv_at (a := a)) ?_
            refine e_cadE _ dX7_parseNumber_30 ⟨by decide, by decide⟩ rfl rfl (by simp only [lenK]; omega) (hT a (by omega)) ?_
            refine e_bipush (v := nI 48) dX7_parseNumber_31 rfl ?_
            first | ((with_reducible refine mk_nn ?_); refine n_icmp_lt (tgt := 86) dX7_parseNumber_33 (by decide) (by omega) (by omega) (fun h33 => ?_) (fun h33 => ?_)) | refine e_icmp_lt (tgt := 86) dX7_parseNumber_33 (by decide) (fun h33 => ?_) (fun h33 => ?_)
            · try first | contradiction | omega
              all_goals
                exact fin a v ha1 ha2 hv hd.symm
            · try first | contradiction | omega
              all_goals
                refine e_aload_n dX7_parseNumber_36 rfl rfl ?_
                refine e_getR dX7_parseNumber_37 fl_X7_9 rfl (cs_txt cm) ?_
                refine e_aload_n dX7_parseNumber_40 rfl rfl ?_
                refine e_getE dX7_parseNumber_41 fl_X7_29 rfl (qv_at (a := a)) ?_
                refine e_cadE _ dX7_parseNumber_44 ⟨by decide, by decide⟩ rfl rfl (by simp only [lenK]; omega) (hT a (by omega)) ?_
                refine e_bipush (v := nI 57) dX7_parseNumber_45 rfl ?_
                first | ((with_reducible refine mk_nn ?_); refine n_icmp_gt (tgt := 86) dX7_parseNumber_47 (by decide) (by omega) (by omega) (fun h47 => ?_) (fun h47 => ?_)) | refine e_icmp_gt (tgt := 86) dX7_parseNumber_47 (by decide) (fun h47 => ?_) (fun h47 => ?_)
                · try first | contradiction | omega
                  all_goals
                    exact fin a v ha1 ha2 hv hd.symm
                · try first | contradiction | omega
                  all_goals
                    omega
  change EV mX7_parseNumber 1 0 0 0 [some (.ref (rf 7 76)), some (.int (nI i)), none, none] [] (qsF fi s) fr ai ar N (xQ none (qsF fi (pnS tp t s)) fr (pnA tp t s i ai) ar N)
  refine e_aload_n dX7_parseNumber_0 rfl rfl ?_
  refine y_V0 (M' := mX7_skipBlanks) dX7_parseNumber_1 ml_X7_38 ok_X7_skipBlanks (by decide) rfl im_X7_skipBlanks se_X7_skipBlanks (ct_X7_skipBlanks cm ht ht4 hT hb hs) (Nat.le_of_ble_eq_true rfl) (by decide) (Nat.le_of_ble_eq_true rfl) ?_
  refine e_aload_n dX7_parseNumber_4 rfl rfl ?_
  refine e_getE dX7_parseNumber_5 fl_X7_29 rfl (qv_at (a := skb tp t s.1)) ?_
  refine e_istore_n dX7_parseNumber_8 rfl (Nat.le_of_ble_eq_true rfl) rfl ?_
  refine e_iconst (v := nI 0) dX7_parseNumber_9 rfl ?_
  refine e_istore_n dX7_parseNumber_10 rfl (Nat.le_of_ble_eq_true rfl) rfl ?_
  exact key _ (skb tp t s.1) 0 rfl (Nat.le_refl _) hsk.2 (by omega) rfl
theorem ct_X7_parseClauseEnd {fi : FI} {fr : FR} {ai : FI} {ar : FR} {N : Nat} (cm : CM fr ar) {s : QS} {tp : Nat → Nat} {t : Nat} (ht : fi (32 * 7 + 3) (rf 7 76) = nI t) (ht4 : t ≤ 400) (hT : ∀ i, i < t → ai (rf 29 77) i = nI (tp i)) (hb : ∀ i, tp i < 256) (hs : s.1 ≤ t) {v : Nat} (hc : s.2.1 < 40) : CP mX7_parseClauseEnd 1 0 0 [.ref (rf 7 76), .int (nI v)] (qsF fi s) fr ai ar N (xQ none (qsF fi (if skb tp t s.1 < t ∧ tp (skb tp t s.1) = 59 then (skb tp t s.1 + 1, s.2.1 + 1, s.2.2) else (skb tp t s.1, s.2.1, nI 1, nI (skb tp t s.1)))) fr (if skb tp t s.1 < t ∧ tp (skb tp t s.1) = 59 then up2 ai (rf 31 79) s.2.1 (nI v) else ai) ar N) := by
  have hsk := skb_le tp hs
  change EV mX7_parseClauseEnd 1 0 0 0 [some (.ref (rf 7 76)), some (.int (nI v))] [] (qsF fi s) fr ai ar N (xQ none (qsF fi (if skb tp t s.1 < t ∧ tp (skb tp t s.1) = 59 then (skb tp t s.1 + 1, s.2.1 + 1, s.2.2) else (skb tp t s.1, s.2.1, nI 1, nI (skb tp t s.1)))) fr (if skb tp t s.1 < t ∧ tp (skb tp t s.1) = 59 then up2 ai (rf 31 79) s.2.1 (nI v) else ai) ar N)
  have hba := hb (skb tp t s.1)
  by_cases h : skb tp t s.1 < t ∧ tp (skb tp t s.1) = 59
  · rw [if_pos h, if_pos h]
    refine e_aload_n dX7_parseClauseEnd_0 rfl rfl ?_
    refine y_V0 (M' := mX7_skipBlanks) dX7_parseClauseEnd_1 ml_X7_38 ok_X7_skipBlanks (by decide) rfl im_X7_skipBlanks se_X7_skipBlanks (ct_X7_skipBlanks cm ht ht4 hT hb hs) (Nat.le_of_ble_eq_true rfl) (by decide) (Nat.le_of_ble_eq_true rfl) ?_
    refine e_aload_n dX7_parseClauseEnd_4 rfl rfl ?_
    refine e_getE dX7_parseClauseEnd_5 fl_X7_29 rfl (qv_at (a := skb tp t s.1)) ?_
    refine e_aload_n dX7_parseClauseEnd_8 rfl rfl ?_
    refine e_getE dX7_parseClauseEnd_9 fl_X7_26 rfl (qs_ln ht) ?_
    first | ((with_reducible refine mk_nn ?_); refine n_icmp_ge (tgt := 29) dX7_parseClauseEnd_12 (by decide) (by omega) (by omega) (fun h12 => ?_) (fun h12 => ?_)) | refine e_icmp_ge (tgt := 29) dX7_parseClauseEnd_12 (by decide) (fun h12 => ?_) (fun h12 => ?_)
    · try first | contradiction | omega
      all_goals
        omega
    · try first | contradiction | omega
      all_goals
        refine e_aload_n dX7_parseClauseEnd_15 rfl rfl ?_
        refine e_getR dX7_parseClauseEnd_16 fl_X7_9 rfl (cs_txt cm) ?_
        refine e_aload_n dX7_parseClauseEnd_19 rfl rfl ?_
        refine e_getE dX7_parseClauseEnd_20 fl_X7_29 rfl (qv_at (a := skb tp t s.1)) ?_
        refine e_cadE _ dX7_parseClauseEnd_23 ⟨by decide, by decide⟩ rfl rfl (by simp only [lenK]; omega) (hT (skb tp t s.1) (by omega)) ?_
        refine e_bipush (v := nI 59) dX7_parseClauseEnd_24 rfl ?_
        first | ((with_reducible refine mk_mo ?_); refine p_icmp_eq (tgt := 39) dX7_parseClauseEnd_26 (by decide) (fun h26 => ?_) (fun h26 => ?_)) | ((with_reducible refine mk_ms ?_); refine s_icmp_eq (tgt := 39) dX7_parseClauseEnd_26 (by decide) (by omega) (fun h26 => ?_) (fun h26 => ?_)) | ((with_reducible refine mk_mn ?_); refine q_icmp_eq (tgt := 39) dX7_parseClauseEnd_26 (by decide) (by omega) (fun h26 => ?_) (fun h26 => ?_)) | ((with_reducible refine mk_nn ?_); refine n_icmp_eq (tgt := 39) dX7_parseClauseEnd_26 (by decide) (by omega) (by omega) (fun h26 => ?_) (fun h26 => ?_)) | refine e_icmp_eq (tgt := 39) dX7_parseClauseEnd_26 (by decide) (fun h26 => ?_) (fun h26 => ?_)
        · try first | contradiction | omega
          all_goals
            refine e_aload_n dX7_parseClauseEnd_39 rfl rfl ?_
            refine e_dup dX7_parseClauseEnd_40 rfl ?_
            refine e_getE dX7_parseClauseEnd_41 fl_X7_29 rfl (qv_at (a := skb tp t s.1)) ?_
            refine e_iconst (v := nI 1) dX7_parseClauseEnd_44 rfl ?_
            first | ((with_reducible refine mk_nn ?_); refine n_iadd dX7_parseClauseEnd_45 ?_) | refine e_iadd dX7_parseClauseEnd_45 ?_
            refine e_putI dX7_parseClauseEnd_46 fl_X7_29 rfl rfl rfl rfl ?_
            rw [qs_at]
            refine e_aload_n dX7_parseClauseEnd_49 rfl rfl ?_
            refine e_getR dX7_parseClauseEnd_50 fl_X7_19 rfl (cs_vrb cm) ?_
            refine e_aload_n dX7_parseClauseEnd_53 rfl rfl ?_
            refine e_getE dX7_parseClauseEnd_54 fl_X7_32 rfl (qv_cl (a := skb tp t s.1 + 1)) ?_
            refine e_iload_n dX7_parseClauseEnd_57 rfl rfl ?_
            refine e_iast _ dX7_parseClauseEnd_58 ⟨by decide, by decide⟩ rfl rfl (by simp only [lenK]; omega) ?_
            refine e_aload_n dX7_parseClauseEnd_59 rfl rfl ?_
            refine e_dup dX7_parseClauseEnd_60 rfl ?_
            refine e_getE dX7_parseClauseEnd_61 fl_X7_32 rfl (qv_cl (a := skb tp t s.1 + 1)) ?_
            refine e_iconst (v := nI 1) dX7_parseClauseEnd_64 rfl ?_
            first | ((with_reducible refine mk_nn ?_); refine n_iadd dX7_parseClauseEnd_65 ?_) | refine e_iadd dX7_parseClauseEnd_65 ?_
            refine e_putI dX7_parseClauseEnd_66 fl_X7_32 rfl rfl rfl rfl ?_
            rw [qs_cl]
            refine e_ret none rfl (r_void dX7_parseClauseEnd_69 rfl) ?_
            exact xq rfl rfl rfl rfl rfl rfl
        · try first | contradiction | omega
          all_goals
            omega
  · rw [if_neg h, if_neg h]
    refine e_aload_n dX7_parseClauseEnd_0 rfl rfl ?_
    refine y_V0 (M' := mX7_skipBlanks) dX7_parseClauseEnd_1 ml_X7_38 ok_X7_skipBlanks (by decide) rfl im_X7_skipBlanks se_X7_skipBlanks (ct_X7_skipBlanks cm ht ht4 hT hb hs) (Nat.le_of_ble_eq_true rfl) (by decide) (Nat.le_of_ble_eq_true rfl) ?_
    refine e_aload_n dX7_parseClauseEnd_4 rfl rfl ?_
    refine e_getE dX7_parseClauseEnd_5 fl_X7_29 rfl (qv_at (a := skb tp t s.1)) ?_
    refine e_aload_n dX7_parseClauseEnd_8 rfl rfl ?_
    refine e_getE dX7_parseClauseEnd_9 fl_X7_26 rfl (qs_ln ht) ?_
    first | ((with_reducible refine mk_nn ?_); refine n_icmp_ge (tgt := 29) dX7_parseClauseEnd_12 (by decide) (by omega) (by omega) (fun h12 => ?_) (fun h12 => ?_)) | refine e_icmp_ge (tgt := 29) dX7_parseClauseEnd_12 (by decide) (fun h12 => ?_) (fun h12 => ?_)
    · try first | contradiction | omega
      all_goals
        refine e_aload_n dX7_parseClauseEnd_29 rfl rfl ?_
        refine e_iconst (v := nI 1) dX7_parseClauseEnd_30 rfl ?_
        refine e_aload_n dX7_parseClauseEnd_31 rfl rfl ?_
        refine e_getE dX7_parseClauseEnd_32 fl_X7_29 rfl (qv_at (a := skb tp t s.1)) ?_
        refine y_V2 (M' := mX7_tell) dX7_parseClauseEnd_35 ml_X7_48 ok_X7_tell (by decide) rfl im_X7_tell se_X7_tell (ct_X7_tell) (Nat.le_of_ble_eq_true rfl) (by decide) (Nat.le_of_ble_eq_true rfl) ?_
        refine e_ret none rfl (r_void dX7_parseClauseEnd_38 rfl) ?_
        exact xq rfl rfl rfl rfl rfl rfl
    · try first | contradiction | omega
      all_goals
        refine e_aload_n dX7_parseClauseEnd_15 rfl rfl ?_
        refine e_getR dX7_parseClauseEnd_16 fl_X7_9 rfl (cs_txt cm) ?_
        refine e_aload_n dX7_parseClauseEnd_19 rfl rfl ?_
        refine e_getE dX7_parseClauseEnd_20 fl_X7_29 rfl (qv_at (a := skb tp t s.1)) ?_
        refine e_cadE _ dX7_parseClauseEnd_23 ⟨by decide, by decide⟩ rfl rfl (by simp only [lenK]; omega) (hT (skb tp t s.1) (by omega)) ?_
        refine e_bipush (v := nI 59) dX7_parseClauseEnd_24 rfl ?_
        first | ((with_reducible refine mk_mo ?_); refine p_icmp_eq (tgt := 39) dX7_parseClauseEnd_26 (by decide) (fun h26 => ?_) (fun h26 => ?_)) | ((with_reducible refine mk_ms ?_); refine s_icmp_eq (tgt := 39) dX7_parseClauseEnd_26 (by decide) (by omega) (fun h26 => ?_) (fun h26 => ?_)) | ((with_reducible refine mk_mn ?_); refine q_icmp_eq (tgt := 39) dX7_parseClauseEnd_26 (by decide) (by omega) (fun h26 => ?_) (fun h26 => ?_)) | ((with_reducible refine mk_nn ?_); refine n_icmp_eq (tgt := 39) dX7_parseClauseEnd_26 (by decide) (by omega) (by omega) (fun h26 => ?_) (fun h26 => ?_)) | refine e_icmp_eq (tgt := 39) dX7_parseClauseEnd_26 (by decide) (fun h26 => ?_) (fun h26 => ?_)
        · try first | contradiction | omega
          all_goals
            omega
        · try first | contradiction | omega
          all_goals
            refine e_aload_n dX7_parseClauseEnd_29 rfl rfl ?_
            refine e_iconst (v := nI 1) dX7_parseClauseEnd_30 rfl ?_
            refine e_aload_n dX7_parseClauseEnd_31 rfl rfl ?_
            refine e_getE dX7_parseClauseEnd_32 fl_X7_29 rfl (qv_at (a := skb tp t s.1)) ?_
            refine y_V2 (M' := mX7_tell) dX7_parseClauseEnd_35 ml_X7_48 ok_X7_tell (by decide) rfl im_X7_tell se_X7_tell (ct_X7_tell) (Nat.le_of_ble_eq_true rfl) (by decide) (Nat.le_of_ble_eq_true rfl) ?_
            refine e_ret none rfl (r_void dX7_parseClauseEnd_38 rfl) ?_
            exact xq rfl rfl rfl rfl rfl rfl
