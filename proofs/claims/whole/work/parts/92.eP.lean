theorem qv_fa {fi : FI} {s : QS} : qsF fi s (32 * 7 + 5) (rf 7 76) = s.2.2.1 := rfl
theorem qv_a0 {fi : FI} {s : QS} : qsF fi s (32 * 7 + 7) (rf 7 76) = nI s.1 := rfl
theorem qv_c0 {fi : FI} {s : QS} : qsF fi s (32 * 7 + 4) (rf 7 76) = nI s.2.1 := rfl
theorem dcF_le (tp : Nat → Nat) : ∀ f a v, v ≤ 100000 → a ≤ (dcF tp f a v).1 ∧ (dcF tp f a v).1 ≤ a + f ∧ (dcF tp f a v).2 ≤ 100000
  | 0, a, v, h => ⟨Nat.le_refl a, Nat.le_refl a, h⟩
  | f + 1, a, v, h => by
    unfold dcF
    split
    · have := dcF_le tp f (a + 1) (if 100000 < v * 10 + tp a - 48 then 100000 else v * 10 + tp a - 48) (by split <;> omega)
      omega
    · exact ⟨Nat.le_refl a, Nat.le_add_right a _, h⟩
theorem pnR_le {tp : Nat → Nat} {t : Nat} {s : QS} (h : s.1 ≤ t) : s.1 ≤ skb tp t s.1 ∧ skb tp t s.1 ≤ (pnR tp t s).1 ∧ (pnR tp t s).1 ≤ t := by
  have h1 := skb_le tp h
  have h2 := dcF_le tp (t - skb tp t s.1) (skb tp t s.1) 0 (by omega)
  unfold pnR
  omega
theorem pnS_le {tp : Nat → Nat} {t : Nat} {s : QS} (h : s.1 ≤ t) : s.1 ≤ (pnS tp t s).1 ∧ (pnS tp t s).1 ≤ t ∧ (pnS tp t s).2.1 = s.2.1 := by
  have h1 := pnR_le (tp := tp) h
  unfold pnS
  repeat' split
  all_goals exact ⟨by show s.1 ≤ (pnR tp t s).1; omega, h1.2.2, rfl⟩
theorem pnA_tx {tp : Nat → Nat} {t : Nat} {s : QS} {i a : Nat} {ai : FI} (h : a ≠ rf 30 78) : pnA tp t s i ai a = ai a := by
  unfold pnA
  split
  · rfl
  · funext j
    unfold up2
    rw [if_neg (fun q => h q.1)]
def nrS (tp : Nat → Nat) (t : Nat) : Nat → QS → QS
  | 0, s => s
  | k + 1, s => if (nrS tp t k s).2.2.1 = nI 0 then pnS tp t (nrS tp t k s) else nrS tp t k s
def nrA (tp : Nat → Nat) (t : Nat) : Nat → QS → FI → FI
  | 0, _, ai => ai
  | k + 1, s, ai => if (nrS tp t k s).2.2.1 = nI 0 then pnA tp t (nrS tp t k s) k (nrA tp t k s ai) else nrA tp t k s ai
theorem nrS_le {tp : Nat → Nat} {t : Nat} {s : QS} (h : s.1 ≤ t) : ∀ k, s.1 ≤ (nrS tp t k s).1 ∧ (nrS tp t k s).1 ≤ t ∧ (nrS tp t k s).2.1 = s.2.1
  | 0 => ⟨Nat.le_refl _, h, rfl⟩
  | k + 1 => by
    have h1 := nrS_le (tp := tp) h k
    unfold nrS
    split
    · have h2 := pnS_le (tp := tp) h1.2.1
      exact ⟨by omega, h2.2.1, h2.2.2.trans h1.2.2⟩
    · exact h1
theorem nrA_tx {tp : Nat → Nat} {t : Nat} {s : QS} {a : Nat} {ai : FI} (h : a ≠ rf 30 78) : ∀ k, nrA tp t k s ai a = ai a
  | 0 => rfl
  | k + 1 => by
    unfold nrA
    split
    · rw [pnA_tx h, nrA_tx h k]
    · exact nrA_tx h k
theorem nr_st {tp : Nat → Nat} {t i : Nat} {s : QS} {ai : FI} (h : ¬ (nrS tp t i s).2.2.1 = nI 0) : ∀ k, nrS tp t (i + k) s = nrS tp t i s ∧ nrA tp t (i + k) s ai = nrA tp t i s ai
  | 0 => ⟨rfl, rfl⟩
  | k + 1 => by
    obtain ⟨h1, h2⟩ := nr_st (ai := ai) h k
    have e1 : nrS tp t (i + (k + 1)) s = if (nrS tp t (i + k) s).2.2.1 = nI 0 then pnS tp t (nrS tp t (i + k) s) else nrS tp t (i + k) s := rfl
    have e2 : nrA tp t (i + (k + 1)) s ai = if (nrS tp t (i + k) s).2.2.1 = nI 0 then pnA tp t (nrS tp t (i + k) s) (i + k) (nrA tp t (i + k) s ai) else nrA tp t (i + k) s ai := rfl
    refine ⟨?_, ?_⟩
    · rw [e1, h1, if_neg h]
    · rw [e2, h1, if_neg h, h2]
theorem nr_le {tp : Nat → Nat} {t i k : Nat} {s : QS} {ai : FI} (h : ¬ (nrS tp t i s).2.2.1 = nI 0) (hk : i ≤ k) : nrS tp t k s = nrS tp t i s ∧ nrA tp t k s ai = nrA tp t i s ai := by
  have := nr_st (ai := ai) h (k - i)
  rw [show i + (k - i) = k by omega] at this
  exact this
def ceS (tp : Nat → Nat) (t : Nat) (s : QS) : QS := if skb tp t s.1 < t ∧ tp (skb tp t s.1) = 59 then (skb tp t s.1 + 1, s.2.1 + 1, s.2.2) else (skb tp t s.1, s.2.1, nI 1, nI (skb tp t s.1))
def ceA (tp : Nat → Nat) (t : Nat) (s : QS) (v : Nat) (ai : FI) : FI := if skb tp t s.1 < t ∧ tp (skb tp t s.1) = 59 then up2 ai (rf 31 79) s.2.1 (nI v) else ai
def pcE (tp : Nat → Nat) (t : Nat) (s : QS) : QS := if s.2.2.1 = nI 0 then ceS tp t s else s
def pcF (tp : Nat → Nat) (t : Nat) (s : QS) (v : Nat) (ai : FI) : FI := if s.2.2.1 = nI 0 then ceA tp t s v ai else ai
def pcS (tp : Nat → Nat) (t : Nat) (s : QS) : QS := match vbO tp (wnd tp t s.1) s.1 with
  | none => (wnd tp t s.1, s.2.1, nI 1, nI s.1)
  | some v => if 40 ≤ s.2.1 then (wnd tp t s.1, s.2.1, nI 3, nI s.1) else pcE tp t (nrS tp t (nuN v) (wnd tp t s.1, s.2))
def pcA (tp : Nat → Nat) (t : Nat) (s : QS) (ai : FI) : FI := match vbO tp (wnd tp t s.1) s.1 with
  | none => ai
  | some v => if 40 ≤ s.2.1 then ai else pcF tp t (nrS tp t (nuN v) (wnd tp t s.1, s.2)) v (nrA tp t (nuN v) (wnd tp t s.1, s.2) ai)
theorem vn_nu : ∀ v, v < 15 → vnM.getD v 0 = nuN v := by decide +kernel
theorem ceS_le {tp : Nat → Nat} {t : Nat} {s : QS} (h : s.1 ≤ t) : s.1 ≤ (ceS tp t s).1 ∧ (ceS tp t s).1 ≤ t ∧ (ceS tp t s).2.1 ≤ s.2.1 + 1 := by
  have h1 := skb_le tp h
  unfold ceS
  split
  · exact ⟨by show s.1 ≤ skb tp t s.1 + 1; omega, by show skb tp t s.1 + 1 ≤ t; omega, Nat.le_refl _⟩
  · exact ⟨h1.1, h1.2, Nat.le_succ _⟩
theorem pcS_le {tp : Nat → Nat} {t : Nat} {s : QS} (h : s.1 ≤ t) (hc : s.2.1 ≤ 40) : (pcS tp t s).1 ≤ t ∧ (pcS tp t s).2.1 ≤ 40 := by
  have hw := wnd_le tp h
  unfold pcS
  split
  · exact ⟨hw.2, hc⟩
  · rename_i v hv
    split
    · exact ⟨hw.2, hc⟩
    · have h1 := nrS_le (tp := tp) (t := t) (s := (wnd tp t s.1, s.2)) hw.2 (nuN v)
      have h2 := ceS_le (tp := tp) h1.2.1
      have h3 : (nrS tp t (nuN v) (wnd tp t s.1, s.2)).2.1 = s.2.1 := h1.2.2
      unfold pcE
      split
      · exact ⟨h2.2.1, by omega⟩
      · exact ⟨h1.2.1, by omega⟩
theorem ceA_tx {tp : Nat → Nat} {t : Nat} {s : QS} {v a : Nat} {ai : FI} (h : a ≠ rf 31 79) : ceA tp t s v ai a = ai a := by
  unfold ceA
  split
  · funext j
    unfold up2
    rw [if_neg (fun q => h q.1)]
  · rfl
theorem pcA_tx {tp : Nat → Nat} {t : Nat} {s : QS} {a : Nat} {ai : FI} (h : a ≠ rf 30 78) (h2 : a ≠ rf 31 79) : pcA tp t s ai a = ai a := by
  unfold pcA
  cases hv : vbO tp (wnd tp t s.1) s.1 with
  | none => rfl
  | some v =>
    show (if 40 ≤ s.2.1 then ai else pcF tp t (nrS tp t (nuN v) (wnd tp t s.1, s.2)) v (nrA tp t (nuN v) (wnd tp t s.1, s.2) ai)) a = ai a
    split
    · rfl
    · unfold pcF
      split
      · rw [ceA_tx h2, nrA_tx h]
      · rw [nrA_tx h]
theorem ct_X7_parseClause {fi : FI} {fr : FR} {ai : FI} {ar : FR} {N : Nat} (cm : CM fr ar) {s : QS} {tp : Nat → Nat} {t : Nat} (ht : fi (32 * 7 + 3) (rf 7 76) = nI t) (ht4 : t ≤ 400) (hT : ∀ i, i < t → ai (rf 29 77) i = nI (tp i)) (hb : ∀ i, tp i < 256) (hs : s.1 ≤ t) (hc : s.2.1 ≤ 40) (hf0 : s.2.2.1 = nI 0) : CP mX7_parseClause 5 0 0 [.ref (rf 7 76)] (qsF fi s) fr ai ar N (xQ none (qsF fi (pcS tp t s)) fr (pcA tp t s ai) ar N) := by
  have hw := wnd_le tp hs
  have fin : ∀ v, vbO tp (wnd tp t s.1) s.1 = some v → s.2.1 < 40 → EV mX7_parseClause 5 0 0 95 [some (.ref (rf 7 76)), some (.int (nI s.1)), some (.int (nI v)), none] [] (qsF fi (wnd tp t s.1, s.2)) fr ai ar N (xQ none (qsF fi (pcS tp t s)) fr (pcA tp t s ai) ar N) := by
    intro v hv hc4
    have hv15 := (vbO_lt hv).1
    have e1 : pcS tp t s = pcE tp t (nrS tp t (nuN v) (wnd tp t s.1, s.2)) := by unfold pcS; rw [hv]; exact if_neg (by omega)
    have e2 : pcA tp t s ai = pcF tp t (nrS tp t (nuN v) (wnd tp t s.1, s.2)) v (nrA tp t (nuN v) (wnd tp t s.1, s.2) ai) := by unfold pcA; rw [hv]; exact if_neg (by omega)
    rw [e1, e2]
    have hnu := nuN_le v
    have hvn := vn_nu v hv15
    have last : ∀ x, EV mX7_parseClause 5 0 0 124 [some (.ref (rf 7 76)), some (.int (nI s.1)), some (.int (nI v)), x] [] (qsF fi (nrS tp t (nuN v) (wnd tp t s.1, s.2))) fr (nrA tp t (nuN v) (wnd tp t s.1, s.2) ai) ar N (xQ none (qsF fi (pcE tp t (nrS tp t (nuN v) (wnd tp t s.1, s.2)))) fr (pcF tp t (nrS tp t (nuN v) (wnd tp t s.1, s.2)) v (nrA tp t (nuN v) (wnd tp t s.1, s.2) ai)) ar N) := by
      intro x
      have hle := nrS_le (tp := tp) (t := t) (s := (wnd tp t s.1, s.2)) hw.2 (nuN v)
      have hT1 : ∀ i, i < t → nrA tp t (nuN v) (wnd tp t s.1, s.2) ai (rf 29 77) i = nI (tp i) := (fun i hi => by rw [nrA_tx (by decide)]; exact hT i hi)
      have hcl : (nrS tp t (nuN v) (wnd tp t s.1, s.2)).2.1 < 40 := by rw [hle.2.2]; exact hc4
      generalize nrA tp t (nuN v) (wnd tp t s.1, s.2) ai = ai1 at hT1 ⊢
      generalize nrS tp t (nuN v) (wnd tp t s.1, s.2) = s1 at hle hcl ⊢
      by_cases hz : s1.2.2.1 = nI 0
      · unfold pcE pcF
        rw [if_pos hz, if_pos hz]
        have lastA : s1.2.2.1 = nI 0 → EV mX7_parseClause 5 0 0 131 [some (.ref (rf 7 76)), some (.int (nI s.1)), some (.int (nI v)), x] [] (qsF fi s1) fr ai1 ar N (xQ none (qsF fi (ceS tp t s1)) fr (ceA tp t s1 v ai1) ar N) := by
          intro _
          refine e_aload_n dX7_parseClause_131 rfl rfl ?_
          refine e_iload_n dX7_parseClause_132 rfl rfl ?_
          refine y_V1 (M' := mX7_parseClauseEnd) dX7_parseClause_133 ml_X7_59 ok_X7_parseClauseEnd (by decide) rfl im_X7_parseClauseEnd se_X7_parseClauseEnd (ct_X7_parseClauseEnd cm ht ht4 hT1 hb hle.2.1 hcl) (Nat.le_of_ble_eq_true rfl) (by decide) (Nat.le_of_ble_eq_true rfl) ?_
          refine e_ret none rfl (r_void dX7_parseClause_136 rfl) ?_
          exact xq rfl rfl rfl rfl rfl rfl
        refine e_aload_n dX7_parseClause_124 rfl rfl ?_
        refine e_getE dX7_parseClause_125 fl_X7_35 rfl qv_fa ?_
        first | ((with_reducible refine mk_b ?_); refine b_if_ne (tgt := 136) dX7_parseClause_128 (by decide) (fun h128 => ?_) (fun h128 => ?_)) | ((with_reducible refine mk_ll ?_); refine m_if_ne (tgt := 136) dX7_parseClause_128 (by decide) (by omega) (by omega) (fun h128 => ?_) (fun h128 => ?_)) | ((with_reducible refine mk_lc ?_); refine l_if_ne (tgt := 136) dX7_parseClause_128 (by decide) (fun h128 => ?_) (fun h128 => ?_)) | ((with_reducible refine mk_n ?_); refine n_if_ne (tgt := 136) dX7_parseClause_128 (by decide) (by omega) (fun h128 => ?_) (fun h128 => ?_)) | refine e_if_ne (tgt := 136) dX7_parseClause_128 (by decide) (fun h128 => ?_) (fun h128 => ?_)
        · try first | contradiction | omega | (simp only [decide_eq_true_eq, decide_eq_false_iff_not] at h128; omega)
          all_goals
            exact absurd hz (by assumption)
        · try first | contradiction | omega | (simp only [decide_eq_true_eq, decide_eq_false_iff_not] at h128; omega)
          all_goals
            exact lastA hz
      · unfold pcE pcF
        rw [if_neg hz, if_neg hz]
        refine e_aload_n dX7_parseClause_124 rfl rfl ?_
        refine e_getE dX7_parseClause_125 fl_X7_35 rfl qv_fa ?_
        first | ((with_reducible refine mk_b ?_); refine b_if_ne (tgt := 136) dX7_parseClause_128 (by decide) (fun h128 => ?_) (fun h128 => ?_)) | ((with_reducible refine mk_ll ?_); refine m_if_ne (tgt := 136) dX7_parseClause_128 (by decide) (by omega) (by omega) (fun h128 => ?_) (fun h128 => ?_)) | ((with_reducible refine mk_lc ?_); refine l_if_ne (tgt := 136) dX7_parseClause_128 (by decide) (fun h128 => ?_) (fun h128 => ?_)) | ((with_reducible refine mk_n ?_); refine n_if_ne (tgt := 136) dX7_parseClause_128 (by decide) (by omega) (fun h128 => ?_) (fun h128 => ?_)) | refine e_if_ne (tgt := 136) dX7_parseClause_128 (by decide) (fun h128 => ?_) (fun h128 => ?_)
        · try first | contradiction | omega | (simp only [decide_eq_true_eq, decide_eq_false_iff_not] at h128; omega)
          all_goals
            refine e_ret none rfl (r_void dX7_parseClause_136 rfl) ?_
            exact xq rfl rfl rfl rfl rfl rfl
        · try first | contradiction | omega | (simp only [decide_eq_true_eq, decide_eq_false_iff_not] at h128; omega)
          all_goals
            exact absurd (by assumption) hz
    have loop := ev_up (P := fun i => EV mX7_parseClause 5 0 0 97 [some (.ref (rf 7 76)), some (.int (nI s.1)), some (.int (nI v)), some (.int (nI i))] [] (qsF fi (nrS tp t i (wnd tp t s.1, s.2))) fr (nrA tp t i (wnd tp t s.1, s.2) ai) ar N (xQ none (qsF fi (pcE tp t (nrS tp t (nuN v) (wnd tp t s.1, s.2)))) fr (pcF tp t (nrS tp t (nuN v) (wnd tp t s.1, s.2)) v (nrA tp t (nuN v) (wnd tp t s.1, s.2) ai)) ar N)) (nuN v) (fun i hi ih => by
      have hle := nrS_le (tp := tp) (t := t) (s := (wnd tp t s.1, s.2)) hw.2 i
      have hT1 : ∀ j, j < t → nrA tp t i (wnd tp t s.1, s.2) ai (rf 29 77) j = nI (tp j) := (fun i hi => by rw [nrA_tx (by decide)]; exact hT i hi)
      have hcl : (nrS tp t i (wnd tp t s.1, s.2)).2.1 < 40 := by rw [hle.2.2]; exact hc4
      by_cases hz : (nrS tp t i (wnd tp t s.1, s.2)).2.2.1 = nI 0
      · have eS : nrS tp t (i + 1) (wnd tp t s.1, s.2) = pnS tp t (nrS tp t i (wnd tp t s.1, s.2)) := if_pos hz
        have eA : nrA tp t (i + 1) (wnd tp t s.1, s.2) ai = pnA tp t (nrS tp t i (wnd tp t s.1, s.2)) i (nrA tp t i (wnd tp t s.1, s.2) ai) := if_pos hz
        rw [eS, eA] at ih
        have nxt : (nrS tp t i (wnd tp t s.1, s.2)).2.2.1 = nI 0 → EV mX7_parseClause 5 0 0 113 [some (.ref (rf 7 76)), some (.int (nI s.1)), some (.int (nI v)), some (.int (nI i))] [] (qsF fi (nrS tp t i (wnd tp t s.1, s.2))) fr (nrA tp t i (wnd tp t s.1, s.2) ai) ar N (xQ none (qsF fi (pcE tp t (nrS tp t (nuN v) (wnd tp t s.1, s.2)))) fr (pcF tp t (nrS tp t (nuN v) (wnd tp t s.1, s.2)) v (nrA tp t (nuN v) (wnd tp t s.1, s.2) ai)) ar N) := by
          intro _
          refine e_aload_n dX7_parseClause_113 rfl rfl ?_
          refine e_iload_n dX7_parseClause_114 rfl rfl ?_
          refine y_V1 (M' := mX7_parseNumber) dX7_parseClause_115 ml_X7_55 ok_X7_parseNumber (by decide) rfl im_X7_parseNumber se_X7_parseNumber (ct_X7_parseNumber cm ht ht4 hT1 hb hle.2.1 (by omega) hcl) (Nat.le_of_ble_eq_true rfl) (by decide) (Nat.le_of_ble_eq_true rfl) ?_
          first | refine n_inc dX7_parseClause_118 rfl (Nat.le_of_ble_eq_true rfl) rfl ?_ | refine e_iinc dX7_parseClause_118 rfl rfl (Nat.le_of_ble_eq_true rfl) rfl ?_
          refine e_goto (tgt := 97) dX7_parseClause_121 (by decide) ?_
          exact ih
        refine e_iload_n dX7_parseClause_97 rfl rfl ?_
        refine e_getsV dX7_parseClause_98 rfl ?_
        refine e_iload_n dX7_parseClause_101 rfl rfl ?_
        refine e_nald dX7_parseClause_102 (by omega) ?_
        first | ((with_reducible refine mk_nn ?_); refine n_icmp_ge (tgt := 124) dX7_parseClause_103 (by decide) (by omega) (by omega) (fun h103 => ?_) (fun h103 => ?_)) | refine e_icmp_ge (tgt := 124) dX7_parseClause_103 (by decide) (fun h103 => ?_) (fun h103 => ?_)
        · try first | contradiction | omega
          all_goals
            first | omega | exact absurd hz (by assumption)
        · try first | contradiction | omega
          all_goals
            refine e_aload_n dX7_parseClause_106 rfl rfl ?_
            refine e_getE dX7_parseClause_107 fl_X7_35 rfl qv_fa ?_
            first | ((with_reducible refine mk_b ?_); refine b_if_ne (tgt := 124) dX7_parseClause_110 (by decide) (fun h110 => ?_) (fun h110 => ?_)) | ((with_reducible refine mk_ll ?_); refine m_if_ne (tgt := 124) dX7_parseClause_110 (by decide) (by omega) (by omega) (fun h110 => ?_) (fun h110 => ?_)) | ((with_reducible refine mk_lc ?_); refine l_if_ne (tgt := 124) dX7_parseClause_110 (by decide) (fun h110 => ?_) (fun h110 => ?_)) | ((with_reducible refine mk_n ?_); refine n_if_ne (tgt := 124) dX7_parseClause_110 (by decide) (by omega) (fun h110 => ?_) (fun h110 => ?_)) | refine e_if_ne (tgt := 124) dX7_parseClause_110 (by decide) (fun h110 => ?_) (fun h110 => ?_)
            · try first | contradiction | omega | (simp only [decide_eq_true_eq, decide_eq_false_iff_not] at h110; omega)
              all_goals
                first | omega | exact absurd hz (by assumption)
            · try first | contradiction | omega | (simp only [decide_eq_true_eq, decide_eq_false_iff_not] at h110; omega)
              all_goals
                exact nxt hz
      · obtain ⟨eS, eA⟩ := nr_le (ai := ai) hz (Nat.le_of_lt hi)
        refine e_iload_n dX7_parseClause_97 rfl rfl ?_
        refine e_getsV dX7_parseClause_98 rfl ?_
        refine e_iload_n dX7_parseClause_101 rfl rfl ?_
        refine e_nald dX7_parseClause_102 (by omega) ?_
        first | ((with_reducible refine mk_nn ?_); refine n_icmp_ge (tgt := 124) dX7_parseClause_103 (by decide) (by omega) (by omega) (fun h103 => ?_) (fun h103 => ?_)) | refine e_icmp_ge (tgt := 124) dX7_parseClause_103 (by decide) (fun h103 => ?_) (fun h103 => ?_)
        · try first | contradiction | omega
          all_goals
            first | omega | (have hl := last (some (.int (nI i))); rw [eS, eA] at hl ⊢; exact hl)
        · try first | contradiction | omega
          all_goals
            refine e_aload_n dX7_parseClause_106 rfl rfl ?_
            refine e_getE dX7_parseClause_107 fl_X7_35 rfl qv_fa ?_
            first | ((with_reducible refine mk_b ?_); refine b_if_ne (tgt := 124) dX7_parseClause_110 (by decide) (fun h110 => ?_) (fun h110 => ?_)) | ((with_reducible refine mk_ll ?_); refine m_if_ne (tgt := 124) dX7_parseClause_110 (by decide) (by omega) (by omega) (fun h110 => ?_) (fun h110 => ?_)) | ((with_reducible refine mk_lc ?_); refine l_if_ne (tgt := 124) dX7_parseClause_110 (by decide) (fun h110 => ?_) (fun h110 => ?_)) | ((with_reducible refine mk_n ?_); refine n_if_ne (tgt := 124) dX7_parseClause_110 (by decide) (by omega) (fun h110 => ?_) (fun h110 => ?_)) | refine e_if_ne (tgt := 124) dX7_parseClause_110 (by decide) (fun h110 => ?_) (fun h110 => ?_)
            · try first | contradiction | omega | (simp only [decide_eq_true_eq, decide_eq_false_iff_not] at h110; omega)
              all_goals
                first | omega | (have hl := last (some (.int (nI i))); rw [eS, eA] at hl ⊢; exact hl)
            · try first | contradiction | omega | (simp only [decide_eq_true_eq, decide_eq_false_iff_not] at h110; omega)
              all_goals
                exact absurd (by assumption) hz
      ) (by
      refine e_iload_n dX7_parseClause_97 rfl rfl ?_
      refine e_getsV dX7_parseClause_98 rfl ?_
      refine e_iload_n dX7_parseClause_101 rfl rfl ?_
      refine e_nald dX7_parseClause_102 (by omega) ?_
      first | ((with_reducible refine mk_nn ?_); refine n_icmp_ge (tgt := 124) dX7_parseClause_103 (by decide) (by omega) (by omega) (fun h103 => ?_) (fun h103 => ?_)) | refine e_icmp_ge (tgt := 124) dX7_parseClause_103 (by decide) (fun h103 => ?_) (fun h103 => ?_)
      · try first | contradiction | omega
        all_goals
          exact last _
      · try first | contradiction | omega
        all_goals
          omega
      )
    refine e_iconst (v := nI 0) dX7_parseClause_95 rfl ?_
    refine e_istore_n dX7_parseClause_96 rfl (Nat.le_of_ble_eq_true rfl) rfl ?_
    exact loop 0 (Nat.zero_le _)
  have mid : EV mX7_parseClause 5 0 0 57 [some (.ref (rf 7 76)), some (.int (nI s.1)), none, none] [] (qsF fi (wnd tp t s.1, s.2)) fr ai ar N (xQ none (qsF fi (pcS tp t s)) fr (pcA tp t s ai) ar N) := by
    cases hv : vbO tp (wnd tp t s.1) s.1 with
    | none =>
      have e1 : pcS tp t s = (wnd tp t s.1, s.2.1, nI 1, nI s.1) := by unfold pcS; rw [hv]
      have e2 : pcA tp t s ai = ai := by unfold pcA; rw [hv]
      rw [e1, e2]
      refine e_aload_n dX7_parseClause_57 rfl rfl ?_
      refine e_iload_n dX7_parseClause_58 rfl rfl ?_
      refine e_aload_n dX7_parseClause_59 rfl rfl ?_
      refine e_getE dX7_parseClause_60 fl_X7_29 rfl (qv_at (a := wnd tp t s.1)) ?_
      refine x_V2 (M' := mX7_verbOf) dX7_parseClause_63 ml_X7_44 ok_X7_verbOf (by decide) rfl im_X7_verbOf se_X7_verbOf (ct_X7_verbOf cm ht4 hT hb hw.1 hw.2) (Nat.le_of_ble_eq_true rfl) (by decide) (Nat.le_of_ble_eq_true rfl) ?_
      rw [hv]
      refine e_istore_n dX7_parseClause_66 rfl (Nat.le_of_ble_eq_true rfl) rfl ?_
      refine e_iload_n dX7_parseClause_67 rfl rfl ?_
      refine e_iconst (v := -1) dX7_parseClause_68 rfl ?_
      first | ((with_reducible refine mk_mo ?_); refine p_icmp_ne (tgt := 79) dX7_parseClause_69 (by decide) (fun h69 => ?_) (fun h69 => ?_)) | ((with_reducible refine mk_ms ?_); refine s_icmp_ne (tgt := 79) dX7_parseClause_69 (by decide) (by omega) (fun h69 => ?_) (fun h69 => ?_)) | ((with_reducible refine mk_mn ?_); refine q_icmp_ne (tgt := 79) dX7_parseClause_69 (by decide) (by omega) (fun h69 => ?_) (fun h69 => ?_)) | ((with_reducible refine mk_nn ?_); refine n_icmp_ne (tgt := 79) dX7_parseClause_69 (by decide) (by omega) (by omega) (fun h69 => ?_) (fun h69 => ?_)) | refine e_icmp_ne (tgt := 79) dX7_parseClause_69 (by decide) (fun h69 => ?_) (fun h69 => ?_)
      · try first | contradiction | omega
        all_goals
          contradiction
      · try first | contradiction | omega
        all_goals
          refine e_aload_n dX7_parseClause_72 rfl rfl ?_
          refine e_iconst (v := nI 1) dX7_parseClause_73 rfl ?_
          refine e_iload_n dX7_parseClause_74 rfl rfl ?_
          refine y_V2 (M' := mX7_tell) dX7_parseClause_75 ml_X7_48 ok_X7_tell (by decide) rfl im_X7_tell se_X7_tell (ct_X7_tell) (Nat.le_of_ble_eq_true rfl) (by decide) (Nat.le_of_ble_eq_true rfl) ?_
          refine e_ret none rfl (r_void dX7_parseClause_78 rfl) ?_
          exact xq rfl rfl rfl rfl rfl rfl
    | some v =>
      have hv15 := (vbO_lt hv).1
      by_cases hc4 : s.2.1 < 40
      · skip
        refine e_aload_n dX7_parseClause_57 rfl rfl ?_
        refine e_iload_n dX7_parseClause_58 rfl rfl ?_
        refine e_aload_n dX7_parseClause_59 rfl rfl ?_
        refine e_getE dX7_parseClause_60 fl_X7_29 rfl (qv_at (a := wnd tp t s.1)) ?_
        refine x_V2 (M' := mX7_verbOf) dX7_parseClause_63 ml_X7_44 ok_X7_verbOf (by decide) rfl im_X7_verbOf se_X7_verbOf (ct_X7_verbOf cm ht4 hT hb hw.1 hw.2) (Nat.le_of_ble_eq_true rfl) (by decide) (Nat.le_of_ble_eq_true rfl) ?_
        rw [hv]
        refine e_istore_n dX7_parseClause_66 rfl (Nat.le_of_ble_eq_true rfl) rfl ?_
        refine e_iload_n dX7_parseClause_67 rfl rfl ?_
        refine e_iconst (v := -1) dX7_parseClause_68 rfl ?_
        first | ((with_reducible refine mk_mo ?_); refine p_icmp_ne (tgt := 79) dX7_parseClause_69 (by decide) (fun h69 => ?_) (fun h69 => ?_)) | ((with_reducible refine mk_ms ?_); refine s_icmp_ne (tgt := 79) dX7_parseClause_69 (by decide) (by omega) (fun h69 => ?_) (fun h69 => ?_)) | ((with_reducible refine mk_mn ?_); refine q_icmp_ne (tgt := 79) dX7_parseClause_69 (by decide) (by omega) (fun h69 => ?_) (fun h69 => ?_)) | ((with_reducible refine mk_nn ?_); refine n_icmp_ne (tgt := 79) dX7_parseClause_69 (by decide) (by omega) (by omega) (fun h69 => ?_) (fun h69 => ?_)) | refine e_icmp_ne (tgt := 79) dX7_parseClause_69 (by decide) (fun h69 => ?_) (fun h69 => ?_)
        · try first | contradiction | omega
          all_goals
            refine e_aload_n dX7_parseClause_79 rfl rfl ?_
            refine e_getE dX7_parseClause_80 fl_X7_32 rfl (qv_cl (a := wnd tp t s.1)) ?_
            refine e_bipush (v := nI 40) dX7_parseClause_83 rfl ?_
            first | ((with_reducible refine mk_nn ?_); refine n_icmp_lt (tgt := 95) dX7_parseClause_85 (by decide) (by omega) (by omega) (fun h85 => ?_) (fun h85 => ?_)) | refine e_icmp_lt (tgt := 95) dX7_parseClause_85 (by decide) (fun h85 => ?_) (fun h85 => ?_)
            · try first | contradiction | omega
              all_goals
                exact fin v hv hc4
            · try first | contradiction | omega
              all_goals
                omega
        · try first | contradiction | omega
          all_goals
            contradiction
      · have e1 : pcS tp t s = (wnd tp t s.1, s.2.1, nI 3, nI s.1) := by unfold pcS; rw [hv]; exact if_pos (by omega)
        have e2 : pcA tp t s ai = ai := by unfold pcA; rw [hv]; exact if_pos (by omega)
        rw [e1, e2]
        refine e_aload_n dX7_parseClause_57 rfl rfl ?_
        refine e_iload_n dX7_parseClause_58 rfl rfl ?_
        refine e_aload_n dX7_parseClause_59 rfl rfl ?_
        refine e_getE dX7_parseClause_60 fl_X7_29 rfl (qv_at (a := wnd tp t s.1)) ?_
        refine x_V2 (M' := mX7_verbOf) dX7_parseClause_63 ml_X7_44 ok_X7_verbOf (by decide) rfl im_X7_verbOf se_X7_verbOf (ct_X7_verbOf cm ht4 hT hb hw.1 hw.2) (Nat.le_of_ble_eq_true rfl) (by decide) (Nat.le_of_ble_eq_true rfl) ?_
        rw [hv]
        refine e_istore_n dX7_parseClause_66 rfl (Nat.le_of_ble_eq_true rfl) rfl ?_
        refine e_iload_n dX7_parseClause_67 rfl rfl ?_
        refine e_iconst (v := -1) dX7_parseClause_68 rfl ?_
        first | ((with_reducible refine mk_mo ?_); refine p_icmp_ne (tgt := 79) dX7_parseClause_69 (by decide) (fun h69 => ?_) (fun h69 => ?_)) | ((with_reducible refine mk_ms ?_); refine s_icmp_ne (tgt := 79) dX7_parseClause_69 (by decide) (by omega) (fun h69 => ?_) (fun h69 => ?_)) | ((with_reducible refine mk_mn ?_); refine q_icmp_ne (tgt := 79) dX7_parseClause_69 (by decide) (by omega) (fun h69 => ?_) (fun h69 => ?_)) | ((with_reducible refine mk_nn ?_); refine n_icmp_ne (tgt := 79) dX7_parseClause_69 (by decide) (by omega) (by omega) (fun h69 => ?_) (fun h69 => ?_)) | refine e_icmp_ne (tgt := 79) dX7_parseClause_69 (by decide) (fun h69 => ?_) (fun h69 => ?_)
        · try first | contradiction | omega
          all_goals
            refine e_aload_n dX7_parseClause_79 rfl rfl ?_
            refine e_getE dX7_parseClause_80 fl_X7_32 rfl (qv_cl (a := wnd tp t s.1)) ?_
            refine e_bipush (v := nI 40) dX7_parseClause_83 rfl ?_
            first | ((with_reducible refine mk_nn ?_); refine n_icmp_lt (tgt := 95) dX7_parseClause_85 (by decide) (by omega) (by omega) (fun h85 => ?_) (fun h85 => ?_)) | refine e_icmp_lt (tgt := 95) dX7_parseClause_85 (by decide) (fun h85 => ?_) (fun h85 => ?_)
            · try first | contradiction | omega
              all_goals
                omega
            · try first | contradiction | omega
              all_goals
                refine e_aload_n dX7_parseClause_88 rfl rfl ?_
                refine e_iconst (v := nI 3) dX7_parseClause_89 rfl ?_
                refine e_iload_n dX7_parseClause_90 rfl rfl ?_
                refine y_V2 (M' := mX7_tell) dX7_parseClause_91 ml_X7_48 ok_X7_tell (by decide) rfl im_X7_tell se_X7_tell (ct_X7_tell) (Nat.le_of_ble_eq_true rfl) (by decide) (Nat.le_of_ble_eq_true rfl) ?_
                refine e_ret none rfl (r_void dX7_parseClause_94 rfl) ?_
                exact xq rfl rfl rfl rfl rfl rfl
        · try first | contradiction | omega
          all_goals
            contradiction
  have key : ∀ (f a : Nat), t - a = f → a ≤ t → adv (isL tp) (t - a) a = wnd tp t s.1 → EV mX7_parseClause 5 0 0 5 [some (.ref (rf 7 76)), some (.int (nI s.1)), none, none] [] (qsF fi (a, s.2)) fr ai ar N (xQ none (qsF fi (pcS tp t s)) fr (pcA tp t s ai) ar N) := by
    intro f
    induction f with
    | zero =>
      intro a hf ha hd
      rw [adv_f (by omega)] at hd
      refine e_aload_n dX7_parseClause_5 rfl rfl ?_
      refine e_getE dX7_parseClause_6 fl_X7_29 rfl (qv_at (a := a)) ?_
      refine e_aload_n dX7_parseClause_9 rfl rfl ?_
      refine e_getE dX7_parseClause_10 fl_X7_26 rfl (qs_ln ht) ?_
      first | ((with_reducible refine mk_nn ?_); refine n_icmp_ge (tgt := 57) dX7_parseClause_13 (by decide) (by omega) (by omega) (fun h13 => ?_) (fun h13 => ?_)) | refine e_icmp_ge (tgt := 57) dX7_parseClause_13 (by decide) (fun h13 => ?_) (fun h13 => ?_)
      · try first | contradiction | omega
        all_goals
          rw [hd]
          exact mid
      · try first | contradiction | omega
        all_goals
          omega
    | succ f ih =>
      intro a hf ha hd
      have hba := hb a
      by_cases hp : 97 ≤ tp a ∧ tp a ≤ 122
      · rw [adv_t (by omega) (decide_eq_true hp)] at hd
        refine e_aload_n dX7_parseClause_5 rfl rfl ?_
        refine e_getE dX7_parseClause_6 fl_X7_29 rfl (qv_at (a := a)) ?_
        refine e_aload_n dX7_parseClause_9 rfl rfl ?_
        refine e_getE dX7_parseClause_10 fl_X7_26 rfl (qs_ln ht) ?_
        first | ((with_reducible refine mk_nn ?_); refine n_icmp_ge (tgt := 57) dX7_parseClause_13 (by decide) (by omega) (by omega) (fun h13 => ?_) (fun h13 => ?_)) | refine e_icmp_ge (tgt := 57) dX7_parseClause_13 (by decide) (fun h13 => ?_) (fun h13 => ?_)
        · try first | contradiction | omega
          all_goals
            omega
        · try first | contradiction | omega
          all_goals
            refine e_aload_n dX7_parseClause_16 rfl rfl ?_
            refine e_getR dX7_parseClause_17 fl_X7_9 rfl (cs_txt cm) ?_
            refine e_aload_n dX7_parseClause_20 rfl rfl ?_
            refine e_getE dX7_parseClause_21 fl_X7_29 rfl (qv_at (a := a)) ?_
            refine e_cadE _ dX7_parseClause_24 ⟨by decide, by decide⟩ rfl rfl (by simp only [lenK]; omega) (hT a (by omega)) ?_
            refine e_bipush (v := nI 97) dX7_parseClause_25 rfl ?_
            first | ((with_reducible refine mk_nn ?_); refine n_icmp_lt (tgt := 57) dX7_parseClause_27 (by decide) (by omega) (by omega) (fun h27 => ?_) (fun h27 => ?_)) | refine e_icmp_lt (tgt := 57) dX7_parseClause_27 (by decide) (fun h27 => ?_) (fun h27 => ?_)
            · try first | contradiction | omega
              all_goals
                omega
            · try first | contradiction | omega
              all_goals
                refine e_aload_n dX7_parseClause_30 rfl rfl ?_
                refine e_getR dX7_parseClause_31 fl_X7_9 rfl (cs_txt cm) ?_
                refine e_aload_n dX7_parseClause_34 rfl rfl ?_
                refine e_getE dX7_parseClause_35 fl_X7_29 rfl (qv_at (a := a)) ?_
                refine e_cadE _ dX7_parseClause_38 ⟨by decide, by decide⟩ rfl rfl (by simp only [lenK]; omega) (hT a (by omega)) ?_
                refine e_bipush (v := nI 122) dX7_parseClause_39 rfl ?_
                first | ((with_reducible refine mk_nn ?_); refine n_icmp_gt (tgt := 57) dX7_parseClause_41 (by decide) (by omega) (by omega) (fun h41 => ?_) (fun h41 => ?_)) | refine e_icmp_gt (tgt := 57) dX7_parseClause_41 (by decide) (fun h41 => ?_) (fun h41 => ?_)
                · try first | contradiction | omega
                  all_goals
                    omega
                · try first | contradiction | omega
                  all_goals
                    refine e_aload_n dX7_parseClause_44 rfl rfl ?_
                    refine e_dup dX7_parseClause_45 rfl ?_
                    refine e_getE dX7_parseClause_46 fl_X7_29 rfl (qv_at (a := a)) ?_
                    refine e_iconst (v := nI 1) dX7_parseClause_49 rfl ?_
                    first | ((with_reducible refine mk_nn ?_); refine n_iadd dX7_parseClause_50 ?_) | refine e_iadd dX7_parseClause_50 ?_
                    refine e_putI dX7_parseClause_51 fl_X7_29 rfl rfl rfl rfl ?_
                    rw [qs_at]
                    refine e_goto (tgt := 5) dX7_parseClause_54 (by decide) ?_
                    exact ih (a + 1) (by omega) (by omega) hd
      · rw [adv_f (fun q => hp (of_decide_eq_true q.2))] at hd
        refine e_aload_n dX7_parseClause_5 rfl rfl ?_
        refine e_getE dX7_parseClause_6 fl_X7_29 rfl (qv_at (a := a)) ?_
        refine e_aload_n dX7_parseClause_9 rfl rfl ?_
        refine e_getE dX7_parseClause_10 fl_X7_26 rfl (qs_ln ht) ?_
        first | ((with_reducible refine mk_nn ?_); refine n_icmp_ge (tgt := 57) dX7_parseClause_13 (by decide) (by omega) (by omega) (fun h13 => ?_) (fun h13 => ?_)) | refine e_icmp_ge (tgt := 57) dX7_parseClause_13 (by decide) (fun h13 => ?_) (fun h13 => ?_)
        · try first | contradiction | omega
          all_goals
            rw [hd]
            exact mid
        · try first | contradiction | omega
          all_goals
            refine e_aload_n dX7_parseClause_16 rfl rfl ?_
            refine e_getR dX7_parseClause_17 fl_X7_9 rfl (cs_txt cm) ?_
            refine e_aload_n dX7_parseClause_20 rfl rfl ?_
            refine e_getE dX7_parseClause_21 fl_X7_29 rfl (qv_at (a := a)) ?_
            refine e_cadE _ dX7_parseClause_24 ⟨by decide, by decide⟩ rfl rfl (by simp only [lenK]; omega) (hT a (by omega)) ?_
            refine e_bipush (v := nI 97) dX7_parseClause_25 rfl ?_
            first | ((with_reducible refine mk_nn ?_); refine n_icmp_lt (tgt := 57) dX7_parseClause_27 (by decide) (by omega) (by omega) (fun h27 => ?_) (fun h27 => ?_)) | refine e_icmp_lt (tgt := 57) dX7_parseClause_27 (by decide) (fun h27 => ?_) (fun h27 => ?_)
            · try first | contradiction | omega
              all_goals
                rw [hd]
                exact mid
            · try first | contradiction | omega
              all_goals
                refine e_aload_n dX7_parseClause_30 rfl rfl ?_
                refine e_getR dX7_parseClause_31 fl_X7_9 rfl (cs_txt cm) ?_
                refine e_aload_n dX7_parseClause_34 rfl rfl ?_
                refine e_getE dX7_parseClause_35 fl_X7_29 rfl (qv_at (a := a)) ?_
                refine e_cadE _ dX7_parseClause_38 ⟨by decide, by decide⟩ rfl rfl (by simp only [lenK]; omega) (hT a (by omega)) ?_
                refine e_bipush (v := nI 122) dX7_parseClause_39 rfl ?_
                first | ((with_reducible refine mk_nn ?_); refine n_icmp_gt (tgt := 57) dX7_parseClause_41 (by decide) (by omega) (by omega) (fun h41 => ?_) (fun h41 => ?_)) | refine e_icmp_gt (tgt := 57) dX7_parseClause_41 (by decide) (fun h41 => ?_) (fun h41 => ?_)
                · try first | contradiction | omega
                  all_goals
                    rw [hd]
                    exact mid
                · try first | contradiction | omega
                  all_goals
                    omega
  change EV mX7_parseClause 5 0 0 0 [some (.ref (rf 7 76)), none, none, none] [] (qsF fi s) fr ai ar N (xQ none (qsF fi (pcS tp t s)) fr (pcA tp t s ai) ar N)
  refine e_aload_n dX7_parseClause_0 rfl rfl ?_
  refine e_getE dX7_parseClause_1 fl_X7_29 rfl qv_a0 ?_
  refine e_istore_n dX7_parseClause_4 rfl (Nat.le_of_ble_eq_true rfl) rfl ?_
  exact key _ s.1 rfl hs rfl
def psL (tp : Nat → Nat) (t : Nat) : Nat → QS → QS
  | 0, s => s
  | k + 1, s => if s.1 < t ∧ s.2.2.1 = nI 0 then psL tp t k (skb tp t (pcS tp t s).1, (pcS tp t s).2) else s
def psA (tp : Nat → Nat) (t : Nat) : Nat → QS → FI → FI
  | 0, _, ai => ai
  | k + 1, s, ai => if s.1 < t ∧ s.2.2.1 = nI 0 then psA tp t k (skb tp t (pcS tp t s).1, (pcS tp t s).2) (pcA tp t s ai) else ai
theorem psL_le {tp : Nat → Nat} {t : Nat} : ∀ (k : Nat) {s : QS}, s.1 ≤ t → s.2.1 ≤ 40 → (psL tp t k s).1 ≤ t ∧ (psL tp t k s).2.1 ≤ 40
  | 0, s, h, hc => ⟨h, hc⟩
  | k + 1, s, h, hc => by
    unfold psL
    split
    · have h1 := pcS_le (tp := tp) h hc
      exact psL_le k (s := (skb tp t (pcS tp t s).1, (pcS tp t s).2)) (skb_le tp h1.1).2 h1.2
    · exact ⟨h, hc⟩
theorem psA_tx {tp : Nat → Nat} {t a : Nat} (h : a ≠ rf 30 78) (h2 : a ≠ rf 31 79) : ∀ (k : Nat) {s : QS} {ai : FI}, psA tp t k s ai a = ai a
  | 0, s, ai => rfl
  | k + 1, s, ai => by
    unfold psA
    split
    · rw [psA_tx h h2 k, pcA_tx h h2]
    · rfl
theorem ct_prl {fi : FI} {fr : FR} {ar : FR} {N : Nat} (cm : CM fr ar) {tp : Nat → Nat} {t : Nat} (ht : fi (32 * 7 + 3) (rf 7 76) = nI t) (ht4 : t ≤ 400) (hb : ∀ i, tp i < 256) : ∀ (k j : Nat) (s : QS) (ai : FI), 41 - j = k → j ≤ 41 → s.1 ≤ t → s.2.1 ≤ 40 → (∀ i, i < t → ai (rf 29 77) i = nI (tp i)) → EV mX7_parse 6 0 0 26 [some (.ref (rf 7 76)), some (.int (nI j))] [] (qsF fi s) fr ai ar N (xQ none (qsF fi (psL tp t (41 - j) s)) fr (psA tp t (41 - j) s ai) ar N) := by
  intro k
  induction k with
  | zero =>
    intro j s ai hk hj hs hc hT
    rw [hk]
    refine e_iload_n dX7_parse_26 rfl rfl ?_
    refine e_bipush (v := nI 40) dX7_parse_27 rfl ?_
    first | ((with_reducible refine mk_nn ?_); refine n_icmp_gt (tgt := 64) dX7_parse_29 (by decide) (by omega) (by omega) (fun h29 => ?_) (fun h29 => ?_)) | refine e_icmp_gt (tgt := 64) dX7_parse_29 (by decide) (fun h29 => ?_) (fun h29 => ?_)
    · try first | contradiction | omega
      all_goals
        refine e_ret none rfl (r_void dX7_parse_64 rfl) ?_
        exact xq rfl rfl rfl rfl rfl rfl
    · try first | contradiction | omega
      all_goals
        omega
  | succ k ih =>
    intro j s ai hk hj hs hc hT
    have ih := fun s1 ai1 => ih (j + 1) s1 ai1 (by omega) (by omega)
    rw [show 41 - (j + 1) = k by omega] at ih
    rw [hk]
    by_cases hz : s.1 < t ∧ s.2.2.1 = nI 0
    · have eS : psL tp t (k + 1) s = psL tp t k (skb tp t (pcS tp t s).1, (pcS tp t s).2) := if_pos hz
      have eA : psA tp t (k + 1) s ai = psA tp t k (skb tp t (pcS tp t s).1, (pcS tp t s).2) (pcA tp t s ai) := if_pos hz
      have hle := pcS_le (tp := tp) hs hc
      have hT1 : ∀ i, i < t → pcA tp t s ai (rf 29 77) i = nI (tp i) := fun i hi => by rw [pcA_tx (by decide) (by decide)]; exact hT i hi
      rw [eS, eA]
      have nxt : EV mX7_parse 6 0 0 50 [some (.ref (rf 7 76)), some (.int (nI j))] [] (qsF fi s) fr ai ar N (xQ none (qsF fi (psL tp t k (skb tp t (pcS tp t s).1, (pcS tp t s).2))) fr (psA tp t k (skb tp t (pcS tp t s).1, (pcS tp t s).2) (pcA tp t s ai)) ar N) := by
        refine e_aload_n dX7_parse_50 rfl rfl ?_
        refine y_V0 (M' := mX7_parseClause) dX7_parse_51 ml_X7_41 ok_X7_parseClause (by decide) rfl im_X7_parseClause se_X7_parseClause (ct_X7_parseClause cm ht ht4 hT hb hs hc hz.2) (Nat.le_of_ble_eq_true rfl) (by decide) (Nat.le_of_ble_eq_true rfl) ?_
        refine e_aload_n dX7_parse_54 rfl rfl ?_
        refine y_V0 (M' := mX7_skipBlanks) dX7_parse_55 ml_X7_38 ok_X7_skipBlanks (by decide) rfl im_X7_skipBlanks se_X7_skipBlanks (ct_X7_skipBlanks cm ht ht4 hT1 hb hle.1) (Nat.le_of_ble_eq_true rfl) (by decide) (Nat.le_of_ble_eq_true rfl) ?_
        first | refine n_inc dX7_parse_58 rfl (Nat.le_of_ble_eq_true rfl) rfl ?_ | refine e_iinc dX7_parse_58 rfl rfl (Nat.le_of_ble_eq_true rfl) rfl ?_
        refine e_goto (tgt := 26) dX7_parse_61 (by decide) ?_
        exact ih _ _ (skb_le tp hle.1).2 hle.2 hT1
      refine e_iload_n dX7_parse_26 rfl rfl ?_
      refine e_bipush (v := nI 40) dX7_parse_27 rfl ?_
      first | ((with_reducible refine mk_nn ?_); refine n_icmp_gt (tgt := 64) dX7_parse_29 (by decide) (by omega) (by omega) (fun h29 => ?_) (fun h29 => ?_)) | refine e_icmp_gt (tgt := 64) dX7_parse_29 (by decide) (fun h29 => ?_) (fun h29 => ?_)
      · try first | contradiction | omega
        all_goals
          first | omega | exact absurd hz.2 (by assumption)
      · try first | contradiction | omega
        all_goals
          refine e_aload_n dX7_parse_32 rfl rfl ?_
          refine e_getE dX7_parse_33 fl_X7_29 rfl qv_a0 ?_
          refine e_aload_n dX7_parse_36 rfl rfl ?_
          refine e_getE dX7_parse_37 fl_X7_26 rfl (qs_ln ht) ?_
          first | ((with_reducible refine mk_nn ?_); refine n_icmp_ge (tgt := 64) dX7_parse_40 (by decide) (by omega) (by omega) (fun h40 => ?_) (fun h40 => ?_)) | refine e_icmp_ge (tgt := 64) dX7_parse_40 (by decide) (fun h40 => ?_) (fun h40 => ?_)
          · try first | contradiction | omega
            all_goals
              first | omega | exact absurd hz.2 (by assumption)
          · try first | contradiction | omega
            all_goals
              refine e_aload_n dX7_parse_43 rfl rfl ?_
              refine e_getE dX7_parse_44 fl_X7_35 rfl qv_fa ?_
              first | ((with_reducible refine mk_b ?_); refine b_if_ne (tgt := 64) dX7_parse_47 (by decide) (fun h47 => ?_) (fun h47 => ?_)) | ((with_reducible refine mk_ll ?_); refine m_if_ne (tgt := 64) dX7_parse_47 (by decide) (by omega) (by omega) (fun h47 => ?_) (fun h47 => ?_)) | ((with_reducible refine mk_lc ?_); refine l_if_ne (tgt := 64) dX7_parse_47 (by decide) (fun h47 => ?_) (fun h47 => ?_)) | ((with_reducible refine mk_n ?_); refine n_if_ne (tgt := 64) dX7_parse_47 (by decide) (by omega) (fun h47 => ?_) (fun h47 => ?_)) | refine e_if_ne (tgt := 64) dX7_parse_47 (by decide) (fun h47 => ?_) (fun h47 => ?_)
              · try first | contradiction | omega | (simp only [decide_eq_true_eq, decide_eq_false_iff_not] at h47; omega)
                all_goals
                  first | omega | exact absurd hz.2 (by assumption)
              · try first | contradiction | omega | (simp only [decide_eq_true_eq, decide_eq_false_iff_not] at h47; omega)
                all_goals
                  exact nxt
    · have eS : psL tp t (k + 1) s = s := if_neg hz
      have eA : psA tp t (k + 1) s ai = ai := if_neg hz
      rw [eS, eA]
      refine e_iload_n dX7_parse_26 rfl rfl ?_
      refine e_bipush (v := nI 40) dX7_parse_27 rfl ?_
      first | ((with_reducible refine mk_nn ?_); refine n_icmp_gt (tgt := 64) dX7_parse_29 (by decide) (by omega) (by omega) (fun h29 => ?_) (fun h29 => ?_)) | refine e_icmp_gt (tgt := 64) dX7_parse_29 (by decide) (fun h29 => ?_) (fun h29 => ?_)
      · try first | contradiction | omega
        all_goals
          refine e_ret none rfl (r_void dX7_parse_64 rfl) ?_
          exact xq rfl rfl rfl rfl rfl rfl
      · try first | contradiction | omega
        all_goals
          refine e_aload_n dX7_parse_32 rfl rfl ?_
          refine e_getE dX7_parse_33 fl_X7_29 rfl qv_a0 ?_
          refine e_aload_n dX7_parse_36 rfl rfl ?_
          refine e_getE dX7_parse_37 fl_X7_26 rfl (qs_ln ht) ?_
          first | ((with_reducible refine mk_nn ?_); refine n_icmp_ge (tgt := 64) dX7_parse_40 (by decide) (by omega) (by omega) (fun h40 => ?_) (fun h40 => ?_)) | refine e_icmp_ge (tgt := 64) dX7_parse_40 (by decide) (fun h40 => ?_) (fun h40 => ?_)
          · try first | contradiction | omega
            all_goals
              refine e_ret none rfl (r_void dX7_parse_64 rfl) ?_
              exact xq rfl rfl rfl rfl rfl rfl
          · try first | contradiction | omega
            all_goals
              refine e_aload_n dX7_parse_43 rfl rfl ?_
              refine e_getE dX7_parse_44 fl_X7_35 rfl qv_fa ?_
              first | ((with_reducible refine mk_b ?_); refine b_if_ne (tgt := 64) dX7_parse_47 (by decide) (fun h47 => ?_) (fun h47 => ?_)) | ((with_reducible refine mk_ll ?_); refine m_if_ne (tgt := 64) dX7_parse_47 (by decide) (by omega) (by omega) (fun h47 => ?_) (fun h47 => ?_)) | ((with_reducible refine mk_lc ?_); refine l_if_ne (tgt := 64) dX7_parse_47 (by decide) (fun h47 => ?_) (fun h47 => ?_)) | ((with_reducible refine mk_n ?_); refine n_if_ne (tgt := 64) dX7_parse_47 (by decide) (by omega) (fun h47 => ?_) (fun h47 => ?_)) | refine e_if_ne (tgt := 64) dX7_parse_47 (by decide) (fun h47 => ?_) (fun h47 => ?_)
              · try first | contradiction | omega | (simp only [decide_eq_true_eq, decide_eq_false_iff_not] at h47; omega)
                all_goals
                  refine e_ret none rfl (r_void dX7_parse_64 rfl) ?_
                  exact xq rfl rfl rfl rfl rfl rfl
              · try first | contradiction | omega | (simp only [decide_eq_true_eq, decide_eq_false_iff_not] at h47; omega)
                all_goals
                  exact absurd ⟨by omega, by assumption⟩ hz
theorem qs_self (fi : FI) (s : QS) (x : QS) : qsF (qsF fi s) x = qsF fi x := by
  funext f r
  unfold qsF
  repeat' split
  all_goals first | rfl | contradiction
theorem qs_of (fi : FI) (f p : Int32) (a c : Nat) (h1 : fi (32 * 7 + 7) (rf 7 76) = nI a) (h2 : fi (32 * 7 + 4) (rf 7 76) = nI c) (h3 : fi (32 * 7 + 5) (rf 7 76) = f) (h4 : fi (32 * 7 + 6) (rf 7 76) = p) : qsF fi (a, c, f, p) = fi := by
  funext g r
  unfold qsF
  by_cases hr : r = rf 7 76
  · rw [if_pos hr, hr]
    by_cases g7 : g = 32 * 7 + 7
    · rw [if_pos g7, g7]; exact h1.symm
    · rw [if_neg g7]
      by_cases g4 : g = 32 * 7 + 4
      · rw [if_pos g4, g4]; exact h2.symm
      · rw [if_neg g4]
        by_cases g5 : g = 32 * 7 + 5
        · rw [if_pos g5, g5]; exact h3.symm
        · rw [if_neg g5]
          by_cases g6 : g = 32 * 7 + 6
          · rw [if_pos g6, g6]; exact h4.symm
          · rw [if_neg g6]
  · rw [if_neg hr]
/-- at, clauses, fault, place all begun anew -/
theorem qs_new (fi : FI) : up2 (up2 (up2 (up2 fi (32 * 7 + 7) (rf 7 76) (nI 0)) (32 * 7 + 4) (rf 7 76) (nI 0)) (32 * 7 + 5) (rf 7 76) (nI 0)) (32 * 7 + 6) (rf 7 76) (-1) = qsF fi (0, 0, nI 0, -1) := by
  funext f r
  unfold up2 qsF
  repeat' split
  all_goals first | rfl | omega
def par0 (tp : Nat → Nat) (t : Nat) : QS := (skb tp t 0, 0, nI 0, -1)
def parS (tp : Nat → Nat) (t : Nat) : QS := psL tp t 41 (par0 tp t)
def parA (tp : Nat → Nat) (t : Nat) (ai : FI) : FI := psA tp t 41 (par0 tp t) ai
theorem ct_X7_parse {fi : FI} {fr : FR} {ai : FI} {ar : FR} {N : Nat} (cm : CM fr ar) {tp : Nat → Nat} {t : Nat} (ht : fi (32 * 7 + 3) (rf 7 76) = nI t) (ht4 : t ≤ 400) (hb : ∀ i, tp i < 256) (hT : ∀ i, i < t → ai (rf 29 77) i = nI (tp i)) : CP mX7_parse 6 0 0 [.ref (rf 7 76)] fi fr ai ar N (xQ none (qsF fi (parS tp t)) fr (parA tp t ai) ar N) := by
  change EV mX7_parse 6 0 0 0 [some (.ref (rf 7 76)), none] [] fi fr ai ar N (xQ none (qsF fi (parS tp t)) fr (parA tp t ai) ar N)
  refine e_aload_n dX7_parse_0 rfl rfl ?_
  refine e_iconst (v := nI 0) dX7_parse_1 rfl ?_
  refine e_putI dX7_parse_2 fl_X7_29 rfl rfl rfl rfl ?_
  refine e_aload_n dX7_parse_5 rfl rfl ?_
  refine e_iconst (v := nI 0) dX7_parse_6 rfl ?_
  refine e_putI dX7_parse_7 fl_X7_32 rfl rfl rfl rfl ?_
  refine e_aload_n dX7_parse_10 rfl rfl ?_
  refine e_iconst (v := nI 0) dX7_parse_11 rfl ?_
  refine e_putI dX7_parse_12 fl_X7_35 rfl rfl rfl rfl ?_
  refine e_aload_n dX7_parse_15 rfl rfl ?_
  refine e_iconst (v := -1) dX7_parse_16 rfl ?_
  refine e_putI dX7_parse_17 fl_X7_22 rfl rfl rfl rfl ?_
  rw [qs_new]
  refine e_aload_n dX7_parse_20 rfl rfl ?_
  refine y_V0 (M' := mX7_skipBlanks) dX7_parse_21 ml_X7_38 ok_X7_skipBlanks (by decide) rfl im_X7_skipBlanks se_X7_skipBlanks (ct_X7_skipBlanks cm ht ht4 hT hb (Nat.zero_le t)) (Nat.le_of_ble_eq_true rfl) (by decide) (Nat.le_of_ble_eq_true rfl) ?_
  refine e_iconst (v := nI 0) dX7_parse_24 rfl ?_
  refine e_istore_n dX7_parse_25 rfl (Nat.le_of_ble_eq_true rfl) rfl ?_
  exact ct_prl cm ht ht4 hb 41 0 (par0 tp t) ai rfl (by decide) (skb_le tp (Nat.zero_le t)).2 (Nat.zero_le _) hT
