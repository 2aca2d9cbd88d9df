/-- the state of the reading: place, wrong, kind, place of the fault, clauses, their row -/
abbrev PS : Type := Nat × Bool × Int32 × Int32 × Nat × (Nat → Int32)
def psF (fi : FI) (s : PS) : FI := fun f r => if r = rf 11 80 then (if f = 32 * 11 + 11 then nI s.1 else if f = 32 * 11 + 15 then bI s.2.1 else if f = 32 * 11 + 12 then s.2.2.1 else if f = 32 * 11 + 13 then s.2.2.2.1 else if f = 32 * 11 + 17 then nI s.2.2.2.2.1 else fi f r) else fi f r
theorem psF_11 (fi : FI) (s : PS) : psF fi s (32 * 11 + 11) (rf 11 80) = nI s.1 := rfl
theorem psF_15 (fi : FI) (s : PS) : psF fi s (32 * 11 + 15) (rf 11 80) = bI s.2.1 := rfl
theorem psF_12 (fi : FI) (s : PS) : psF fi s (32 * 11 + 12) (rf 11 80) = s.2.2.1 := rfl
theorem psF_13 (fi : FI) (s : PS) : psF fi s (32 * 11 + 13) (rf 11 80) = s.2.2.2.1 := rfl
theorem psF_17 (fi : FI) (s : PS) : psF fi s (32 * 11 + 17) (rf 11 80) = nI s.2.2.2.2.1 := rfl
theorem psF_10 (fi : FI) (s : PS) : psF fi s (32 * 11 + 10) (rf 11 80) = fi (32 * 11 + 10) (rf 11 80) := rfl
theorem psF_o {fi : FI} {s : PS} {f r : Nat} (h : ¬ (r = rf 11 80 ∧ (f = 32 * 11 + 11 ∨ f = 32 * 11 + 15 ∨ f = 32 * 11 + 12 ∨ f = 32 * 11 + 13 ∨ f = 32 * 11 + 17))) : psF fi s f r = fi f r := by
  unfold psF
  repeat' split
  all_goals first | rfl | omega
theorem psF_s11 (fi : FI) (s : PS) (a : Nat) : up2 (psF fi s) (32 * 11 + 11) (rf 11 80) (nI a) = psF fi (a, s.2) := by
  funext f r
  unfold up2 psF
  repeat' split
  all_goals first | rfl | omega
theorem psF_s15 (fi : FI) (s : PS) (x : Int32) (b : Bool) (h : x = bI b) : up2 (psF fi s) (32 * 11 + 15) (rf 11 80) x = psF fi (s.1, b, s.2.2) := by
  subst h
  funext f r
  unfold up2 psF
  repeat' split
  all_goals first | rfl | omega
theorem psF_s12 (fi : FI) (s : PS) (x : Int32) : up2 (psF fi s) (32 * 11 + 12) (rf 11 80) x = psF fi (s.1, s.2.1, x, s.2.2.2) := by
  funext f r
  unfold up2 psF
  repeat' split
  all_goals first | rfl | omega
theorem psF_s13 (fi : FI) (s : PS) (x : Int32) : up2 (psF fi s) (32 * 11 + 13) (rf 11 80) x = psF fi (s.1, s.2.1, s.2.2.1, x, s.2.2.2.2) := by
  funext f r
  unfold up2 psF
  repeat' split
  all_goals first | rfl | omega
theorem psF_s17 (fi : FI) (s : PS) (n : Nat) : up2 (psF fi s) (32 * 11 + 17) (rf 11 80) (nI n) = psF fi (s.1, s.2.1, s.2.2.1, s.2.2.2.1, n, s.2.2.2.2.2) := by
  funext f r
  unfold up2 psF
  repeat' split
  all_goals first | rfl | omega
theorem sB_eq {c k : Nat} (hc : c < 256) (hk : k < 128) : sB c = nI k ↔ c = k := by
  refine ⟨fun h => ?_, fun h => by rw [h, sB_lo hk]⟩
  have := congrArg Int32.toInt h
  rw [sB_toInt hc, nI_toInt (by omega)] at this
  split at this <;> omega
theorem sB_in {c lo hi : Nat} (hc : c < 256) (hh : hi < 128) : decide ((lo : Int) ≤ (sB c).toInt ∧ (sB c).toInt ≤ (hi : Int)) = decide (lo ≤ c ∧ c ≤ hi) := by
  rw [sB_toInt hc]
  congr 1
  apply propext
  split <;> omega
/-- the first place from a on (so many at most) where p doesn't hold -/
def adv (p : Nat → Bool) : Nat → Nat → Nat
  | 0, a => a
  | f + 1, a => if p a then adv p f (a + 1) else a
theorem adv_le (p : Nat → Bool) : ∀ f a, a ≤ adv p f a ∧ adv p f a ≤ a + f
  | 0, a => ⟨Nat.le_refl _, Nat.le_refl _⟩
  | f + 1, a => by
    have := adv_le p f (a + 1)
    unfold adv
    split <;> omega
def isB (tp : Nat → Nat) (i : Nat) : Bool := decide (tp i = 32)
def isL (tp : Nat → Nat) (i : Nat) : Bool := decide (97 ≤ tp i ∧ tp i ≤ 122)
def isD (tp : Nat → Nat) (i : Nat) : Bool := decide (48 ≤ tp i ∧ tp i ≤ 57)
def skb (tp : Nat → Nat) (t a : Nat) : Nat := adv (isB tp) (t - a) a
def wnd (tp : Nat → Nat) (t a : Nat) : Nat := adv (isL tp) (t - a) a
theorem adv_t {p : Nat → Bool} {t a : Nat} (h : a < t) (hp : p a = true) : adv p (t - a) a = adv p (t - (a + 1)) (a + 1) := by
  rw [show t - a = (t - (a + 1)) + 1 by omega]
  show (if p a then _ else _) = _
  rw [hp]; rfl
theorem adv_f {p : Nat → Bool} {t a : Nat} (h : ¬ (a < t ∧ p a = true)) : adv p (t - a) a = a := by
  cases hf : t - a with
  | zero => rfl
  | succ f =>
    show (if p a then _ else _) = _
    rw [if_neg (fun q => h ⟨by omega, q⟩)]
theorem skb_le (tp : Nat → Nat) {t a : Nat} (h : a ≤ t) : a ≤ skb tp t a ∧ skb tp t a ≤ t := by have := adv_le (isB tp) (t - a) a; unfold skb; omega
theorem wnd_le (tp : Nat → Nat) {t a : Nat} (h : a ≤ t) : a ≤ wnd tp t a ∧ wnd tp t a ≤ t := by have := adv_le (isL tp) (t - a) a; unfold wnd; omega
def wrS (s : PS) (k : Int32) (p : Int32) : PS := if s.2.1 then s else (s.1, true, k, p, s.2.2.2.2)
theorem ct_X11_wrong {fi : FI} {fr : FR} {ai : FI} {ar : FR} {N : Nat} (sm : SM fr) {s : PS} {k p : Int32} : CP mX11_wrong 0 0 0 [.ref (rf 11 80), .int k, .int p] (psF fi s) fr ai ar N (xQ (none) (psF fi (wrS s k p)) fr ai ar N) := by
  obtain ⟨sW, sA0, sK, sU, sC, sKC, sT, sCl⟩ := id sm
  change EV mX11_wrong 0 0 0 0 [some (.ref (rf 11 80)), some (.int k), some (.int p)] [] (psF fi s) fr ai ar N (xQ (none) (psF fi (wrS s k p)) fr ai ar N)
  cases hw : s.2.1 with
  | true =>
    have e : wrS s k p = s := by unfold wrS; rw [hw]; rfl
    rw [e]
    refine e_aload_n dX11_wrong_0 rfl rfl ?_
    refine e_getI dX11_wrong_1 fl_X11_223 rfl ?_
    rw [psF_15]
    rw [hw]
    first | ((with_reducible refine mk_b ?_); refine b_if_eq (tgt := 8) dX11_wrong_4 (by decide) (fun h4 => ?_) (fun h4 => ?_)) | ((with_reducible refine mk_ll ?_); refine m_if_eq (tgt := 8) dX11_wrong_4 (by decide) (by omega) (by omega) (fun h4 => ?_) (fun h4 => ?_)) | ((with_reducible refine mk_lc ?_); refine l_if_eq (tgt := 8) dX11_wrong_4 (by decide) (fun h4 => ?_) (fun h4 => ?_)) | ((with_reducible refine mk_n ?_); refine n_if_eq (tgt := 8) dX11_wrong_4 (by decide) (by omega) (fun h4 => ?_) (fun h4 => ?_)) | refine e_if_eq (tgt := 8) dX11_wrong_4 (by decide) (fun h4 => ?_) (fun h4 => ?_)
    · try first | contradiction | omega | (simp only [decide_eq_true_eq, decide_eq_false_iff_not] at h4; omega)
      all_goals
        contradiction
    · try first | contradiction | omega | (simp only [decide_eq_true_eq, decide_eq_false_iff_not] at h4; omega)
      all_goals
        refine e_ret none rfl (r_void dX11_wrong_7 rfl) ?_
        exact xq rfl rfl rfl rfl rfl rfl
  | false =>
    have e : wrS s k p = (s.1, true, k, p, s.2.2.2.2) := by unfold wrS; rw [hw]; rfl
    rw [e]
    refine e_aload_n dX11_wrong_0 rfl rfl ?_
    refine e_getI dX11_wrong_1 fl_X11_223 rfl ?_
    rw [psF_15]
    rw [hw]
    first | ((with_reducible refine mk_b ?_); refine b_if_eq (tgt := 8) dX11_wrong_4 (by decide) (fun h4 => ?_) (fun h4 => ?_)) | ((with_reducible refine mk_ll ?_); refine m_if_eq (tgt := 8) dX11_wrong_4 (by decide) (by omega) (by omega) (fun h4 => ?_) (fun h4 => ?_)) | ((with_reducible refine mk_lc ?_); refine l_if_eq (tgt := 8) dX11_wrong_4 (by decide) (fun h4 => ?_) (fun h4 => ?_)) | ((with_reducible refine mk_n ?_); refine n_if_eq (tgt := 8) dX11_wrong_4 (by decide) (by omega) (fun h4 => ?_) (fun h4 => ?_)) | refine e_if_eq (tgt := 8) dX11_wrong_4 (by decide) (fun h4 => ?_) (fun h4 => ?_)
    · try first | contradiction | omega | (simp only [decide_eq_true_eq, decide_eq_false_iff_not] at h4; omega)
      all_goals
        refine e_aload_n dX11_wrong_8 rfl rfl ?_
        refine e_iconst (v := nI 1) dX11_wrong_9 rfl ?_
        refine e_putI dX11_wrong_10 fl_X11_223 rfl rfl rfl rfl ?_
        rw [psF_s15 _ _ (nI 1) true rfl]
        refine e_aload_n dX11_wrong_13 rfl rfl ?_
        refine e_iload_n dX11_wrong_14 rfl rfl ?_
        refine e_putI dX11_wrong_15 fl_X11_226 rfl rfl rfl rfl ?_
        rw [psF_s12]
        refine e_aload_n dX11_wrong_18 rfl rfl ?_
        refine e_iload_n dX11_wrong_19 rfl rfl ?_
        refine e_putI dX11_wrong_20 fl_X11_33 rfl rfl rfl rfl ?_
        rw [psF_s13]
        refine e_ret none rfl (r_void dX11_wrong_23 rfl) ?_
        exact xq rfl rfl rfl rfl rfl rfl
    · try first | contradiction | omega | (simp only [decide_eq_true_eq, decide_eq_false_iff_not] at h4; omega)
      all_goals
        contradiction
theorem ct_X11_blanks {fi : FI} {fr : FR} {ai : FI} {ar : FR} {N : Nat} (sm : SM fr) {s : PS} {tp : Nat → Nat} {t : Nat} (ht : fi (32 * 11 + 10) (rf 11 80) = nI t) (ht4 : t ≤ 400) (hT : ∀ i, i < t → ai (rf 35 87) i = sB (tp i)) (hb : ∀ i, tp i < 256) (hs : s.1 ≤ t) : CP mX11_blanks 0 0 0 [.ref (rf 11 80)] (psF fi s) fr ai ar N (xQ (none) (psF fi (skb tp t s.1, s.2)) fr ai ar N) := by
  obtain ⟨sW, sA0, sK, sU, sC, sKC, sT, sCl⟩ := id sm
  change EV mX11_blanks 0 0 0 0 [some (.ref (rf 11 80))] [] (psF fi s) fr ai ar N (xQ (none) (psF fi (skb tp t s.1, s.2)) fr ai ar N)
  have key : ∀ (f a : Nat), t - a = f → a ≤ t → EV mX11_blanks 0 0 0 0 [some (.ref (rf 11 80))] [] (psF fi (a, s.2)) fr ai ar N (xQ none (psF fi (skb tp t a, s.2)) fr ai ar N) := by
    intro f
    induction f with
    | zero =>
      intro a hf ha
      have e : skb tp t a = a := adv_f (by omega)
      rw [e]
      refine e_aload_n dX11_blanks_0 rfl rfl ?_
      refine e_getI dX11_blanks_1 fl_X11_229 rfl ?_
      rw [psF_11]
      refine e_aload_n dX11_blanks_4 rfl rfl ?_
      refine e_getI dX11_blanks_5 fl_X11_217 rfl ?_
      rw [psF_10, ht]
      first | ((with_reducible refine mk_nn ?_); refine n_icmp_ge (tgt := 38) dX11_blanks_8 (by decide) (by omega) (by omega) (fun h8 => ?_) (fun h8 => ?_)) | refine e_icmp_ge (tgt := 38) dX11_blanks_8 (by decide) (fun h8 => ?_) (fun h8 => ?_)
      · try first | contradiction | omega
        all_goals
          refine e_ret none rfl (r_void dX11_blanks_38 rfl) ?_
          exact xq rfl rfl rfl rfl rfl rfl
      · try first | contradiction | omega
        all_goals
          omega
    | succ f ih =>
      intro a hf ha
      have hTa := hT a (by omega)
      have hba := hb a
      by_cases hp : tp a = 32
      · have e : skb tp t a = skb tp t (a + 1) := adv_t (by omega) (decide_eq_true hp)
        rw [e]
        refine e_aload_n dX11_blanks_0 rfl rfl ?_
        refine e_getI dX11_blanks_1 fl_X11_229 rfl ?_
        rw [psF_11]
        refine e_aload_n dX11_blanks_4 rfl rfl ?_
        refine e_getI dX11_blanks_5 fl_X11_217 rfl ?_
        rw [psF_10, ht]
        first | ((with_reducible refine mk_nn ?_); refine n_icmp_ge (tgt := 38) dX11_blanks_8 (by decide) (by omega) (by omega) (fun h8 => ?_) (fun h8 => ?_)) | refine e_icmp_ge (tgt := 38) dX11_blanks_8 (by decide) (fun h8 => ?_) (fun h8 => ?_)
        · try first | contradiction | omega
          all_goals
            first | omega | (exfalso; rw [hTa] at h22; exact h22 ((sB_eq hba (by omega)).mpr hp))
        · try first | contradiction | omega
          all_goals
            refine e_aload_n dX11_blanks_11 rfl rfl ?_
            refine e_getR dX11_blanks_12 fl_X11_29 rfl (by assumption) ?_
            refine e_aload_n dX11_blanks_15 rfl rfl ?_
            refine e_getI dX11_blanks_16 fl_X11_229 rfl ?_
            rw [psF_11]
            first | refine e_bald _ dX11_blanks_19 ⟨by decide, by decide⟩ rfl rfl (by simp only [lenK]; omega) ?_ | refine e_zald _ dX11_blanks_19 ⟨by decide, by decide⟩ rfl rfl (by simp only [lenK]; omega) ?_
            refine e_bipush (v := nI 32) dX11_blanks_20 rfl ?_
            first | ((with_reducible refine mk_mo ?_); refine p_icmp_ne (tgt := 38) dX11_blanks_22 (by decide) (fun h22 => ?_) (fun h22 => ?_)) | ((with_reducible refine mk_ms ?_); refine s_icmp_ne (tgt := 38) dX11_blanks_22 (by decide) (by omega) (fun h22 => ?_) (fun h22 => ?_)) | ((with_reducible refine mk_mn ?_); refine q_icmp_ne (tgt := 38) dX11_blanks_22 (by decide) (by omega) (fun h22 => ?_) (fun h22 => ?_)) | ((with_reducible refine mk_nn ?_); refine n_icmp_ne (tgt := 38) dX11_blanks_22 (by decide) (by omega) (by omega) (fun h22 => ?_) (fun h22 => ?_)) | refine e_icmp_ne (tgt := 38) dX11_blanks_22 (by decide) (fun h22 => ?_) (fun h22 => ?_)
            · try first | contradiction | omega
              all_goals
                first | omega | (exfalso; rw [hTa] at h22; exact h22 ((sB_eq hba (by omega)).mpr hp))
            · try first | contradiction | omega
              all_goals
                refine e_aload_n dX11_blanks_25 rfl rfl ?_
                refine e_dup dX11_blanks_26 rfl ?_
                refine e_getI dX11_blanks_27 fl_X11_229 rfl ?_
                rw [psF_11]
                refine e_iconst (v := nI 1) dX11_blanks_30 rfl ?_
                first | ((with_reducible refine mk_nn ?_); refine n_iadd dX11_blanks_31 ?_) | refine e_iadd dX11_blanks_31 ?_
                refine e_putI dX11_blanks_32 fl_X11_229 rfl rfl rfl rfl ?_
                refine e_goto (tgt := 0) dX11_blanks_35 (by decide) ?_
                rw [psF_s11]
                exact ih (a + 1) (by omega) (by omega)
      · have e : skb tp t a = a := adv_f (fun q => hp (of_decide_eq_true q.2))
        rw [e]
        refine e_aload_n dX11_blanks_0 rfl rfl ?_
        refine e_getI dX11_blanks_1 fl_X11_229 rfl ?_
        rw [psF_11]
        refine e_aload_n dX11_blanks_4 rfl rfl ?_
        refine e_getI dX11_blanks_5 fl_X11_217 rfl ?_
        rw [psF_10, ht]
        first | ((with_reducible refine mk_nn ?_); refine n_icmp_ge (tgt := 38) dX11_blanks_8 (by decide) (by omega) (by omega) (fun h8 => ?_) (fun h8 => ?_)) | refine e_icmp_ge (tgt := 38) dX11_blanks_8 (by decide) (fun h8 => ?_) (fun h8 => ?_)
        · try first | contradiction | omega
          all_goals
            refine e_ret none rfl (r_void dX11_blanks_38 rfl) ?_
            exact xq rfl rfl rfl rfl rfl rfl
        · try first | contradiction | omega
          all_goals
            refine e_aload_n dX11_blanks_11 rfl rfl ?_
            refine e_getR dX11_blanks_12 fl_X11_29 rfl (by assumption) ?_
            refine e_aload_n dX11_blanks_15 rfl rfl ?_
            refine e_getI dX11_blanks_16 fl_X11_229 rfl ?_
            rw [psF_11]
            first | refine e_bald _ dX11_blanks_19 ⟨by decide, by decide⟩ rfl rfl (by simp only [lenK]; omega) ?_ | refine e_zald _ dX11_blanks_19 ⟨by decide, by decide⟩ rfl rfl (by simp only [lenK]; omega) ?_
            refine e_bipush (v := nI 32) dX11_blanks_20 rfl ?_
            first | ((with_reducible refine mk_mo ?_); refine p_icmp_ne (tgt := 38) dX11_blanks_22 (by decide) (fun h22 => ?_) (fun h22 => ?_)) | ((with_reducible refine mk_ms ?_); refine s_icmp_ne (tgt := 38) dX11_blanks_22 (by decide) (by omega) (fun h22 => ?_) (fun h22 => ?_)) | ((with_reducible refine mk_mn ?_); refine q_icmp_ne (tgt := 38) dX11_blanks_22 (by decide) (by omega) (fun h22 => ?_) (fun h22 => ?_)) | ((with_reducible refine mk_nn ?_); refine n_icmp_ne (tgt := 38) dX11_blanks_22 (by decide) (by omega) (by omega) (fun h22 => ?_) (fun h22 => ?_)) | refine e_icmp_ne (tgt := 38) dX11_blanks_22 (by decide) (fun h22 => ?_) (fun h22 => ?_)
            · try first | contradiction | omega
              all_goals
                refine e_ret none rfl (r_void dX11_blanks_38 rfl) ?_
                exact xq rfl rfl rfl rfl rfl rfl
            · try first | contradiction | omega
              all_goals
                exfalso
                rw [hTa] at h22
                exact hp ((sB_eq hba (by omega)).mp (by first | exact h22 | exact Decidable.not_not.mp h22))
  exact key _ s.1 rfl hs
theorem ct_X11_wordEnd {fi : FI} {fr : FR} {ai : FI} {ar : FR} {N : Nat} (sm : SM fr) {s : PS} {tp : Nat → Nat} {t : Nat} (ht : fi (32 * 11 + 10) (rf 11 80) = nI t) (ht4 : t ≤ 400) (hT : ∀ i, i < t → ai (rf 35 87) i = sB (tp i)) (hb : ∀ i, tp i < 256) (hs : s.1 ≤ t) : CP mX11_wordEnd 1 0 0 [.ref (rf 11 80)] (psF fi s) fr ai ar N (xQ (some (.int (nI (wnd tp t s.1)))) (psF fi s) fr ai ar N) := by
  obtain ⟨sW, sA0, sK, sU, sC, sKC, sT, sCl⟩ := id sm
  change EV mX11_wordEnd 1 0 0 0 [some (.ref (rf 11 80)), none] [] (psF fi s) fr ai ar N (xQ (some (.int (nI (wnd tp t s.1)))) (psF fi s) fr ai ar N)
  have key : ∀ (f a : Nat), t - a = f → a ≤ t → EV mX11_wordEnd 1 0 0 5 [some (.ref (rf 11 80)), some (.int (nI a))] [] (psF fi s) fr ai ar N (xQ (some (.int (nI (wnd tp t a)))) (psF fi s) fr ai ar N) := by
    intro f
    induction f with
    | zero =>
      intro a hf ha
      have e : wnd tp t a = a := adv_f (by omega)
      rw [e]
      refine e_iload_n dX11_wordEnd_5 rfl rfl ?_
      refine e_aload_n dX11_wordEnd_6 rfl rfl ?_
      refine e_getI dX11_wordEnd_7 fl_X11_217 rfl ?_
      rw [psF_10, ht]
      first | ((with_reducible refine mk_nn ?_); refine n_icmp_ge (tgt := 38) dX11_wordEnd_10 (by decide) (by omega) (by omega) (fun h10 => ?_) (fun h10 => ?_)) | refine e_icmp_ge (tgt := 38) dX11_wordEnd_10 (by decide) (fun h10 => ?_) (fun h10 => ?_)
      · try first | contradiction | omega
        all_goals
          refine e_iload_n dX11_wordEnd_38 rfl rfl ?_
          refine e_ret (some _) rfl (r_int dX11_wordEnd_39 rfl) ?_
          exact xq rfl rfl rfl rfl rfl rfl
      · try first | contradiction | omega
        all_goals
          omega
    | succ f ih =>
      intro a hf ha
      have hTa := hT a (by omega)
      have hba := hb a
      have hin := sB_in (lo := 97) (hi := 122) hba (by omega)
      by_cases hp : 97 ≤ tp a ∧ tp a ≤ 122
      · have e : wnd tp t a = wnd tp t (a + 1) := adv_t (by omega) (decide_eq_true hp)
        rw [e]
        refine e_iload_n dX11_wordEnd_5 rfl rfl ?_
        refine e_aload_n dX11_wordEnd_6 rfl rfl ?_
        refine e_getI dX11_wordEnd_7 fl_X11_217 rfl ?_
        rw [psF_10, ht]
        first | ((with_reducible refine mk_nn ?_); refine n_icmp_ge (tgt := 38) dX11_wordEnd_10 (by decide) (by omega) (by omega) (fun h10 => ?_) (fun h10 => ?_)) | refine e_icmp_ge (tgt := 38) dX11_wordEnd_10 (by decide) (fun h10 => ?_) (fun h10 => ?_)
        · try first | contradiction | omega
          all_goals
            first | omega | (exfalso; simp_all; done)
        · try first | contradiction | omega
          all_goals
            refine e_aload_n dX11_wordEnd_13 rfl rfl ?_
            refine e_getR dX11_wordEnd_14 fl_X11_29 rfl (by assumption) ?_
            refine e_iload_n dX11_wordEnd_17 rfl rfl ?_
            first | refine e_bald _ dX11_wordEnd_18 ⟨by decide, by decide⟩ rfl rfl (by simp only [lenK]; omega) ?_ | refine e_zald _ dX11_wordEnd_18 ⟨by decide, by decide⟩ rfl rfl (by simp only [lenK]; omega) ?_
            first | ((with_reducible refine mk_n ?_); refine n_i2l dX11_wordEnd_19 (by omega) ?_) | refine e_i2l dX11_wordEnd_19 ?_
            refine e_ldc2 dX11_wordEnd_20 co_X11_232 ?_
            refine e_ldc2 dX11_wordEnd_23 co_X11_234 ?_
            refine x_S3 (M' := mX11_isIn) dX11_wordEnd_26 ml_X11_45 ok_X11_isIn rfl sc_X11_isIn (by first | ((with_reducible refine ct_isInN ?_ ?_ ?_) <;> omega) | ((with_reducible refine ct_isInX ?_ ?_) <;> omega) | exact ct_X11_isIn _ _ _) (Nat.le_of_ble_eq_true rfl) (by decide) (Nat.le_of_ble_eq_true rfl) ?_
            rw [hTa, hin]
            first | ((with_reducible refine mk_b ?_); refine b_if_eq (tgt := 38) dX11_wordEnd_29 (by decide) (fun h29 => ?_) (fun h29 => ?_)) | ((with_reducible refine mk_ll ?_); refine m_if_eq (tgt := 38) dX11_wordEnd_29 (by decide) (by omega) (by omega) (fun h29 => ?_) (fun h29 => ?_)) | ((with_reducible refine mk_lc ?_); refine l_if_eq (tgt := 38) dX11_wordEnd_29 (by decide) (fun h29 => ?_) (fun h29 => ?_)) | ((with_reducible refine mk_n ?_); refine n_if_eq (tgt := 38) dX11_wordEnd_29 (by decide) (by omega) (fun h29 => ?_) (fun h29 => ?_)) | refine e_if_eq (tgt := 38) dX11_wordEnd_29 (by decide) (fun h29 => ?_) (fun h29 => ?_)
            · try first | contradiction | omega | (simp only [decide_eq_true_eq, decide_eq_false_iff_not] at h29; omega)
              all_goals
                first | omega | (exfalso; simp_all; done)
            · try first | contradiction | omega | (simp only [decide_eq_true_eq, decide_eq_false_iff_not] at h29; omega)
              all_goals
                first | refine n_inc dX11_wordEnd_32 rfl (Nat.le_of_ble_eq_true rfl) rfl ?_ | refine e_iinc dX11_wordEnd_32 rfl rfl (Nat.le_of_ble_eq_true rfl) rfl ?_
                refine e_goto (tgt := 5) dX11_wordEnd_35 (by decide) ?_
                exact ih (a + 1) (by omega) (by omega)
      · have e : wnd tp t a = a := adv_f (fun q => hp (of_decide_eq_true q.2))
        rw [e]
        refine e_iload_n dX11_wordEnd_5 rfl rfl ?_
        refine e_aload_n dX11_wordEnd_6 rfl rfl ?_
        refine e_getI dX11_wordEnd_7 fl_X11_217 rfl ?_
        rw [psF_10, ht]
        first | ((with_reducible refine mk_nn ?_); refine n_icmp_ge (tgt := 38) dX11_wordEnd_10 (by decide) (by omega) (by omega) (fun h10 => ?_) (fun h10 => ?_)) | refine e_icmp_ge (tgt := 38) dX11_wordEnd_10 (by decide) (fun h10 => ?_) (fun h10 => ?_)
        · try first | contradiction | omega
          all_goals
            refine e_iload_n dX11_wordEnd_38 rfl rfl ?_
            refine e_ret (some _) rfl (r_int dX11_wordEnd_39 rfl) ?_
            exact xq rfl rfl rfl rfl rfl rfl
        · try first | contradiction | omega
          all_goals
            refine e_aload_n dX11_wordEnd_13 rfl rfl ?_
            refine e_getR dX11_wordEnd_14 fl_X11_29 rfl (by assumption) ?_
            refine e_iload_n dX11_wordEnd_17 rfl rfl ?_
            first | refine e_bald _ dX11_wordEnd_18 ⟨by decide, by decide⟩ rfl rfl (by simp only [lenK]; omega) ?_ | refine e_zald _ dX11_wordEnd_18 ⟨by decide, by decide⟩ rfl rfl (by simp only [lenK]; omega) ?_
            first | ((with_reducible refine mk_n ?_); refine n_i2l dX11_wordEnd_19 (by omega) ?_) | refine e_i2l dX11_wordEnd_19 ?_
            refine e_ldc2 dX11_wordEnd_20 co_X11_232 ?_
            refine e_ldc2 dX11_wordEnd_23 co_X11_234 ?_
            refine x_S3 (M' := mX11_isIn) dX11_wordEnd_26 ml_X11_45 ok_X11_isIn rfl sc_X11_isIn (by first | ((with_reducible refine ct_isInN ?_ ?_ ?_) <;> omega) | ((with_reducible refine ct_isInX ?_ ?_) <;> omega) | exact ct_X11_isIn _ _ _) (Nat.le_of_ble_eq_true rfl) (by decide) (Nat.le_of_ble_eq_true rfl) ?_
            rw [hTa, hin]
            first | ((with_reducible refine mk_b ?_); refine b_if_eq (tgt := 38) dX11_wordEnd_29 (by decide) (fun h29 => ?_) (fun h29 => ?_)) | ((with_reducible refine mk_ll ?_); refine m_if_eq (tgt := 38) dX11_wordEnd_29 (by decide) (by omega) (by omega) (fun h29 => ?_) (fun h29 => ?_)) | ((with_reducible refine mk_lc ?_); refine l_if_eq (tgt := 38) dX11_wordEnd_29 (by decide) (fun h29 => ?_) (fun h29 => ?_)) | ((with_reducible refine mk_n ?_); refine n_if_eq (tgt := 38) dX11_wordEnd_29 (by decide) (by omega) (fun h29 => ?_) (fun h29 => ?_)) | refine e_if_eq (tgt := 38) dX11_wordEnd_29 (by decide) (fun h29 => ?_) (fun h29 => ?_)
            · try first | contradiction | omega | (simp only [decide_eq_true_eq, decide_eq_false_iff_not] at h29; omega)
              all_goals
                refine e_iload_n dX11_wordEnd_38 rfl rfl ?_
                refine e_ret (some _) rfl (r_int dX11_wordEnd_39 rfl) ?_
                exact xq rfl rfl rfl rfl rfl rfl
            · try first | contradiction | omega | (simp only [decide_eq_true_eq, decide_eq_false_iff_not] at h29; omega)
              all_goals
                exact absurd (of_decide_eq_true h29) hp
  refine e_aload_n dX11_wordEnd_0 rfl rfl ?_
  refine e_getI dX11_wordEnd_1 fl_X11_229 rfl ?_
  rw [psF_11]
  refine e_istore_n dX11_wordEnd_4 rfl (Nat.le_of_ble_eq_true rfl) rfl ?_
  exact key _ s.1 rfl hs
