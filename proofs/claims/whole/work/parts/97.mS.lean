theorem mW_sA {ai : FI} {w : Nat → Nat} {a : Nat} {f : Nat → Int32} (h : a ≠ rf 32 81) : sA (mW ai w) a f = mW (sA ai a f) w := by
  funext q
  unfold sA mW
  by_cases hq : q = rf 32 81
  · subst hq
    rw [if_neg (fun z => h z.symm), if_pos rfl, if_pos rfl]
  · rw [if_neg hq, if_neg hq]
theorem ps_new (fi : FI) (f : Nat → Int32) : up2 (up2 (up2 (up2 (up2 (up2 fi (32 * 11 + 15) (rf 11 80) (nI 0)) (32 * 11 + 12) (rf 11 80) (nI 0)) (32 * 11 + 13) (rf 11 80) (-1)) (32 * 11 + 14) (rf 11 80) (-1)) (32 * 11 + 17) (rf 11 80) (nI 0)) (32 * 11 + 11) (rf 11 80) (nI 0) = psF (up2 fi (32 * 11 + 14) (rf 11 80) (-1)) (0, false, nI 0, -1, 0, f) := by
  funext g r
  by_cases hr : r = rf 11 80
  · subst hr
    simp only [up2, psF, and_true, if_true]
    repeat' split
    all_goals first | rfl | omega | contradiction
  · simp only [up2, psF, hr, and_false, if_false]
theorem ps_u {fi : FI} {s : PS} {g : Nat} {v : Int32} (h : g ≠ 32 * 11 + 11 ∧ g ≠ 32 * 11 + 15 ∧ g ≠ 32 * 11 + 12 ∧ g ≠ 32 * 11 + 13 ∧ g ≠ 32 * 11 + 17) : up2 (psF fi s) g (rf 11 80) v = psF (up2 fi g (rf 11 80) v) s := by
  obtain ⟨h1, h2, h3, h4, h5⟩ := h
  funext q r
  by_cases hr : r = rf 11 80
  · subst hr
    simp only [up2, psF, and_true, if_true]
    repeat' split
    all_goals first | rfl | omega | contradiction
  · simp only [up2, psF, hr, and_false, if_false]
/-- the reference's reading, so many clauses at most -/
def rpL (tp : Nat → Nat) (t : Nat) : Nat → PS → PS
  | 0, s => s
  | k + 1, s => if s.1 < t ∧ s.2.1 = false then rpL tp t k (skb tp t (rdS tp t s).1, (rdS tp t s).2) else s
theorem rpL_le {tp : Nat → Nat} {t : Nat} : ∀ (k : Nat) {s : PS}, s.1 ≤ t → s.2.2.2.2.1 ≤ 40 → (rpL tp t k s).1 ≤ t ∧ (rpL tp t k s).2.2.2.2.1 ≤ 40
  | 0, s, h, hc => ⟨h, hc⟩
  | k + 1, s, h, hc => by
    unfold rpL
    split
    · have h1 := rdS_le (tp := tp) h hc
      exact rpL_le k (s := (skb tp t (rdS tp t s).1, (rdS tp t s).2)) (skb_le tp h1.1).2 h1.2.2
    · exact ⟨h, hc⟩
theorem rp_loop {fi : FI} {fr : FR} {ai : FI} {ar : FR} {N : Nat} (sm : SM fr) {tp : Nat → Nat} {t : Nat} (ht : fi (32 * 11 + 10) (rf 11 80) = nI t) (ht4 : t ≤ 400) (hT : ∀ i, i < t → ai (rf 35 87) i = sB (tp i)) (hb : ∀ i, tp i < 256) {Q : EQ} {sF : PS} (fin : EV mX11_script 9 0 0 63 [some (.ref (rf 11 80)), none] [] (psF fi sF) fr (sA ai (rf 36 88) sF.2.2.2.2.2) ar N Q) : ∀ (k : Nat) (s : PS), rpL tp t k s = sF → s.1 ≤ t → s.2.2.2.2.1 ≤ 40 → (s.2.1 = false → t < s.1 + k) → EV mX11_script 9 0 0 34 [some (.ref (rf 11 80)), none] [] (psF fi s) fr (sA ai (rf 36 88) s.2.2.2.2.2) ar N Q := by
  have hTs : ∀ (f : Nat → Int32) i, i < t → sA ai (rf 36 88) f (rf 35 87) i = sB (tp i) := fun f i hi => by rw [sA_o (by decide)]; exact hT i hi
  intro k
  induction k with
  | zero =>
    intro s e hs hc hk
    have e' : s = sF := e
    subst e'
    cases hw : s.2.1 with
    | false => exact absurd (hk hw) (by omega)
    | true =>
      refine e_aload_n dX11_script_34 rfl rfl ?_
      refine e_getI dX11_script_35 fl_X11_229 rfl ?_
      rw [psF_11]
      refine e_aload_n dX11_script_38 rfl rfl ?_
      refine e_getI dX11_script_39 fl_X11_217 rfl ?_
      rw [psF_10, ht]
      first | ((with_reducible refine mk_nn ?_); refine n_icmp_ge (tgt := 63) dX11_script_42 (by decide) (by omega) (by omega) (fun h42 => ?_) (fun h42 => ?_)) | refine e_icmp_ge (tgt := 63) dX11_script_42 (by decide) (fun h42 => ?_) (fun h42 => ?_)
      · try first | contradiction | omega
        all_goals
          exact fin
      · try first | contradiction | omega
        all_goals
          refine e_aload_n dX11_script_45 rfl rfl ?_
          refine e_getI dX11_script_46 fl_X11_223 rfl ?_
          rw [psF_15, hw]
          first | ((with_reducible refine mk_b ?_); refine b_if_ne (tgt := 63) dX11_script_49 (by decide) (fun h49 => ?_) (fun h49 => ?_)) | ((with_reducible refine mk_ll ?_); refine m_if_ne (tgt := 63) dX11_script_49 (by decide) (by omega) (by omega) (fun h49 => ?_) (fun h49 => ?_)) | ((with_reducible refine mk_lc ?_); refine l_if_ne (tgt := 63) dX11_script_49 (by decide) (fun h49 => ?_) (fun h49 => ?_)) | ((with_reducible refine mk_n ?_); refine n_if_ne (tgt := 63) dX11_script_49 (by decide) (by omega) (fun h49 => ?_) (fun h49 => ?_)) | refine e_if_ne (tgt := 63) dX11_script_49 (by decide) (fun h49 => ?_) (fun h49 => ?_)
          · try first | contradiction | omega | (simp only [decide_eq_true_eq, decide_eq_false_iff_not] at h49; omega)
            all_goals
              exact fin
          · try first | contradiction | omega | (simp only [decide_eq_true_eq, decide_eq_false_iff_not] at h49; omega)
            all_goals
              contradiction
  | succ k ih =>
    intro s e hs hc hk
    by_cases hz : s.1 < t ∧ s.2.1 = false
    · have e1 : rpL tp t (k + 1) s = rpL tp t k (skb tp t (rdS tp t s).1, (rdS tp t s).2) := if_pos hz
      rw [e1] at e
      have hle := rdS_le (tp := tp) hs hc
      have hsk := skb_le tp hle.1
      have nxt : EV mX11_script 9 0 0 52 [some (.ref (rf 11 80)), none] [] (psF fi s) fr (sA ai (rf 36 88) s.2.2.2.2.2) ar N Q := by
        refine e_aload_n dX11_script_52 rfl rfl ?_
        refine y_V0 (M' := mX11_reads) dX11_script_53 ml_X11_308 ok_X11_reads (by decide) rfl im_X11_reads se_X11_reads (ct_X11_reads sm ht ht4 hT hb hs hz.2 hc) (Nat.le_of_ble_eq_true rfl) (by decide) (Nat.le_of_ble_eq_true rfl) ?_
        refine e_aload_n dX11_script_56 rfl rfl ?_
        refine y_V0 (M' := mX11_blanks) dX11_script_57 ml_X11_243 ok_X11_blanks (by decide) rfl im_X11_blanks se_X11_blanks (ct_X11_blanks sm ht ht4 (hTs _) hb hle.1) (Nat.le_of_ble_eq_true rfl) (by decide) (Nat.le_of_ble_eq_true rfl) ?_
        refine e_goto (tgt := 34) dX11_script_60 (by decide) ?_
        exact ih (skb tp t (rdS tp t s).1, (rdS tp t s).2) e hsk.2 hle.2.2 (fun hw => by have h1 := hle.2.1 hw; have h2 := hk hz.2; show t < skb tp t (rdS tp t s).1 + k; omega)
      refine e_aload_n dX11_script_34 rfl rfl ?_
      refine e_getI dX11_script_35 fl_X11_229 rfl ?_
      rw [psF_11]
      refine e_aload_n dX11_script_38 rfl rfl ?_
      refine e_getI dX11_script_39 fl_X11_217 rfl ?_
      rw [psF_10, ht]
      first | ((with_reducible refine mk_nn ?_); refine n_icmp_ge (tgt := 63) dX11_script_42 (by decide) (by omega) (by omega) (fun h42 => ?_) (fun h42 => ?_)) | refine e_icmp_ge (tgt := 63) dX11_script_42 (by decide) (fun h42 => ?_) (fun h42 => ?_)
      · try first | contradiction | omega
        all_goals
          first | omega | contradiction
      · try first | contradiction | omega
        all_goals
          refine e_aload_n dX11_script_45 rfl rfl ?_
          refine e_getI dX11_script_46 fl_X11_223 rfl ?_
          rw [psF_15, hz.2]
          first | ((with_reducible refine mk_b ?_); refine b_if_ne (tgt := 63) dX11_script_49 (by decide) (fun h49 => ?_) (fun h49 => ?_)) | ((with_reducible refine mk_ll ?_); refine m_if_ne (tgt := 63) dX11_script_49 (by decide) (by omega) (by omega) (fun h49 => ?_) (fun h49 => ?_)) | ((with_reducible refine mk_lc ?_); refine l_if_ne (tgt := 63) dX11_script_49 (by decide) (fun h49 => ?_) (fun h49 => ?_)) | ((with_reducible refine mk_n ?_); refine n_if_ne (tgt := 63) dX11_script_49 (by decide) (by omega) (fun h49 => ?_) (fun h49 => ?_)) | refine e_if_ne (tgt := 63) dX11_script_49 (by decide) (fun h49 => ?_) (fun h49 => ?_)
          · try first | contradiction | omega | (simp only [decide_eq_true_eq, decide_eq_false_iff_not] at h49; omega)
            all_goals
              first | omega | contradiction
          · try first | contradiction | omega | (simp only [decide_eq_true_eq, decide_eq_false_iff_not] at h49; omega)
            all_goals
              exact nxt
    · have e1 : rpL tp t (k + 1) s = s := if_neg hz
      rw [e1] at e
      subst e
      refine e_aload_n dX11_script_34 rfl rfl ?_
      refine e_getI dX11_script_35 fl_X11_229 rfl ?_
      rw [psF_11]
      refine e_aload_n dX11_script_38 rfl rfl ?_
      refine e_getI dX11_script_39 fl_X11_217 rfl ?_
      rw [psF_10, ht]
      first | ((with_reducible refine mk_nn ?_); refine n_icmp_ge (tgt := 63) dX11_script_42 (by decide) (by omega) (by omega) (fun h42 => ?_) (fun h42 => ?_)) | refine e_icmp_ge (tgt := 63) dX11_script_42 (by decide) (fun h42 => ?_) (fun h42 => ?_)
      · try first | contradiction | omega
        all_goals
          exact fin
      · try first | contradiction | omega
        all_goals
          refine e_aload_n dX11_script_45 rfl rfl ?_
          refine e_getI dX11_script_46 fl_X11_223 rfl ?_
          rw [psF_15]
          first | ((with_reducible refine mk_b ?_); refine b_if_ne (tgt := 63) dX11_script_49 (by decide) (fun h49 => ?_) (fun h49 => ?_)) | ((with_reducible refine mk_ll ?_); refine m_if_ne (tgt := 63) dX11_script_49 (by decide) (by omega) (by omega) (fun h49 => ?_) (fun h49 => ?_)) | ((with_reducible refine mk_lc ?_); refine l_if_ne (tgt := 63) dX11_script_49 (by decide) (fun h49 => ?_) (fun h49 => ?_)) | ((with_reducible refine mk_n ?_); refine n_if_ne (tgt := 63) dX11_script_49 (by decide) (by omega) (fun h49 => ?_) (fun h49 => ?_)) | refine e_if_ne (tgt := 63) dX11_script_49 (by decide) (fun h49 => ?_) (fun h49 => ?_)
          · try first | contradiction | omega | (simp only [decide_eq_true_eq, decide_eq_false_iff_not] at h49; omega)
            all_goals
              exact fin
          · try first | contradiction | omega | (simp only [decide_eq_true_eq, decide_eq_false_iff_not] at h49; omega)
            all_goals
              exact absurd ⟨by omega, by first | assumption | (cases hh : s.2.1 <;> simp_all)⟩ hz
def rp0 (tp : Nat → Nat) (t : Nat) (f : Nat → Int32) : PS := (skb tp t 0, false, nI 0, -1, 0, f)
def rpS (tp : Nat → Nat) (t : Nat) (f : Nat → Int32) : PS := rpL tp t 402 (rp0 tp t f)
def xsF (fi : FI) (m c u : Nat) : FI := (fun g => if 0 < m then up2 g (32 * 11 + 4) (rf 11 80) (nI (u1 u)) else g) (up2 (up2 fi (32 * 11 + 8) (rf 11 80) (nI 0)) (32 * 11 + 14) (rf 11 80) (if m < c then nI m else -1))
theorem xs_110 {fi : FI} {fr : FR} {ai : FI} {ar : FR} {N : Nat} {w : Nat → Nat} (sm : SM fr) {m c u : Nat} {Q : EQ} (hc : fi (32 * 11 + 17) (rf 11 80) = nI c) (hc4 : c ≤ 40) (hm : m ≤ c) (hu : fi (32 * 11 + 4) (rf 11 80) = nI u) (hu6 : u ≤ 6)
    (hq : Q (some (.int (nI m))) (xsF fi m c u) fr (mW (if 0 < m then sA ai (rf 33 84) (reU (ai (rf 33 84)) u (ai (rf 32 82))) else ai) w) ar N) : EV mX11_script 9 0 0 110 [some (.ref (rf 11 80)), some (.int (nI m))] [] fi fr (mW ai w) ar N Q := by
  obtain ⟨sW, sA0, sK, sU, sC, sKC, sT, sCl⟩ := id sm
  have key : ∀ x, x = (if m < c then nI m else (-1 : Int32)) → EV mX11_script 9 0 0 132 [some (.ref (rf 11 80)), some (.int (nI m))] [] (up2 (up2 fi (32 * 11 + 8) (rf 11 80) (nI 0)) (32 * 11 + 14) (rf 11 80) x) fr (mW ai w) ar N Q := by
    intro x hx
    subst hx
    have hu2 : up2 (up2 fi (32 * 11 + 8) (rf 11 80) (nI 0)) (32 * 11 + 14) (rf 11 80) (if m < c then nI m else -1) (32 * 11 + 4) (rf 11 80) = nI u := by rw [up2_n _ _ (by decide), up2_n _ _ (by decide)]; exact hu
    by_cases h0 : 0 < m
    · rw [if_pos h0] at hq
      have e : xsF fi m c u = up2 (up2 (up2 fi (32 * 11 + 8) (rf 11 80) (nI 0)) (32 * 11 + 14) (rf 11 80) (if m < c then nI m else -1)) (32 * 11 + 4) (rf 11 80) (nI (u1 u)) := if_pos h0
      rw [e] at hq
      have last : EV mX11_script 9 0 0 144 [some (.ref (rf 11 80)), some (.int (nI m))] [] (up2 (up2 (up2 fi (32 * 11 + 8) (rf 11 80) (nI 0)) (32 * 11 + 14) (rf 11 80) (if m < c then nI m else -1)) (32 * 11 + 4) (rf 11 80) (nI (u1 u))) fr (mW (sA ai (rf 33 84) (reU (ai (rf 33 84)) u (ai (rf 32 82)))) w) ar N Q := by
        refine e_iload_n dX11_script_144 rfl rfl ?_
        refine e_ret (some _) rfl (r_int dX11_script_145 rfl) ?_
        exact hq
      refine e_iload_n dX11_script_132 rfl rfl ?_
      first | ((with_reducible refine mk_ll ?_); refine m_if_le (tgt := 144) dX11_script_133 (by decide) (by omega) (by omega) (fun h133 => ?_) (fun h133 => ?_)) | ((with_reducible refine mk_lc ?_); refine l_if_le (tgt := 144) dX11_script_133 (by decide) (fun h133 => ?_) (fun h133 => ?_)) | ((with_reducible refine mk_n ?_); refine n_if_le (tgt := 144) dX11_script_133 (by decide) (by omega) (fun h133 => ?_) (fun h133 => ?_)) | refine e_if_le (tgt := 144) dX11_script_133 (by decide) (fun h133 => ?_) (fun h133 => ?_)
      · try first | contradiction | omega
        all_goals
          first | omega | exact last
      · try first | contradiction | omega
        all_goals
          refine e_aload_n dX11_script_136 rfl rfl ?_
          refine e_aload_n dX11_script_137 rfl rfl ?_
          refine e_getR dX11_script_138 fl_X11_13 rfl (by assumption) ?_
          refine y_V1 (M' := mX11_remembers) dX11_script_141 ml_X11_114 ok_X11_remembers (by decide) rfl im_X11_remembers se_X11_remembers (ct_rememA sm hu2 hu6 rfl) (Nat.le_of_ble_eq_true rfl) (by decide) (Nat.le_of_ble_eq_true rfl) ?_
          first | omega | exact last
    · rw [if_neg h0] at hq
      have e : xsF fi m c u = up2 (up2 fi (32 * 11 + 8) (rf 11 80) (nI 0)) (32 * 11 + 14) (rf 11 80) (if m < c then nI m else -1) := if_neg h0
      rw [e] at hq
      refine e_iload_n dX11_script_132 rfl rfl ?_
      first | ((with_reducible refine mk_ll ?_); refine m_if_le (tgt := 144) dX11_script_133 (by decide) (by omega) (by omega) (fun h133 => ?_) (fun h133 => ?_)) | ((with_reducible refine mk_lc ?_); refine l_if_le (tgt := 144) dX11_script_133 (by decide) (fun h133 => ?_) (fun h133 => ?_)) | ((with_reducible refine mk_n ?_); refine n_if_le (tgt := 144) dX11_script_133 (by decide) (by omega) (fun h133 => ?_) (fun h133 => ?_)) | refine e_if_le (tgt := 144) dX11_script_133 (by decide) (fun h133 => ?_) (fun h133 => ?_)
      · try first | contradiction | omega
        all_goals
          refine e_iload_n dX11_script_144 rfl rfl ?_
          refine e_ret (some _) rfl (r_int dX11_script_145 rfl) ?_
          exact hq
      · try first | contradiction | omega
        all_goals
          omega
  refine e_aload_n dX11_script_110 rfl rfl ?_
  refine e_iconst (v := nI 0) dX11_script_111 rfl ?_
  refine e_putI dX11_script_112 fl_X11_110 rfl rfl rfl rfl ?_
  refine e_aload_n dX11_script_115 rfl rfl ?_
  refine e_iload_n dX11_script_116 rfl rfl ?_
  refine e_aload_n dX11_script_117 rfl rfl ?_
  refine e_getI dX11_script_118 fl_X11_257 rfl ?_
  rw [up2_n _ _ (by decide), hc]
  first | ((with_reducible refine mk_nn ?_); refine n_icmp_ge (tgt := 128) dX11_script_121 (by decide) (by omega) (by omega) (fun h121 => ?_) (fun h121 => ?_)) | refine e_icmp_ge (tgt := 128) dX11_script_121 (by decide) (fun h121 => ?_) (fun h121 => ?_)
  · try first | contradiction | omega
    all_goals
      refine e_iconst (v := -1) dX11_script_128 rfl ?_
      refine e_putI dX11_script_129 fl_X11_37 rfl rfl rfl rfl ?_
      exact key _ (by first | (rw [if_pos (by omega)]) | (rw [if_neg (by omega)]))
  · try first | contradiction | omega
    all_goals
      refine e_iload_n dX11_script_124 rfl rfl ?_
      refine e_goto (tgt := 129) dX11_script_125 (by decide) ?_
      refine e_putI dX11_script_129 fl_X11_37 rfl rfl rfl rfl ?_
      exact key _ (by first | (rw [if_pos (by omega)]) | (rw [if_neg (by omega)]))
theorem xs_loop {fi : FI} {fr : FR} {ar : FR} {N : Nat} {cl : Nat → Nat × Int32 × Int32 × Int32} (sm : SM fr) {c u : Nat} (hc : fi (32 * 11 + 17) (rf 11 80) = nI c) (hc4 : c ≤ 40) (hu : fi (32 * 11 + 4) (rf 11 80) = nI u) (hu6 : u ≤ 6) (hsc : fi (32 * 11 + 8) (rf 11 80) = bI true) : ∀ (k m : Nat) (w : Nat → Nat) (ai : FI), m + k = c → GW w → (∀ i, i < c → ai (rf 36 88) (4 * i) = nI (cl i).1 ∧ (cl i).1 < 15 ∧ ai (rf 36 88) (4 * i + 1) = (cl i).2.1 ∧ ai (rf 36 88) (4 * i + 2) = (cl i).2.2.1 ∧ ai (rf 36 88) (4 * i + 3) = (cl i).2.2.2) → w 0 + evS cl k m < 1999 → (∀ j, j < 1000 → w (106 + j) + 2 * k + 2 ≤ 100000) → EV mX11_script 9 0 0 88 [some (.ref (rf 11 80)), some (.int (nI m))] [] fi fr (mW ai w) ar N (fun r fi' fr' ai' ar' N' => r = some (.int (nI (exR cl k m w).1)) ∧ fi' = xsF fi (exR cl k m w).1 c u ∧ fr' = fr ∧ ar' = ar ∧ N' = N ∧ ai' (rf 32 81) = (fun i => nI ((exR cl k m w).2 i)) ∧ ai' (rf 33 84) = (if 0 < (exR cl k m w).1 then reU (ai (rf 33 84)) u (ai (rf 32 82)) else ai (rf 33 84)) ∧ (∀ a, a ≠ rf 32 81 → a ≠ rf 33 84 → a ≠ rf 34 85 → ai' a = ai a) ∧ ∀ lg, CHG (ai (rf 34 85)) lg (w 0) → CHG (ai' (rf 34 85)) (exRG cl k m w lg) ((exR cl k m w).2 0)) := by
  intro k
  induction k with
  | zero =>
    intro m w ai hm gw hcl he hw
    refine e_iload_n dX11_script_88 rfl rfl ?_
    refine e_aload_n dX11_script_89 rfl rfl ?_
    refine e_getI dX11_script_90 fl_X11_257 rfl ?_
    rw [hc]
    first | ((with_reducible refine mk_nn ?_); refine n_icmp_ge (tgt := 110) dX11_script_93 (by decide) (by omega) (by omega) (fun h93 => ?_) (fun h93 => ?_)) | refine e_icmp_ge (tgt := 110) dX11_script_93 (by decide) (fun h93 => ?_) (fun h93 => ?_)
    · try first | contradiction | omega
      all_goals
        exact xs_110 sm hc hc4 (by omega) hu hu6 ⟨rfl, rfl, rfl, rfl, rfl, rfl, by (show (if 0 < m then sA ai (rf 33 84) (reU (ai (rf 33 84)) u (ai (rf 32 82))) else ai) (rf 33 84) = if 0 < m then _ else _); split <;> first | exact sA_s _ _ _ | rfl, fun a h1 h2 h3 => by (show (if a = rf 32 81 then _ else (if 0 < m then sA ai (rf 33 84) (reU (ai (rf 33 84)) u (ai (rf 32 82))) else ai) a) = _); rw [if_neg h1]; split <;> first | exact sA_o h2 | rfl, fun lg h => by (show CHG ((if 0 < m then sA ai (rf 33 84) (reU (ai (rf 33 84)) u (ai (rf 32 82))) else ai) (rf 34 85)) lg (w 0)); split <;> first | (rw [sA_o (by decide)]; exact h) | exact h⟩
    · try first | contradiction | omega
      all_goals
        omega
  | succ k ih =>
    intro m w ai hm gw hcl he hw
    have hv := hcl m (by omega)
    have he' : w 0 + (evN (cl m).1 + evS cl k (m + 1)) < 1999 := he
    have h01 : w 0 < 1999 := by omega
    have hw2 : ∀ j, j < 1000 → w (106 + j) + 2 ≤ 100000 := fun j hj => by have := hw j hj; omega
    have tr := ex_T (x := (cl m).2.1) (y := (cl m).2.2.1) (z := (cl m).2.2.2) gw h01 hw2 hv.2.1
    have hC := fun lg h => ex_C (u := u) (ai := ai) (lg := lg) (x := (cl m).2.1) (y := (cl m).2.2.1) (z := (cl m).2.2.2) gw h01 hw2 h hv.2.1
    have hO : ∀ a, a ≠ rf 34 85 → (exO u (cl m).1 (cl m).2.1 (cl m).2.2.1 (cl m).2.2.2 w ai).2.2 a = ai a := exO_o hv.2.1
    have hD := ct_X11_isDone (fi := fi) (fr := fr) (ar := ar) (N := N) sm gw.1 (c := m) (u := u) (by omega) hv.2.1 hv.1 hv.2.2.1 hv.2.2.2.1 hv.2.2.2.2 hu hu6 hsc hw2 h01
    rw [exO_B hv.2.1, exO_W hv.2.1] at hD
    generalize hai2 : (exO u (cl m).1 (cl m).2.1 (cl m).2.2.1 (cl m).2.2.2 w ai).2.2 = ai2 at hD hO hC
    have hcl2 : ∀ i, i < c → ai2 (rf 36 88) (4 * i) = nI (cl i).1 ∧ (cl i).1 < 15 ∧ ai2 (rf 36 88) (4 * i + 1) = (cl i).2.1 ∧ ai2 (rf 36 88) (4 * i + 2) = (cl i).2.2.1 ∧ ai2 (rf 36 88) (4 * i + 3) = (cl i).2.2.2 := fun i hi => by rw [hO _ (by decide)]; exact hcl i hi
    cases hB : exB (cl m).1 (cl m).2.1 (cl m).2.2.1 (cl m).2.2.2 w with
    | true =>
      rw [hB] at hD
      have e1 : exR cl (k + 1) m w = exR cl k (m + 1) (exW (cl m).1 (cl m).2.1 (cl m).2.2.1 (cl m).2.2.2 w) := if_pos hB
      have e2 : ∀ lg, exRG cl (k + 1) m w lg = exRG cl k (m + 1) (exW (cl m).1 (cl m).2.1 (cl m).2.2.1 (cl m).2.2.2 w) (exG (cl m).1 (cl m).2.1 (cl m).2.2.1 w lg) := fun lg => if_pos hB
      have ih := ih (m + 1) (exW (cl m).1 (cl m).2.1 (cl m).2.2.1 (cl m).2.2.2 w) ai2 (by omega) tr.1 hcl2 (by have := tr.2.2.1; omega) (fun j hj => by have := tr.2.2.2 j hj; have := hw j hj; omega)
      refine e_iload_n dX11_script_88 rfl rfl ?_
      refine e_aload_n dX11_script_89 rfl rfl ?_
      refine e_getI dX11_script_90 fl_X11_257 rfl ?_
      rw [hc]
      first | ((with_reducible refine mk_nn ?_); refine n_icmp_ge (tgt := 110) dX11_script_93 (by decide) (by omega) (by omega) (fun h93 => ?_) (fun h93 => ?_)) | refine e_icmp_ge (tgt := 110) dX11_script_93 (by decide) (fun h93 => ?_) (fun h93 => ?_)
      · try first | contradiction | omega
        all_goals
          first | omega | contradiction
      · try first | contradiction | omega
        all_goals
          refine e_aload_n dX11_script_96 rfl rfl ?_
          refine e_iload_n dX11_script_97 rfl rfl ?_
          refine x_V1 (M' := mX11_isDone) dX11_script_98 ml_X11_314 ok_X11_isDone (by decide) rfl im_X11_isDone se_X11_isDone (hD) (Nat.le_of_ble_eq_true rfl) (by decide) (Nat.le_of_ble_eq_true rfl) ?_
          first | ((with_reducible refine mk_b ?_); refine b_if_eq (tgt := 110) dX11_script_101 (by decide) (fun h101 => ?_) (fun h101 => ?_)) | ((with_reducible refine mk_ll ?_); refine m_if_eq (tgt := 110) dX11_script_101 (by decide) (by omega) (by omega) (fun h101 => ?_) (fun h101 => ?_)) | ((with_reducible refine mk_lc ?_); refine l_if_eq (tgt := 110) dX11_script_101 (by decide) (fun h101 => ?_) (fun h101 => ?_)) | ((with_reducible refine mk_n ?_); refine n_if_eq (tgt := 110) dX11_script_101 (by decide) (by omega) (fun h101 => ?_) (fun h101 => ?_)) | refine e_if_eq (tgt := 110) dX11_script_101 (by decide) (fun h101 => ?_) (fun h101 => ?_)
          · try first | contradiction | omega | (simp only [decide_eq_true_eq, decide_eq_false_iff_not] at h101; omega)
            all_goals
              first | omega | contradiction
          · try first | contradiction | omega | (simp only [decide_eq_true_eq, decide_eq_false_iff_not] at h101; omega)
            all_goals
              first | refine n_inc dX11_script_104 rfl (Nat.le_of_ble_eq_true rfl) rfl ?_ | refine e_iinc dX11_script_104 rfl rfl (Nat.le_of_ble_eq_true rfl) rfl ?_
              refine e_goto (tgt := 88) dX11_script_107 (by decide) ?_
              refine EV_mono ih (fun r fi' fr' ai' ar' N' q => ?_)
              rw [e1]
              obtain ⟨q1, q2, q3, q4, q5, q6, q7, q8, q9⟩ := q
              refine ⟨q1, q2, q3, q4, q5, q6, ?_, fun a h1 h2 h3 => ?_, fun lg h => ?_⟩
              · rw [q7, hO _ (by decide), hO _ (by decide)]
              · rw [q8 a h1 h2 h3, hO a h3]
              · rw [e2]
                exact q9 _ (hC lg h).1
    | false =>
      rw [hB] at hD
      have e1 : exR cl (k + 1) m w = (m, exW (cl m).1 (cl m).2.1 (cl m).2.2.1 (cl m).2.2.2 w) := if_neg (by rw [hB]; exact Bool.noConfusion)
      have e2 : ∀ lg, exRG cl (k + 1) m w lg = exG (cl m).1 (cl m).2.1 (cl m).2.2.1 w lg := fun lg => if_neg (by rw [hB]; exact Bool.noConfusion)
      rw [e1]
      refine e_iload_n dX11_script_88 rfl rfl ?_
      refine e_aload_n dX11_script_89 rfl rfl ?_
      refine e_getI dX11_script_90 fl_X11_257 rfl ?_
      rw [hc]
      first | ((with_reducible refine mk_nn ?_); refine n_icmp_ge (tgt := 110) dX11_script_93 (by decide) (by omega) (by omega) (fun h93 => ?_) (fun h93 => ?_)) | refine e_icmp_ge (tgt := 110) dX11_script_93 (by decide) (fun h93 => ?_) (fun h93 => ?_)
      · try first | contradiction | omega
        all_goals
          first | omega | exact xs_110 sm hc hc4 (by omega) hu hu6 ⟨rfl, rfl, rfl, rfl, rfl, rfl, by (show (if 0 < m then sA ai2 (rf 33 84) (reU (ai2 (rf 33 84)) u (ai2 (rf 32 82))) else ai2) (rf 33 84) = if 0 < m then _ else _); rw [hO (rf 33 84) (by decide), hO (rf 32 82) (by decide)]; split <;> first | exact sA_s _ _ _ | rfl | exact hO _ (by decide), fun a h1 h2 h3 => by (show (if a = rf 32 81 then _ else (if 0 < m then sA ai2 (rf 33 84) (reU (ai2 (rf 33 84)) u (ai2 (rf 32 82))) else ai2) a) = _); rw [if_neg h1, ← hO a h3]; split <;> first | exact sA_o h2 | rfl, fun lg h => by (rw [e2]; show CHG ((if 0 < m then sA ai2 (rf 33 84) (reU (ai2 (rf 33 84)) u (ai2 (rf 32 82))) else ai2) (rf 34 85)) _ _); split <;> first | (rw [sA_o (by decide)]; exact (hC lg h).1) | exact (hC lg h).1⟩
      · try first | contradiction | omega
        all_goals
          refine e_aload_n dX11_script_96 rfl rfl ?_
          refine e_iload_n dX11_script_97 rfl rfl ?_
          refine x_V1 (M' := mX11_isDone) dX11_script_98 ml_X11_314 ok_X11_isDone (by decide) rfl im_X11_isDone se_X11_isDone (hD) (Nat.le_of_ble_eq_true rfl) (by decide) (Nat.le_of_ble_eq_true rfl) ?_
          first | ((with_reducible refine mk_b ?_); refine b_if_eq (tgt := 110) dX11_script_101 (by decide) (fun h101 => ?_) (fun h101 => ?_)) | ((with_reducible refine mk_ll ?_); refine m_if_eq (tgt := 110) dX11_script_101 (by decide) (by omega) (by omega) (fun h101 => ?_) (fun h101 => ?_)) | ((with_reducible refine mk_lc ?_); refine l_if_eq (tgt := 110) dX11_script_101 (by decide) (fun h101 => ?_) (fun h101 => ?_)) | ((with_reducible refine mk_n ?_); refine n_if_eq (tgt := 110) dX11_script_101 (by decide) (by omega) (fun h101 => ?_) (fun h101 => ?_)) | refine e_if_eq (tgt := 110) dX11_script_101 (by decide) (fun h101 => ?_) (fun h101 => ?_)
          · try first | contradiction | omega | (simp only [decide_eq_true_eq, decide_eq_false_iff_not] at h101; omega)
            all_goals
              first | omega | exact xs_110 sm hc hc4 (by omega) hu hu6 ⟨rfl, rfl, rfl, rfl, rfl, rfl, by (show (if 0 < m then sA ai2 (rf 33 84) (reU (ai2 (rf 33 84)) u (ai2 (rf 32 82))) else ai2) (rf 33 84) = if 0 < m then _ else _); rw [hO (rf 33 84) (by decide), hO (rf 32 82) (by decide)]; split <;> first | exact sA_s _ _ _ | rfl | exact hO _ (by decide), fun a h1 h2 h3 => by (show (if a = rf 32 81 then _ else (if 0 < m then sA ai2 (rf 33 84) (reU (ai2 (rf 33 84)) u (ai2 (rf 32 82))) else ai2) a) = _); rw [if_neg h1, ← hO a h3]; split <;> first | exact sA_o h2 | rfl, fun lg h => by (rw [e2]; show CHG ((if 0 < m then sA ai2 (rf 33 84) (reU (ai2 (rf 33 84)) u (ai2 (rf 32 82))) else ai2) (rf 34 85)) _ _); split <;> first | (rw [sA_o (by decide)]; exact (hC lg h).1) | exact (hC lg h).1⟩
          · try first | contradiction | omega | (simp only [decide_eq_true_eq, decide_eq_false_iff_not] at h101; omega)
            all_goals
              contradiction
