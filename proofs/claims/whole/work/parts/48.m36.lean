theorem EV_ai {M : MD} {d k z pc : Nat} {ls : List (Option Value)} {st : List Value} {fi : FI} {fr : FR} {ai ai' : FI} {ar : FR} {N : Nat} {Q : EQ} (he : ai' = ai) (h : EV M d k z pc ls st fi fr ai ar N Q) : EV M d k z pc ls st fi fr ai' ar N Q := he ▸ h
def clS (s : PS) (i : Nat) (x : Int32) : PS := (s.1, s.2.1, s.2.2.1, s.2.2.2.1, s.2.2.2.2.1, upd s.2.2.2.2.2 i x)
def nmS (tp : Nat → Nat) (t b : Nat) : Nat → PS → PS
  | 0, s => s
  | k + 1, s => clS (nuS tp t (nmS tp t b k s)).2 (b + 1 + k) (nI (nuS tp t (nmS tp t b k s)).1)
def rd1 (tp : Nat → Nat) (t : Nat) (s : PS) (v : Nat) : PS := nmS tp t (4 * s.2.2.2.2.1) (nuN v) (clS (wnd tp t s.1, s.2) (4 * s.2.2.2.2.1) (nI v))
def rd2 (tp : Nat → Nat) (t : Nat) (s : PS) : PS := if skb tp t s.1 < t ∧ tp (skb tp t s.1) = 59 then (skb tp t s.1 + 1, s.2.1, s.2.2.1, s.2.2.2.1, s.2.2.2.2.1 + 1, s.2.2.2.2.2) else wrS (skb tp t s.1, s.2.1, s.2.2.1, s.2.2.2.1, s.2.2.2.2.1 + 1, s.2.2.2.2.2) (nI 1) (nI (skb tp t s.1))
def rdS (tp : Nat → Nat) (t : Nat) (s : PS) : PS := match vbO tp (wnd tp t s.1) s.1 with
  | none => wrS s (nI 1) (nI s.1)
  | some v => if s.2.2.2.2.1 = 40 then wrS s (nI 3) (nI s.1) else rd2 tp t (rd1 tp t s v)
theorem nuN_le (v : Nat) : nuN v ≤ 3 := by
  unfold nuN
  repeat' split
  all_goals omega
theorem wrS_1 (s : PS) (k p : Int32) : (wrS s k p).1 = s.1 ∧ (wrS s k p).2.2.2.2 = s.2.2.2.2 ∧ (wrS s k p).2.1 = true := by
  unfold wrS
  split
  · rename_i h; exact ⟨rfl, rfl, h⟩
  · exact ⟨rfl, rfl, rfl⟩
theorem nuS_le {tp : Nat → Nat} {t : Nat} {s : PS} (h : s.1 ≤ t) : s.1 ≤ (nuS tp t s).2.1 ∧ (nuS tp t s).2.1 ≤ t ∧ (nuS tp t s).2.2.2.2.2 = s.2.2.2.2 ∧ (nuS tp t s).1 ≤ 999999 ∧ ((nuS tp t s).2.2.1 = false → s.2.1 = false) := by
  have hk := skb_le tp h
  have hd := dgF_le tp (t - skb tp t s.1) (skb tp t s.1) 0 (by omega)
  unfold nuS
  split
  · rename_i hw
    exact ⟨Nat.le_refl _, h, rfl, Nat.zero_le _, fun z => z⟩
  · rename_i hw
    refine ⟨?_, ?_, ?_, hd.2.2, fun _ => by simpa using hw⟩
    · dsimp only
      split
      · rw [(wrS_1 _ _ _).1]; exact Nat.le_trans hk.1 hd.1
      · split
        · rw [(wrS_1 _ _ _).1]; exact Nat.le_trans hk.1 hd.1
        · exact Nat.le_trans hk.1 hd.1
    · have : (dgF tp (t - skb tp t s.1) (skb tp t s.1) 0).1 ≤ t := by omega
      dsimp only
      split
      · rw [(wrS_1 _ _ _).1]; exact this
      · split
        · rw [(wrS_1 _ _ _).1]; exact this
        · exact this
    · dsimp only
      split
      · rw [(wrS_1 _ _ _).2.1]
      · split
        · rw [(wrS_1 _ _ _).2.1]
        · rfl
theorem nmS_le {tp : Nat → Nat} {t b : Nat} {s : PS} (h : s.1 ≤ t) : ∀ k, s.1 ≤ (nmS tp t b k s).1 ∧ (nmS tp t b k s).1 ≤ t ∧ (nmS tp t b k s).2.2.2.2.1 = s.2.2.2.2.1
  | 0 => ⟨Nat.le_refl _, h, rfl⟩
  | k + 1 => by
    obtain ⟨h1, h2, h3⟩ := nmS_le (b := b) h k
    obtain ⟨g1, g2, g3, g4, -⟩ := nuS_le (tp := tp) h2
    refine ⟨Nat.le_trans h1 g1, g2, ?_⟩
    show (nuS tp t (nmS tp t b k s)).2.2.2.2.2.1 = _
    rw [g3]; exact h3
theorem rd1_le {tp : Nat → Nat} {t v : Nat} {s : PS} (h : s.1 ≤ t) : wnd tp t s.1 ≤ (rd1 tp t s v).1 ∧ (rd1 tp t s v).1 ≤ t ∧ (rd1 tp t s v).2.2.2.2.1 = s.2.2.2.2.1 := nmS_le (s := clS (wnd tp t s.1, s.2) (4 * s.2.2.2.2.1) (nI v)) (wnd_le tp h).2 _
theorem rdS_le {tp : Nat → Nat} {t : Nat} {s : PS} (h : s.1 ≤ t) (hc : s.2.2.2.2.1 ≤ 40) : (rdS tp t s).1 ≤ t ∧ ((rdS tp t s).2.1 = false → s.1 < (rdS tp t s).1) ∧ (rdS tp t s).2.2.2.2.1 ≤ 40 := by
  unfold rdS
  split
  · have := wrS_1 s (nI 1) (nI s.1)
    exact ⟨by rw [this.1]; exact h, fun z => absurd (this.2.2.symm.trans z) (by decide), by rw [this.2.1]; exact hc⟩
  · rename_i v hv
    split
    · have := wrS_1 s (nI 3) (nI s.1)
      exact ⟨by rw [this.1]; exact h, fun z => absurd (this.2.2.symm.trans z) (by decide), by rw [this.2.1]; exact hc⟩
    · rename_i h40
      obtain ⟨g1, g2, g3⟩ := rd1_le (tp := tp) (v := v) h
      have hk := skb_le tp g2
      have hv2 := vbO_lt hv
      have hw := wnd_le tp h
      unfold rd2
      split
      · rename_i hx
        exact ⟨by show skb tp t _ + 1 ≤ t; omega, fun _ => by show s.1 < skb tp t _ + 1; omega, by show _ + 1 ≤ 40; omega⟩
      · have := wrS_1 (skb tp t (rd1 tp t s v).1, (rd1 tp t s v).2.1, (rd1 tp t s v).2.2.1, (rd1 tp t s v).2.2.2.1, (rd1 tp t s v).2.2.2.2.1 + 1, (rd1 tp t s v).2.2.2.2.2) (nI 1) (nI (skb tp t (rd1 tp t s v).1))
        exact ⟨by rw [this.1]; exact hk.2, fun z => absurd (this.2.2.symm.trans z) (by decide), by rw [this.2.1]; show _ + 1 ≤ 40; omega⟩
theorem ct_X11_reads {fi : FI} {fr : FR} {ai : FI} {ar : FR} {N : Nat} (sm : SM fr) {s : PS} {tp : Nat → Nat} {t : Nat} (ht : fi (32 * 11 + 10) (rf 11 80) = nI t) (ht4 : t ≤ 400) (hT : ∀ i, i < t → ai (rf 35 87) i = sB (tp i)) (hb : ∀ i, tp i < 256) (hs : s.1 ≤ t) (hw : s.2.1 = false) (hc : s.2.2.2.2.1 ≤ 40) : CP mX11_reads 4 0 0 [.ref (rf 11 80)] (psF fi s) fr (sA ai (rf 36 88) s.2.2.2.2.2) ar N (xQ none (psF fi (rdS tp t s)) fr (sA ai (rf 36 88) (rdS tp t s).2.2.2.2.2) ar N) := by
  obtain ⟨sW, sA0, sK, sU, sC, sKC, sT, sCl⟩ := id sm
  change EV mX11_reads 4 0 0 0 [some (.ref (rf 11 80)), none, none] [] (psF fi s) fr (sA ai (rf 36 88) s.2.2.2.2.2) ar N (xQ none (psF fi (rdS tp t s)) fr (sA ai (rf 36 88) (rdS tp t s).2.2.2.2.2) ar N)
  have hTs : ∀ (C : Nat → Int32) (i : Nat), i < t → sA ai (rf 36 88) C (rf 35 87) i = sB (tp i) := fun C i hi => by rw [sA_o (by decide)]; exact hT i hi
  have hwl := wnd_le tp hs
  cases hv : vbO tp (wnd tp t s.1) s.1 with
  | none =>
    have e : rdS tp t s = wrS s (nI 1) (nI s.1) := by unfold rdS; rw [hv]
    have e2 := wrS_1 s (nI 1) (nI s.1)
    rw [e, e2.2.1]
    refine e_aload_n dX11_reads_0 rfl rfl ?_
    refine x_V0 (M' := mX11_word) dX11_reads_1 ml_X11_254 ok_X11_word (by decide) rfl im_X11_word se_X11_word (ct_X11_word ‹_› ht ht4 (hTs _) hb hs) (Nat.le_of_ble_eq_true rfl) (by decide) (Nat.le_of_ble_eq_true rfl) ?_
    rw [hv]
    refine e_istore_n dX11_reads_4 rfl (Nat.le_of_ble_eq_true rfl) rfl ?_
    refine e_iload_n dX11_reads_5 rfl rfl ?_
    refine e_iconst (v := -1) dX11_reads_6 rfl ?_
    first | ((with_reducible refine mk_mo ?_); refine p_icmp_ne (tgt := 22) dX11_reads_7 (by decide) (fun h7 => ?_) (fun h7 => ?_)) | ((with_reducible refine mk_ms ?_); refine s_icmp_ne (tgt := 22) dX11_reads_7 (by decide) (by omega) (fun h7 => ?_) (fun h7 => ?_)) | ((with_reducible refine mk_mn ?_); refine q_icmp_ne (tgt := 22) dX11_reads_7 (by decide) (by omega) (fun h7 => ?_) (fun h7 => ?_)) | ((with_reducible refine mk_nn ?_); refine n_icmp_ne (tgt := 22) dX11_reads_7 (by decide) (by omega) (by omega) (fun h7 => ?_) (fun h7 => ?_)) | refine e_icmp_ne (tgt := 22) dX11_reads_7 (by decide) (fun h7 => ?_) (fun h7 => ?_)
    · try first | contradiction | omega
      all_goals
        contradiction
    · try first | contradiction | omega
      all_goals
        refine e_aload_n dX11_reads_10 rfl rfl ?_
        refine e_iconst (v := nI 1) dX11_reads_11 rfl ?_
        refine e_aload_n dX11_reads_12 rfl rfl ?_
        refine e_getI dX11_reads_13 fl_X11_229 rfl ?_
        rw [psF_11]
        refine y_V2 (M' := mX11_wrong) dX11_reads_16 ml_X11_251 ok_X11_wrong (by decide) rfl im_X11_wrong se_X11_wrong (ct_X11_wrong ‹_›) (Nat.le_of_ble_eq_true rfl) (by decide) (Nat.le_of_ble_eq_true rfl) ?_
        refine e_goto (tgt := 40) dX11_reads_19 (by decide) ?_
        refine e_aload_n dX11_reads_40 rfl rfl ?_
        refine e_getI dX11_reads_41 fl_X11_223 rfl ?_
        rw [psF_15]
        rw [e2.2.2]
        first | ((with_reducible refine mk_b ?_); refine b_if_eq (tgt := 48) dX11_reads_44 (by decide) (fun h44 => ?_) (fun h44 => ?_)) | ((with_reducible refine mk_ll ?_); refine m_if_eq (tgt := 48) dX11_reads_44 (by decide) (by omega) (by omega) (fun h44 => ?_) (fun h44 => ?_)) | ((with_reducible refine mk_lc ?_); refine l_if_eq (tgt := 48) dX11_reads_44 (by decide) (fun h44 => ?_) (fun h44 => ?_)) | ((with_reducible refine mk_n ?_); refine n_if_eq (tgt := 48) dX11_reads_44 (by decide) (by omega) (fun h44 => ?_) (fun h44 => ?_)) | refine e_if_eq (tgt := 48) dX11_reads_44 (by decide) (fun h44 => ?_) (fun h44 => ?_)
        · try first | contradiction | omega | (simp only [decide_eq_true_eq, decide_eq_false_iff_not] at h44; omega)
          all_goals
            contradiction
        · try first | contradiction | omega | (simp only [decide_eq_true_eq, decide_eq_false_iff_not] at h44; omega)
          all_goals
            refine e_ret none rfl (r_void dX11_reads_47 rfl) ?_
            exact xq rfl rfl rfl rfl rfl rfl
  | some v =>
    have hv2 := vbO_lt hv
    by_cases h40 : s.2.2.2.2.1 = 40
    · have e : rdS tp t s = wrS s (nI 3) (nI s.1) := by unfold rdS; rw [hv]; exact if_pos h40
      have e2 := wrS_1 s (nI 3) (nI s.1)
      rw [e, e2.2.1]
      refine e_aload_n dX11_reads_0 rfl rfl ?_
      refine x_V0 (M' := mX11_word) dX11_reads_1 ml_X11_254 ok_X11_word (by decide) rfl im_X11_word se_X11_word (ct_X11_word ‹_› ht ht4 (hTs _) hb hs) (Nat.le_of_ble_eq_true rfl) (by decide) (Nat.le_of_ble_eq_true rfl) ?_
      rw [hv]
      refine e_istore_n dX11_reads_4 rfl (Nat.le_of_ble_eq_true rfl) rfl ?_
      refine e_iload_n dX11_reads_5 rfl rfl ?_
      refine e_iconst (v := -1) dX11_reads_6 rfl ?_
      first | ((with_reducible refine mk_mo ?_); refine p_icmp_ne (tgt := 22) dX11_reads_7 (by decide) (fun h7 => ?_) (fun h7 => ?_)) | ((with_reducible refine mk_ms ?_); refine s_icmp_ne (tgt := 22) dX11_reads_7 (by decide) (by omega) (fun h7 => ?_) (fun h7 => ?_)) | ((with_reducible refine mk_mn ?_); refine q_icmp_ne (tgt := 22) dX11_reads_7 (by decide) (by omega) (fun h7 => ?_) (fun h7 => ?_)) | ((with_reducible refine mk_nn ?_); refine n_icmp_ne (tgt := 22) dX11_reads_7 (by decide) (by omega) (by omega) (fun h7 => ?_) (fun h7 => ?_)) | refine e_icmp_ne (tgt := 22) dX11_reads_7 (by decide) (fun h7 => ?_) (fun h7 => ?_)
      · try first | contradiction | omega
        all_goals
          refine e_aload_n dX11_reads_22 rfl rfl ?_
          refine e_getI dX11_reads_23 fl_X11_257 rfl ?_
          rw [psF_17]
          refine e_bipush (v := nI 40) dX11_reads_26 rfl ?_
          first | ((with_reducible refine mk_mo ?_); refine p_icmp_ne (tgt := 40) dX11_reads_28 (by decide) (fun h28 => ?_) (fun h28 => ?_)) | ((with_reducible refine mk_ms ?_); refine s_icmp_ne (tgt := 40) dX11_reads_28 (by decide) (by omega) (fun h28 => ?_) (fun h28 => ?_)) | ((with_reducible refine mk_mn ?_); refine q_icmp_ne (tgt := 40) dX11_reads_28 (by decide) (by omega) (fun h28 => ?_) (fun h28 => ?_)) | ((with_reducible refine mk_nn ?_); refine n_icmp_ne (tgt := 40) dX11_reads_28 (by decide) (by omega) (by omega) (fun h28 => ?_) (fun h28 => ?_)) | refine e_icmp_ne (tgt := 40) dX11_reads_28 (by decide) (fun h28 => ?_) (fun h28 => ?_)
          · try first | contradiction | omega
            all_goals
              refine e_aload_n dX11_reads_40 rfl rfl ?_
              refine e_getI dX11_reads_41 fl_X11_223 rfl ?_
              rw [psF_15]
              first | rw [e2.2.2] | omega
              first | ((with_reducible refine mk_b ?_); refine b_if_eq (tgt := 48) dX11_reads_44 (by decide) (fun h44 => ?_) (fun h44 => ?_)) | ((with_reducible refine mk_ll ?_); refine m_if_eq (tgt := 48) dX11_reads_44 (by decide) (by omega) (by omega) (fun h44 => ?_) (fun h44 => ?_)) | ((with_reducible refine mk_lc ?_); refine l_if_eq (tgt := 48) dX11_reads_44 (by decide) (fun h44 => ?_) (fun h44 => ?_)) | ((with_reducible refine mk_n ?_); refine n_if_eq (tgt := 48) dX11_reads_44 (by decide) (by omega) (fun h44 => ?_) (fun h44 => ?_)) | refine e_if_eq (tgt := 48) dX11_reads_44 (by decide) (fun h44 => ?_) (fun h44 => ?_)
              · try first | contradiction | omega | (simp only [decide_eq_true_eq, decide_eq_false_iff_not] at h44; omega)
                all_goals
                  first | contradiction | omega
              · try first | contradiction | omega | (simp only [decide_eq_true_eq, decide_eq_false_iff_not] at h44; omega)
                all_goals
                  refine e_ret none rfl (r_void dX11_reads_47 rfl) ?_
                  exact xq rfl rfl rfl rfl rfl rfl
          · try first | contradiction | omega
            all_goals
              refine e_aload_n dX11_reads_31 rfl rfl ?_
              refine e_iconst (v := nI 3) dX11_reads_32 rfl ?_
              refine e_aload_n dX11_reads_33 rfl rfl ?_
              refine e_getI dX11_reads_34 fl_X11_229 rfl ?_
              rw [psF_11]
              refine y_V2 (M' := mX11_wrong) dX11_reads_37 ml_X11_251 ok_X11_wrong (by decide) rfl im_X11_wrong se_X11_wrong (ct_X11_wrong ‹_›) (Nat.le_of_ble_eq_true rfl) (by decide) (Nat.le_of_ble_eq_true rfl) ?_
              refine e_aload_n dX11_reads_40 rfl rfl ?_
              refine e_getI dX11_reads_41 fl_X11_223 rfl ?_
              rw [psF_15]
              first | rw [e2.2.2] | omega
              first | ((with_reducible refine mk_b ?_); refine b_if_eq (tgt := 48) dX11_reads_44 (by decide) (fun h44 => ?_) (fun h44 => ?_)) | ((with_reducible refine mk_ll ?_); refine m_if_eq (tgt := 48) dX11_reads_44 (by decide) (by omega) (by omega) (fun h44 => ?_) (fun h44 => ?_)) | ((with_reducible refine mk_lc ?_); refine l_if_eq (tgt := 48) dX11_reads_44 (by decide) (fun h44 => ?_) (fun h44 => ?_)) | ((with_reducible refine mk_n ?_); refine n_if_eq (tgt := 48) dX11_reads_44 (by decide) (by omega) (fun h44 => ?_) (fun h44 => ?_)) | refine e_if_eq (tgt := 48) dX11_reads_44 (by decide) (fun h44 => ?_) (fun h44 => ?_)
              · try first | contradiction | omega | (simp only [decide_eq_true_eq, decide_eq_false_iff_not] at h44; omega)
                all_goals
                  first | contradiction | omega
              · try first | contradiction | omega | (simp only [decide_eq_true_eq, decide_eq_false_iff_not] at h44; omega)
                all_goals
                  refine e_ret none rfl (r_void dX11_reads_47 rfl) ?_
                  exact xq rfl rfl rfl rfl rfl rfl
      · try first | contradiction | omega
        all_goals
          contradiction
    · have e : rdS tp t s = rd2 tp t (rd1 tp t s v) := by unfold rdS; rw [hv]; exact if_neg h40
      rw [e]
      have g := fun k => nmS_le (b := 4 * s.2.2.2.2.1) (s := clS (wnd tp t s.1, s.2) (4 * s.2.2.2.2.1) (nI v)) (tp := tp) (t := t) hwl.2 k
      have gc : ∀ k, (nmS tp t (4 * s.2.2.2.2.1) k (clS (wnd tp t s.1, s.2) (4 * s.2.2.2.2.1) (nI v))).2.2.2.2.1 = s.2.2.2.2.1 := fun k => (g k).2.2
      have hnu := nuN_le v
      have key := ev_up (P := fun k => EV mX11_reads 4 0 0 70 [some (.ref (rf 11 80)), some (.int (nI v)), some (.int (nI k))] [] (psF fi (nmS tp t (4 * s.2.2.2.2.1) k (clS (wnd tp t s.1, s.2) (4 * s.2.2.2.2.1) (nI v)))) fr (sA ai (rf 36 88) (nmS tp t (4 * s.2.2.2.2.1) k (clS (wnd tp t s.1, s.2) (4 * s.2.2.2.2.1) (nI v))).2.2.2.2.2) ar N (xQ none (psF fi (rd2 tp t (rd1 tp t s v))) fr (sA ai (rf 36 88) (rd2 tp t (rd1 tp t s v)).2.2.2.2.2) ar N)) (nuN v) (fun k hk ih => by
        have gk := g k
        have gn := nuS_le (tp := tp) (t := t) gk.2.1
        refine e_iload_n dX11_reads_70 rfl rfl ?_
        refine e_iload_n dX11_reads_71 rfl rfl ?_
        refine x_S1 (M' := mX11_numbersOf) dX11_reads_72 ml_X11_260 ok_X11_numbersOf rfl sc_X11_numbersOf (ct_X11_numbersOf hv2.1) (Nat.le_of_ble_eq_true rfl) (by decide) (Nat.le_of_ble_eq_true rfl) ?_
        first | ((with_reducible refine mk_nn ?_); refine n_icmp_ge (tgt := 103) dX11_reads_75 (by decide) (by omega) (by omega) (fun h75 => ?_) (fun h75 => ?_)) | refine e_icmp_ge (tgt := 103) dX11_reads_75 (by decide) (fun h75 => ?_) (fun h75 => ?_)
        · try first | contradiction | omega
          all_goals
            omega
        · try first | contradiction | omega
          all_goals
            refine e_aload_n dX11_reads_78 rfl rfl ?_
            refine e_getR dX11_reads_79 fl_X11_40 rfl (by assumption) ?_
            refine e_iconst (v := nI 4) dX11_reads_82 rfl ?_
            refine e_aload_n dX11_reads_83 rfl rfl ?_
            refine e_getI dX11_reads_84 fl_X11_257 rfl ?_
            rw [psF_17, gc k]
            first | ((with_reducible refine mk_nn ?_); refine n_imul dX11_reads_87 ?_) | refine e_imul dX11_reads_87 ?_
            refine e_iconst (v := nI 1) dX11_reads_88 rfl ?_
            first | ((with_reducible refine mk_nn ?_); refine n_iadd dX11_reads_89 ?_) | refine e_iadd dX11_reads_89 ?_
            refine e_iload_n dX11_reads_90 rfl rfl ?_
            first | ((with_reducible refine mk_nn ?_); refine n_iadd dX11_reads_91 ?_) | refine e_iadd dX11_reads_91 ?_
            refine e_aload_n dX11_reads_92 rfl rfl ?_
            refine x_V0 (M' := mX11_number) dX11_reads_93 ml_X11_263 ok_X11_number (by decide) rfl im_X11_number se_X11_number (ct_X11_number ‹_› ht ht4 (hTs _) hb gk.2.1) (Nat.le_of_ble_eq_true rfl) (by decide) (Nat.le_of_ble_eq_true rfl) ?_
            first | ((with_reducible refine mk_stw ?_); refine e_stw dX11_reads_96 (by omega) ?_) | refine e_iast _ dX11_reads_96 ⟨by decide, by decide⟩ rfl rfl (by simp only [lenK]; omega) ?_
            first | refine n_inc dX11_reads_97 rfl (Nat.le_of_ble_eq_true rfl) rfl ?_ | refine e_iinc dX11_reads_97 rfl rfl (Nat.le_of_ble_eq_true rfl) rfl ?_
            refine e_goto (tgt := 70) dX11_reads_100 (by decide) ?_
            rw [sA_up]
            refine EV_ai ?_ ih
            show _ = sA ai (rf 36 88) (upd (nuS tp t _).2.2.2.2.2.2 _ _)
            rw [gn.2.2.1]
        ) (by
        have er : nmS tp t (4 * s.2.2.2.2.1) (nuN v) (clS (wnd tp t s.1, s.2) (4 * s.2.2.2.2.1) (nI v)) = rd1 tp t s v := rfl
        rw [er]
        have hr := rd1_le (tp := tp) (v := v) hs
        have hsk := skb_le tp hr.2.1
        have hTk := fun (h : skb tp t (rd1 tp t s v).1 < t) => hTs (rd1 tp t s v).2.2.2.2.2 _ h
        have hbk := hb (skb tp t (rd1 tp t s v).1)
        by_cases hx : skb tp t (rd1 tp t s v).1 < t ∧ tp (skb tp t (rd1 tp t s v).1) = 59
        · have ex : rd2 tp t (rd1 tp t s v) = (skb tp t (rd1 tp t s v).1 + 1, (rd1 tp t s v).2.1, (rd1 tp t s v).2.2.1, (rd1 tp t s v).2.2.2.1, (rd1 tp t s v).2.2.2.2.1 + 1, (rd1 tp t s v).2.2.2.2.2) := if_pos hx
          rw [ex]
          refine e_iload_n dX11_reads_70 rfl rfl ?_
          refine e_iload_n dX11_reads_71 rfl rfl ?_
          refine x_S1 (M' := mX11_numbersOf) dX11_reads_72 ml_X11_260 ok_X11_numbersOf rfl sc_X11_numbersOf (ct_X11_numbersOf hv2.1) (Nat.le_of_ble_eq_true rfl) (by decide) (Nat.le_of_ble_eq_true rfl) ?_
          first | ((with_reducible refine mk_nn ?_); refine n_icmp_ge (tgt := 103) dX11_reads_75 (by decide) (by omega) (by omega) (fun h75 => ?_) (fun h75 => ?_)) | refine e_icmp_ge (tgt := 103) dX11_reads_75 (by decide) (fun h75 => ?_) (fun h75 => ?_)
          · try first | contradiction | omega
            all_goals
              refine e_aload_n dX11_reads_103 rfl rfl ?_
              refine e_dup dX11_reads_104 rfl ?_
              refine e_getI dX11_reads_105 fl_X11_257 rfl ?_
              rw [psF_17]
              refine e_iconst (v := nI 1) dX11_reads_108 rfl ?_
              first | ((with_reducible refine mk_nn ?_); refine n_iadd dX11_reads_109 ?_) | refine e_iadd dX11_reads_109 ?_
              refine e_putI dX11_reads_110 fl_X11_257 rfl rfl rfl rfl ?_
              rw [psF_s17]
              refine e_aload_n dX11_reads_113 rfl rfl ?_
              refine y_V0 (M' := mX11_blanks) dX11_reads_114 ml_X11_243 ok_X11_blanks (by decide) rfl im_X11_blanks se_X11_blanks (ct_X11_blanks ‹_› ht ht4 (hTs _) hb hr.2.1) (Nat.le_of_ble_eq_true rfl) (by decide) (Nat.le_of_ble_eq_true rfl) ?_
              dsimp only
              refine e_aload_n dX11_reads_117 rfl rfl ?_
              refine e_getI dX11_reads_118 fl_X11_229 rfl ?_
              rw [psF_11]
              refine e_aload_n dX11_reads_121 rfl rfl ?_
              refine e_getI dX11_reads_122 fl_X11_217 rfl ?_
              rw [psF_10, ht]
              first | ((with_reducible refine mk_nn ?_); refine n_icmp_ge (tgt := 155) dX11_reads_125 (by decide) (by omega) (by omega) (fun h125 => ?_) (fun h125 => ?_)) | refine e_icmp_ge (tgt := 155) dX11_reads_125 (by decide) (fun h125 => ?_) (fun h125 => ?_)
              · try first | contradiction | omega
                all_goals
                  first | omega | (exfalso; exact h139 (by rw [hTk hx.1]; exact (sB_eq hbk (by omega)).mpr hx.2))
              · try first | contradiction | omega
                all_goals
                  refine e_aload_n dX11_reads_128 rfl rfl ?_
                  refine e_getR dX11_reads_129 fl_X11_29 rfl (by assumption) ?_
                  refine e_aload_n dX11_reads_132 rfl rfl ?_
                  refine e_getI dX11_reads_133 fl_X11_229 rfl ?_
                  rw [psF_11]
                  first | refine e_bald _ dX11_reads_136 ⟨by decide, by decide⟩ rfl rfl (by simp only [lenK]; omega) ?_ | refine e_zald _ dX11_reads_136 ⟨by decide, by decide⟩ rfl rfl (by simp only [lenK]; omega) ?_
                  refine e_bipush (v := nI 59) dX11_reads_137 rfl ?_
                  first | ((with_reducible refine mk_mo ?_); refine p_icmp_ne (tgt := 155) dX11_reads_139 (by decide) (fun h139 => ?_) (fun h139 => ?_)) | ((with_reducible refine mk_ms ?_); refine s_icmp_ne (tgt := 155) dX11_reads_139 (by decide) (by omega) (fun h139 => ?_) (fun h139 => ?_)) | ((with_reducible refine mk_mn ?_); refine q_icmp_ne (tgt := 155) dX11_reads_139 (by decide) (by omega) (fun h139 => ?_) (fun h139 => ?_)) | ((with_reducible refine mk_nn ?_); refine n_icmp_ne (tgt := 155) dX11_reads_139 (by decide) (by omega) (by omega) (fun h139 => ?_) (fun h139 => ?_)) | refine e_icmp_ne (tgt := 155) dX11_reads_139 (by decide) (fun h139 => ?_) (fun h139 => ?_)
                  · try first | contradiction | omega
                    all_goals
                      first | omega | (exfalso; exact h139 (by rw [hTk hx.1]; exact (sB_eq hbk (by omega)).mpr hx.2))
                  · try first | contradiction | omega
                    all_goals
                      refine e_aload_n dX11_reads_142 rfl rfl ?_
                      refine e_dup dX11_reads_143 rfl ?_
                      refine e_getI dX11_reads_144 fl_X11_229 rfl ?_
                      rw [psF_11]
                      refine e_iconst (v := nI 1) dX11_reads_147 rfl ?_
                      first | ((with_reducible refine mk_nn ?_); refine n_iadd dX11_reads_148 ?_) | refine e_iadd dX11_reads_148 ?_
                      refine e_putI dX11_reads_149 fl_X11_229 rfl rfl rfl rfl ?_
                      rw [psF_s11]
                      refine e_goto (tgt := 164) dX11_reads_152 (by decide) ?_
                      refine e_ret none rfl (r_void dX11_reads_164 rfl) ?_
                      exact xq rfl rfl rfl rfl rfl rfl
          · try first | contradiction | omega
            all_goals
              omega
        · have ex : rd2 tp t (rd1 tp t s v) = wrS (skb tp t (rd1 tp t s v).1, (rd1 tp t s v).2.1, (rd1 tp t s v).2.2.1, (rd1 tp t s v).2.2.2.1, (rd1 tp t s v).2.2.2.2.1 + 1, (rd1 tp t s v).2.2.2.2.2) (nI 1) (nI (skb tp t (rd1 tp t s v).1)) := if_neg hx
          have ew := wrS_1 (skb tp t (rd1 tp t s v).1, (rd1 tp t s v).2.1, (rd1 tp t s v).2.2.1, (rd1 tp t s v).2.2.2.1, (rd1 tp t s v).2.2.2.2.1 + 1, (rd1 tp t s v).2.2.2.2.2) (nI 1) (nI (skb tp t (rd1 tp t s v).1))
          rw [ex, ew.2.1]
          refine e_iload_n dX11_reads_70 rfl rfl ?_
          refine e_iload_n dX11_reads_71 rfl rfl ?_
          refine x_S1 (M' := mX11_numbersOf) dX11_reads_72 ml_X11_260 ok_X11_numbersOf rfl sc_X11_numbersOf (ct_X11_numbersOf hv2.1) (Nat.le_of_ble_eq_true rfl) (by decide) (Nat.le_of_ble_eq_true rfl) ?_
          first | ((with_reducible refine mk_nn ?_); refine n_icmp_ge (tgt := 103) dX11_reads_75 (by decide) (by omega) (by omega) (fun h75 => ?_) (fun h75 => ?_)) | refine e_icmp_ge (tgt := 103) dX11_reads_75 (by decide) (fun h75 => ?_) (fun h75 => ?_)
          · try first | contradiction | omega
            all_goals
              refine e_aload_n dX11_reads_103 rfl rfl ?_
              refine e_dup dX11_reads_104 rfl ?_
              refine e_getI dX11_reads_105 fl_X11_257 rfl ?_
              rw [psF_17]
              refine e_iconst (v := nI 1) dX11_reads_108 rfl ?_
              first | ((with_reducible refine mk_nn ?_); refine n_iadd dX11_reads_109 ?_) | refine e_iadd dX11_reads_109 ?_
              refine e_putI dX11_reads_110 fl_X11_257 rfl rfl rfl rfl ?_
              rw [psF_s17]
              refine e_aload_n dX11_reads_113 rfl rfl ?_
              refine y_V0 (M' := mX11_blanks) dX11_reads_114 ml_X11_243 ok_X11_blanks (by decide) rfl im_X11_blanks se_X11_blanks (ct_X11_blanks ‹_› ht ht4 (hTs _) hb hr.2.1) (Nat.le_of_ble_eq_true rfl) (by decide) (Nat.le_of_ble_eq_true rfl) ?_
              dsimp only
              refine e_aload_n dX11_reads_117 rfl rfl ?_
              refine e_getI dX11_reads_118 fl_X11_229 rfl ?_
              rw [psF_11]
              refine e_aload_n dX11_reads_121 rfl rfl ?_
              refine e_getI dX11_reads_122 fl_X11_217 rfl ?_
              rw [psF_10, ht]
              first | ((with_reducible refine mk_nn ?_); refine n_icmp_ge (tgt := 155) dX11_reads_125 (by decide) (by omega) (by omega) (fun h125 => ?_) (fun h125 => ?_)) | refine e_icmp_ge (tgt := 155) dX11_reads_125 (by decide) (fun h125 => ?_) (fun h125 => ?_)
              · try first | contradiction | omega
                all_goals
                  refine e_aload_n dX11_reads_155 rfl rfl ?_
                  refine e_iconst (v := nI 1) dX11_reads_156 rfl ?_
                  refine e_aload_n dX11_reads_157 rfl rfl ?_
                  refine e_getI dX11_reads_158 fl_X11_229 rfl ?_
                  rw [psF_11]
                  refine y_V2 (M' := mX11_wrong) dX11_reads_161 ml_X11_251 ok_X11_wrong (by decide) rfl im_X11_wrong se_X11_wrong (ct_X11_wrong ‹_›) (Nat.le_of_ble_eq_true rfl) (by decide) (Nat.le_of_ble_eq_true rfl) ?_
                  refine e_ret none rfl (r_void dX11_reads_164 rfl) ?_
                  exact xq rfl rfl rfl rfl rfl rfl
              · try first | contradiction | omega
                all_goals
                  refine e_aload_n dX11_reads_128 rfl rfl ?_
                  refine e_getR dX11_reads_129 fl_X11_29 rfl (by assumption) ?_
                  refine e_aload_n dX11_reads_132 rfl rfl ?_
                  refine e_getI dX11_reads_133 fl_X11_229 rfl ?_
                  rw [psF_11]
                  first | refine e_bald _ dX11_reads_136 ⟨by decide, by decide⟩ rfl rfl (by simp only [lenK]; omega) ?_ | refine e_zald _ dX11_reads_136 ⟨by decide, by decide⟩ rfl rfl (by simp only [lenK]; omega) ?_
                  refine e_bipush (v := nI 59) dX11_reads_137 rfl ?_
                  first | ((with_reducible refine mk_mo ?_); refine p_icmp_ne (tgt := 155) dX11_reads_139 (by decide) (fun h139 => ?_) (fun h139 => ?_)) | ((with_reducible refine mk_ms ?_); refine s_icmp_ne (tgt := 155) dX11_reads_139 (by decide) (by omega) (fun h139 => ?_) (fun h139 => ?_)) | ((with_reducible refine mk_mn ?_); refine q_icmp_ne (tgt := 155) dX11_reads_139 (by decide) (by omega) (fun h139 => ?_) (fun h139 => ?_)) | ((with_reducible refine mk_nn ?_); refine n_icmp_ne (tgt := 155) dX11_reads_139 (by decide) (by omega) (by omega) (fun h139 => ?_) (fun h139 => ?_)) | refine e_icmp_ne (tgt := 155) dX11_reads_139 (by decide) (fun h139 => ?_) (fun h139 => ?_)
                  · try first | contradiction | omega
                    all_goals
                      refine e_aload_n dX11_reads_155 rfl rfl ?_
                      refine e_iconst (v := nI 1) dX11_reads_156 rfl ?_
                      refine e_aload_n dX11_reads_157 rfl rfl ?_
                      refine e_getI dX11_reads_158 fl_X11_229 rfl ?_
                      rw [psF_11]
                      refine y_V2 (M' := mX11_wrong) dX11_reads_161 ml_X11_251 ok_X11_wrong (by decide) rfl im_X11_wrong se_X11_wrong (ct_X11_wrong ‹_›) (Nat.le_of_ble_eq_true rfl) (by decide) (Nat.le_of_ble_eq_true rfl) ?_
                      refine e_ret none rfl (r_void dX11_reads_164 rfl) ?_
                      exact xq rfl rfl rfl rfl rfl rfl
                  · try first | contradiction | omega
                    all_goals
                      exfalso
                      exact hx ⟨by omega, (sB_eq hbk (by omega)).mp (by rw [← hTk (by omega)]; first | exact h139 | exact Decidable.not_not.mp h139)⟩
          · try first | contradiction | omega
            all_goals
              omega
        )
      refine e_aload_n dX11_reads_0 rfl rfl ?_
      refine x_V0 (M' := mX11_word) dX11_reads_1 ml_X11_254 ok_X11_word (by decide) rfl im_X11_word se_X11_word (ct_X11_word ‹_› ht ht4 (hTs _) hb hs) (Nat.le_of_ble_eq_true rfl) (by decide) (Nat.le_of_ble_eq_true rfl) ?_
      rw [hv]
      refine e_istore_n dX11_reads_4 rfl (Nat.le_of_ble_eq_true rfl) rfl ?_
      refine e_iload_n dX11_reads_5 rfl rfl ?_
      refine e_iconst (v := -1) dX11_reads_6 rfl ?_
      first | ((with_reducible refine mk_mo ?_); refine p_icmp_ne (tgt := 22) dX11_reads_7 (by decide) (fun h7 => ?_) (fun h7 => ?_)) | ((with_reducible refine mk_ms ?_); refine s_icmp_ne (tgt := 22) dX11_reads_7 (by decide) (by omega) (fun h7 => ?_) (fun h7 => ?_)) | ((with_reducible refine mk_mn ?_); refine q_icmp_ne (tgt := 22) dX11_reads_7 (by decide) (by omega) (fun h7 => ?_) (fun h7 => ?_)) | ((with_reducible refine mk_nn ?_); refine n_icmp_ne (tgt := 22) dX11_reads_7 (by decide) (by omega) (by omega) (fun h7 => ?_) (fun h7 => ?_)) | refine e_icmp_ne (tgt := 22) dX11_reads_7 (by decide) (fun h7 => ?_) (fun h7 => ?_)
      · try first | contradiction | omega
        all_goals
          refine e_aload_n dX11_reads_22 rfl rfl ?_
          refine e_getI dX11_reads_23 fl_X11_257 rfl ?_
          rw [psF_17]
          refine e_bipush (v := nI 40) dX11_reads_26 rfl ?_
          first | ((with_reducible refine mk_mo ?_); refine p_icmp_ne (tgt := 40) dX11_reads_28 (by decide) (fun h28 => ?_) (fun h28 => ?_)) | ((with_reducible refine mk_ms ?_); refine s_icmp_ne (tgt := 40) dX11_reads_28 (by decide) (by omega) (fun h28 => ?_) (fun h28 => ?_)) | ((with_reducible refine mk_mn ?_); refine q_icmp_ne (tgt := 40) dX11_reads_28 (by decide) (by omega) (fun h28 => ?_) (fun h28 => ?_)) | ((with_reducible refine mk_nn ?_); refine n_icmp_ne (tgt := 40) dX11_reads_28 (by decide) (by omega) (by omega) (fun h28 => ?_) (fun h28 => ?_)) | refine e_icmp_ne (tgt := 40) dX11_reads_28 (by decide) (fun h28 => ?_) (fun h28 => ?_)
          · try first | contradiction | omega
            all_goals
              refine e_aload_n dX11_reads_40 rfl rfl ?_
              refine e_getI dX11_reads_41 fl_X11_223 rfl ?_
              rw [psF_15]
              rw [hw]
              first | ((with_reducible refine mk_b ?_); refine b_if_eq (tgt := 48) dX11_reads_44 (by decide) (fun h44 => ?_) (fun h44 => ?_)) | ((with_reducible refine mk_ll ?_); refine m_if_eq (tgt := 48) dX11_reads_44 (by decide) (by omega) (by omega) (fun h44 => ?_) (fun h44 => ?_)) | ((with_reducible refine mk_lc ?_); refine l_if_eq (tgt := 48) dX11_reads_44 (by decide) (fun h44 => ?_) (fun h44 => ?_)) | ((with_reducible refine mk_n ?_); refine n_if_eq (tgt := 48) dX11_reads_44 (by decide) (by omega) (fun h44 => ?_) (fun h44 => ?_)) | refine e_if_eq (tgt := 48) dX11_reads_44 (by decide) (fun h44 => ?_) (fun h44 => ?_)
              · try first | contradiction | omega | (simp only [decide_eq_true_eq, decide_eq_false_iff_not] at h44; omega)
                all_goals
                  refine e_aload_n dX11_reads_48 rfl rfl ?_
                  refine e_aload_n dX11_reads_49 rfl rfl ?_
                  refine x_V0 (M' := mX11_wordEnd) dX11_reads_50 ml_X11_236 ok_X11_wordEnd (by decide) rfl im_X11_wordEnd se_X11_wordEnd (ct_X11_wordEnd ‹_› ht ht4 (hTs _) hb hs) (Nat.le_of_ble_eq_true rfl) (by decide) (Nat.le_of_ble_eq_true rfl) ?_
                  refine e_putI dX11_reads_53 fl_X11_229 rfl rfl rfl rfl ?_
                  rw [psF_s11]
                  refine e_aload_n dX11_reads_56 rfl rfl ?_
                  refine e_getR dX11_reads_57 fl_X11_40 rfl (by assumption) ?_
                  refine e_iconst (v := nI 4) dX11_reads_60 rfl ?_
                  refine e_aload_n dX11_reads_61 rfl rfl ?_
                  refine e_getI dX11_reads_62 fl_X11_257 rfl ?_
                  rw [psF_17]
                  first | ((with_reducible refine mk_nn ?_); refine n_imul dX11_reads_65 ?_) | refine e_imul dX11_reads_65 ?_
                  refine e_iload_n dX11_reads_66 rfl rfl ?_
                  first | ((with_reducible refine mk_stw ?_); refine e_stw dX11_reads_67 (by omega) ?_) | refine e_iast _ dX11_reads_67 ⟨by decide, by decide⟩ rfl rfl (by simp only [lenK]; omega) ?_
                  rw [sA_up]
                  refine e_iconst (v := nI 0) dX11_reads_68 rfl ?_
                  refine e_istore_n dX11_reads_69 rfl (Nat.le_of_ble_eq_true rfl) rfl ?_
                  exact key 0 (by omega)
              · try first | contradiction | omega | (simp only [decide_eq_true_eq, decide_eq_false_iff_not] at h44; omega)
                all_goals
                  contradiction
          · try first | contradiction | omega
            all_goals
              omega
      · try first | contradiction | omega
        all_goals
          contradiction
