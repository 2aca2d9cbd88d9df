theorem e_sg {M : MD} {d k z pc : Nat} {ls : List (Option Value)} {st : List Value} {fi : FI} {fr : FR} {ai : FI} {ar : FR} {N : Nat} {Q : EQ} {κ n : Nat} {i x : Int32} (j : Nat) (hd : decode M.2.1 pc = .ok (.iastore, 1)) (h16 : 16 ≤ κ ∧ κ < 37) (he : elK κ = .int) (hi : i = nI j) (hj : j < lenK κ) (kk : ∀ ai', ai' (rf κ n) j = x → (∀ a q, ¬ (a = rf κ n ∧ q = j) → ai' a q = ai a q) → EV M d k z (pc + 1) ls st fi fr ai' ar N Q) : EV M d k z pc ls (.int x :: .int i :: .ref (rf κ n) :: st) fi fr ai ar N Q := e_iast j hd h16 he hi hj (kk _ (up2_s _ _ _ _) (fun a q h => up2_n _ _ h))
theorem e_zg {M : MD} {d k z pc : Nat} {ls : List (Option Value)} {st : List Value} {fi : FI} {fr : FR} {ai : FI} {ar : FR} {N : Nat} {Q : EQ} {κ n : Nat} {i x : Int32} (j : Nat) (hd : decode M.2.1 pc = .ok (.bastore, 1)) (h16 : 16 ≤ κ ∧ κ < 37) (he : elK κ = .boolean) (hi : i = nI j) (hj : j < lenK κ) (hz : vp_nar .boolean x = x) (kk : ∀ ai', ai' (rf κ n) j = x → (∀ a q, ¬ (a = rf κ n ∧ q = j) → ai' a q = ai a q) → EV M d k z (pc + 1) ls st fi fr ai' ar N Q) : EV M d k z pc ls (.int x :: .int i :: .ref (rf κ n) :: st) fi fr ai ar N Q := e_zast j hd h16 he hi hj (by rw [hz]; exact kk _ (up2_s _ _ _ _) (fun a q h => up2_n _ _ h))
theorem e_pg {M : MD} {d k z pc : Nat} {ls : List (Option Value)} {st : List Value} {fi : FI} {fr : FR} {ai : FI} {ar : FR} {N : Nat} {Q : EQ} {i κ f n : Nat} {x : Int32} (hd : decode M.2.1 pc = .ok (.putfield i, 3)) (hf : FLK M.1.cls i κ f) (hr : isR (tyK κ f) = false) (hfin : ((cK κ).2.1 f).2.2.2 = false) (hn : narrow (tyK κ f) (.int x) = .int x) (hfit : fits (tyK κ f) (.int x) = true)
    (kk : ∀ fi', fi' (32 * κ + f) (rf κ n) = x → (∀ g r, ¬ (g = 32 * κ + f ∧ r = rf κ n) → fi' g r = fi g r) → EV M d k z (pc + 3) ls st fi' fr ai ar N Q) : EV M d k z pc ls (.int x :: .ref (rf κ n) :: st) fi fr ai ar N Q := e_putI hd hf hr hfin hn hfit (kk _ (up2_s _ _ _ _) (fun a q h => up2_n _ _ h))
theorem vp_nb (b : Bool) : vp_nar .boolean (bI b) = bI b := by cases b <;> rfl
theorem cp_in {ai : FI} {a b sp dp c q : Nat} (h : dp ≤ q ∧ q < dp + c) : cp2 ai a b sp dp c b q = ai a (sp + (q - dp)) := by
  unfold cp2; rw [if_pos rfl]; exact if_pos h
theorem cp_out {ai : FI} {a b sp dp c x q : Nat} (h : x = b → ¬ (dp ≤ q ∧ q < dp + c)) : cp2 ai a b sp dp c x q = ai x q := by
  unfold cp2
  by_cases e : x = b
  · subst e; rw [if_pos rfl]; exact if_neg (h rfl)
  · rw [if_neg e]
theorem cp_o {ai : FI} {a b sp dp c x : Nat} (h : x ≠ b) : cp2 ai a b sp dp c x = ai x := if_neg h
theorem K_pl {fi fi' ai ai' : FI} {w lg : Nat → Nat} {E : Nat} (h3 : w 3 ≤ 12) (hf : ∀ f r, r / 64 ≤ 64 → fi' f r = fi f r) (ha : ∀ a q, a / 64 ≤ 64 → ai' a q = ai a q) (h0 : ai' (rf 25 66) 0 = nI 0) (h : K fi ai w lg E) : K fi' ai' w lg E :=
  ⟨KW_fr h3 (fun f r a b => hf f r (by omega)) (fun q a b => funext fun j => ha q j (by omega)) h.1, LGR_fr (fun q a b => funext fun j => ha q j (by omega)) h.2.1, h0⟩
theorem FR1_p {a b fi fi' ai ai' : FI} (h : FR1 a b fi ai) (hf : ∀ f r, 71 ≤ r / 64 ∨ r / 64 = 0 → fi' f r = fi f r) (ha : ∀ a q, 71 ≤ a / 64 ∨ a / 64 = 0 → ai' a q = ai a q) : FR1 a b fi' ai' :=
  FR1_tr h ⟨hf, fun q hq => funext fun j => ha q j hq⟩
theorem kp_s {fi ai ai' : FI} {w lg : Nat → Nat} {E κ n j : Nat} (bd : Bd w) (h : K fi ai w lg E) (o : ∀ a q, ¬ (a = rf κ n ∧ q = j) → ai' a q = ai a q) (hκ : κ < 64) (hn : 65 ≤ n) (h0 : n = 66 → 0 < j) : K fi ai' w lg E :=
  K_pl bd.2.1 (fun _ _ _ => rfl) (fun a q ha => o a q (fun e => by rw [e.1, rf_div hκ] at ha; omega)) (by rw [o _ _ (fun e => by have := (rf_inj (by decide) hκ e.1).2; have := h0 (by omega); omega)]; exact h.2.2) h
theorem kp_f {fi fi' ai : FI} {w lg : Nat → Nat} {E f : Nat} (bd : Bd w) (h : K fi ai w lg E) (o : ∀ g r, ¬ (g = f ∧ r = rf 6 65) → fi' g r = fi g r) : K fi' ai w lg E :=
  K_pl bd.2.1 (fun g r hr => o g r (fun e => by rw [e.2, rf_div (by decide)] at hr; omega)) (fun _ _ _ => rfl) h.2.2 h
theorem fr_s {a b fi ai ai' : FI} {κ n j : Nat} (h : FR1 a b fi ai) (o : ∀ a q, ¬ (a = rf κ n ∧ q = j) → ai' a q = ai a q) (hκ : κ < 64) (hn : 1 ≤ n ∧ n ≤ 70) : FR1 a b fi ai' :=
  FR1_p h (fun _ _ _ => rfl) (fun a q ha => o a q (fun e => by rw [e.1, rf_div hκ] at ha; omega))
theorem fr_f {a b fi fi' ai : FI} {κ n f : Nat} (h : FR1 a b fi ai) (o : ∀ g r, ¬ (g = f ∧ r = rf κ n) → fi' g r = fi g r) (hκ : κ < 64) (hn : 1 ≤ n ∧ n ≤ 70) : FR1 a b fi' ai :=
  FR1_p h (fun g r hr => o g r (fun e => by rw [e.2, rf_div hκ] at hr; omega)) (fun _ _ _ => rfl)
def SU (w : Nat → Nat) (ai : FI) : Prop := ∀ k, k ≤ 1000 → ai (rf 25 66) k = nI (rs (fun k => w (106 + k)) 0 k)
/-- the plan while it is being taken: the first j spans are in -/
def T3 (w : Nat → Nat) (j : Nat) (fi ai : FI) : Prop := SU w ai ∧ (∀ i, i < w 1 → ai (rf 26 67) i = nI (w (10 + i))) ∧ ai (rf 26 67) (w 1) = nI 1000 ∧ (∀ i, i < j → ai (rf 16 68) i = nI (w (42 + i)) ∧ ai (rf 27 69) i = bI (mvL w (w (10 + i))).isSome) ∧
  (∀ s, s < 6 → ai (rf 23 70) s = nI (rs (fun i => if w (42 + i) = s then wtF w i else 0) 0 j)) ∧ fi (32 * 6 + 5) (rf 6 65) = nI (w 1) ∧ fi (32 * 6 + 6) (rf 6 65) = nI (ubF w 6)
theorem T3_hi {w : Nat → Nat} {j i : Nat} {fi ai : FI} (h : T3 w j fi ai) (hi : i < w 1) : ai (rf 26 67) (i + 1) = nI (enF w i) := by
  unfold enF
  by_cases e : i + 1 < w 1
  · rw [if_pos e]; exact h.2.1 (i + 1) e
  · rw [if_neg e, show i + 1 = w 1 by omega]; exact h.2.2.1
theorem ct_X6_take {fi : FI} {fr : FR} {ai : FI} {ar : FR} {N : Nat} {w lg : Nat → Nat} {E : Nat} (cm : CM fr ar) (iv : Inv w) (hK : K fi ai w lg E)  : CP mX6_take 2 0 0 [.ref (rf 6 65), .ref (rf 9 1)] fi fr ai ar N (kQ (none) fi fr ai ar N (fun fi ai => K fi ai w lg E ∧ PL fi ai w)) := by
  have h1 := iv_n iv
  have h3 := iv_mm iv
  have bd := Bd_iv iv
  have hF : FR1 fi ai fi ai := FR1_rf
  change EV mX6_take 2 0 0 0 [some (.ref (rf 6 65)), some (.ref (rf 9 1)), none] [] fi fr ai ar N (kQ (none) fi fr ai ar N (fun fi ai => K fi ai w lg E ∧ PL fi ai w))
  have key3 := ev_up (P := fun j => ∀ fi2 ai2, FR1 fi ai fi2 ai2 → K fi2 ai2 w lg E → T3 w j fi2 ai2 → EV mX6_take 2 0 0 110 [some (.ref (rf 6 65)), some (.ref (rf 9 1)), some (.int (nI j))] [] fi2 fr ai2 ar N (kQ (none) fi fr ai ar N (fun fi ai => K fi ai w lg E ∧ PL fi ai w))) (w 1) (fun j hj ih fi2 ai2 hF hK hT => by
    obtain ⟨hS, hlo, hln, hoo, hld, hsz, hup⟩ := id hT
    have he := enF_le iv hj
    have ho := iv_own iv hj
    have hl := iv_low iv hj
    have hfin : ∀ a1 a2 a3 : FI, (a1 (rf 16 68) j = nI (w (42 + j))) → (∀ a q, ¬ (a = rf 16 68 ∧ q = j) → a1 a q = ai2 a q) → (a2 (rf 27 69) j = bI (mvL w (w (10 + j))).isSome) → (∀ a q, ¬ (a = rf 27 69 ∧ q = j) → a2 a q = a1 a q) → (a3 (rf 23 70) (w (42 + j)) = nI (rs (fun i => if w (42 + i) = w (42 + j) then wtF w i else 0) 0 j + wtF w j)) → (∀ a q, ¬ (a = rf 23 70 ∧ q = w (42 + j)) → a3 a q = a2 a q) → T3 w (j + 1) fi2 a3 := fun a1 a2 a3 g1 o1 g2 o2 g3 o3 => by
      refine ⟨fun k hk => ?_, fun i hi => ?_, ?_, fun i hi => ⟨?_, ?_⟩, fun s hs => ?_, hsz, hup⟩
      · rw [o3 _ _ (fun e => absurd e.1 (rf_ne (by decide) (by decide) (by decide))), o2 _ _ (fun e => absurd e.1 (rf_ne (by decide) (by decide) (by decide))), o1 _ _ (fun e => absurd e.1 (rf_ne (by decide) (by decide) (by decide)))]; exact hS k hk
      · rw [o3 _ _ (fun e => absurd e.1 (rf_ne (by decide) (by decide) (by decide))), o2 _ _ (fun e => absurd e.1 (rf_ne (by decide) (by decide) (by decide))), o1 _ _ (fun e => absurd e.1 (rf_ne (by decide) (by decide) (by decide)))]; exact hlo i hi
      · rw [o3 _ _ (fun e => absurd e.1 (rf_ne (by decide) (by decide) (by decide))), o2 _ _ (fun e => absurd e.1 (rf_ne (by decide) (by decide) (by decide))), o1 _ _ (fun e => absurd e.1 (rf_ne (by decide) (by decide) (by decide)))]; exact hln
      · rw [o3 _ _ (fun e => absurd e.1 (rf_ne (by decide) (by decide) (by decide))), o2 _ _ (fun e => absurd e.1 (rf_ne (by decide) (by decide) (by decide)))]
        by_cases e : i = j
        · rw [e]; exact g1
        · rw [o1 _ _ (fun q => e q.2)]; exact (hoo i (by omega)).1
      · rw [o3 _ _ (fun e => absurd e.1 (rf_ne (by decide) (by decide) (by decide)))]
        by_cases e : i = j
        · rw [e]; exact g2
        · rw [o2 _ _ (fun q => e q.2), o1 _ _ (fun e => absurd e.1 (rf_ne (by decide) (by decide) (by decide)))]; exact (hoo i (by omega)).2
      · rw [rs_s, Nat.zero_add]
        by_cases e : s = w (42 + j)
        · rw [e, g3, if_pos rfl]
        · rw [o3 _ _ (fun q => e q.2), o2 _ _ (fun e => absurd e.1 (rf_ne (by decide) (by decide) (by decide))), o1 _ _ (fun e => absurd e.1 (rf_ne (by decide) (by decide) (by decide))), if_neg (fun q => e q.symm)]; exact hld s hs
    cases hmv : mvL w (w (10 + j)) with
    | none =>
      rw [hmv] at hfin
      refine e_iload_n dX6_take_110 rfl rfl ?_
      refine e_aload_n dX6_take_111 rfl rfl ?_
      refine e_getE dX6_take_112 fl_X6_43 rfl hsz ?_
      first | ((with_reducible refine mk_nn ?_); refine n_icmp_ge (tgt := 183) dX6_take_115 (by decide) (by omega) (by omega) (fun h115 => ?_) (fun h115 => ?_)) | refine e_icmp_ge (tgt := 183) dX6_take_115 (by decide) (fun h115 => ?_) (fun h115 => ?_)
      · try first | contradiction | omega
        all_goals
          refine e_ret none rfl (r_void dX6_take_183 rfl) ?_
          exact xq (by first | rfl | simp_all [bI_t, bI_f]) rfl rfl rfl rfl rfl
      · try first | contradiction | omega
        all_goals
          refine e_aload_n dX6_take_118 rfl rfl ?_
          refine e_getR dX6_take_119 fl_X6_18 rfl (cp_own cm) ?_
          refine e_iload_n dX6_take_122 rfl rfl ?_
          refine e_aload_n dX6_take_123 rfl rfl ?_
          refine e_getR dX6_take_124 fl_X6_33 rfl (cm_map cm) ?_
          refine e_getR dX6_take_127 fl_X6_55 rfl (by first | exact cm_tow cm | exact cm_ctow cm (by omega) | assumption) ?_
          refine e_iload_n dX6_take_130 rfl rfl ?_
          refine e_iadE _ dX6_take_131 ⟨by decide, by decide⟩ rfl rfl (by simp only [lenK]; omega) (by first | exact k_ow hK (by first | omega | (simp (disch := omega) only [upN_n, upN_s]; omega)) | exact k_cow hK (by omega) (by first | omega | (simp (disch := omega) only [upN_n, upN_s]; omega)) | assumption) ?_
          refine e_sg _ dX6_take_132 ⟨by decide, by decide⟩ rfl rfl (by simp only [lenK]; omega)  (fun ai132 g132 o132 => ?_)
          have hK := kp_s bd hK o132 (by decide) (by omega) (fun hq => by omega)
          have hF := fr_s hF o132 (by decide) (by omega)
          refine e_aload_n dX6_take_133 rfl rfl ?_
          refine e_getR dX6_take_134 fl_X6_21 rfl (cp_busy cm) ?_
          refine e_iload_n dX6_take_137 rfl rfl ?_
          refine e_aload_n dX6_take_138 rfl rfl ?_
          refine e_aload_n dX6_take_139 rfl rfl ?_
          refine e_getR dX6_take_140 fl_X6_15 rfl (cp_lows cm) ?_
          refine e_iload_n dX6_take_143 rfl rfl ?_
          refine e_iadE _ dX6_take_144 ⟨by decide, by decide⟩ rfl rfl (by simp only [lenK]; omega) ((o132 _ _ (fun e => absurd e.1 (rf_ne (by decide) (by decide) (by decide)))).trans (hlo _ hj)) ?_
          refine x_V1 (M' := mX9_moveAt) dX6_take_145 ml_X6_56 ok_X9_moveAt (by decide) rfl im_X9_moveAt se_X9_moveAt (ct_X9_moveAt cm iv hK (by omega)) (Nat.le_of_ble_eq_true rfl) (by decide) (Nat.le_of_ble_eq_true rfl) ?_
          rw [hmv]
          refine e_iconst (v := -1) dX6_take_148 rfl ?_
          first | ((with_reducible refine mk_mo ?_); refine p_icmp_eq (tgt := 156) dX6_take_149 (by decide) (fun h149 => ?_) (fun h149 => ?_)) | ((with_reducible refine mk_ms ?_); refine s_icmp_eq (tgt := 156) dX6_take_149 (by decide) (by omega) (fun h149 => ?_) (fun h149 => ?_)) | ((with_reducible refine mk_mn ?_); refine q_icmp_eq (tgt := 156) dX6_take_149 (by decide) (by omega) (fun h149 => ?_) (fun h149 => ?_)) | ((with_reducible refine mk_nn ?_); refine n_icmp_eq (tgt := 156) dX6_take_149 (by decide) (by omega) (by omega) (fun h149 => ?_) (fun h149 => ?_)) | refine e_icmp_eq (tgt := 156) dX6_take_149 (by decide) (fun h149 => ?_) (fun h149 => ?_)
          · try first | contradiction | omega
            all_goals
              refine e_iconst (v := nI 0) dX6_take_156 rfl ?_
              refine e_zg _ dX6_take_157 ⟨by decide, by decide⟩ rfl rfl (by simp only [lenK]; omega) rfl (fun ai157 g157 o157 => ?_)
              have hK := kp_s bd hK o157 (by decide) (by omega) (fun hq => by omega)
              have hF := fr_s hF o157 (by decide) (by omega)
              refine e_aload_n dX6_take_158 rfl rfl ?_
              refine e_getR dX6_take_159 fl_X6_25 rfl (cp_load cm) ?_
              refine e_aload_n dX6_take_162 rfl rfl ?_
              refine e_getR dX6_take_163 fl_X6_18 rfl (cp_own cm) ?_
              refine e_iload_n dX6_take_166 rfl rfl ?_
              refine e_iadE _ dX6_take_167 ⟨by decide, by decide⟩ rfl rfl (by simp only [lenK]; omega) ((o157 _ _ (fun e => absurd e.1 (rf_ne (by decide) (by decide) (by decide)))).trans g132) ?_
              refine e_dup2 dX6_take_168 rfl rfl ?_
              refine e_iadE _ dX6_take_169 ⟨by decide, by decide⟩ rfl rfl (by simp only [lenK]; omega) ((o157 _ _ (fun e => absurd e.1 (rf_ne (by decide) (by decide) (by decide)))).trans ((o132 _ _ (fun e => absurd e.1 (rf_ne (by decide) (by decide) (by decide)))).trans (hld _ ho))) ?_
              refine e_aload_n dX6_take_170 rfl rfl ?_
              refine e_iload_n dX6_take_171 rfl rfl ?_
              refine x_V1 (M' := mX6_weightOf) dX6_take_172 ml_X6_60 ok_X6_weightOf (by decide) rfl im_X6_weightOf se_X6_weightOf (ct_wOf (w := w) (a := w (10 + j)) (b := enF w j) cm (by omega) (fun k hk => (o157 _ _ (fun e => absurd e.1 (rf_ne (by decide) (by decide) (by decide)))).trans ((o132 _ _ (fun e => absurd e.1 (rf_ne (by decide) (by decide) (by decide)))).trans (hS k hk))) ((o157 _ _ (fun e => absurd e.1 (rf_ne (by decide) (by decide) (by decide)))).trans ((o132 _ _ (fun e => absurd e.1 (rf_ne (by decide) (by decide) (by decide)))).trans (hlo _ hj))) ((o157 _ _ (fun e => absurd e.1 (rf_ne (by decide) (by decide) (by decide)))).trans ((o132 _ _ (fun e => absurd e.1 (rf_ne (by decide) (by decide) (by decide)))).trans (T3_hi hT hj))) (by omega) (by omega)) (Nat.le_of_ble_eq_true rfl) (by decide) (Nat.le_of_ble_eq_true rfl) ?_
              first | ((with_reducible refine mk_nn ?_); refine n_iadd dX6_take_175 ?_) | refine e_iadd dX6_take_175 ?_
              refine e_sg _ dX6_take_176 ⟨by decide, by decide⟩ rfl rfl (by simp only [lenK]; omega)  (fun ai176 g176 o176 => ?_)
              have hK := kp_s bd hK o176 (by decide) (by omega) (fun hq => by omega)
              have hF := fr_s hF o176 (by decide) (by omega)
              first | refine n_inc dX6_take_177 rfl (Nat.le_of_ble_eq_true rfl) rfl ?_ | refine e_iinc dX6_take_177 rfl rfl (Nat.le_of_ble_eq_true rfl) rfl ?_
              refine e_goto (tgt := 110) dX6_take_180 (by decide) ?_
              exact ih _ _ hF hK (hfin _ _ _ g132 o132 g157 o157 g176 o176)
          · try first | contradiction | omega
            all_goals
              refine e_iconst (v := nI 1) dX6_take_152 rfl ?_
              refine e_goto (tgt := 157) dX6_take_153 (by decide) ?_
              refine e_zg _ dX6_take_157 ⟨by decide, by decide⟩ rfl rfl (by simp only [lenK]; omega) rfl (fun ai157 g157 o157 => ?_)
              have hK := kp_s bd hK o157 (by decide) (by omega) (fun hq => by omega)
              have hF := fr_s hF o157 (by decide) (by omega)
              refine e_aload_n dX6_take_158 rfl rfl ?_
              refine e_getR dX6_take_159 fl_X6_25 rfl (cp_load cm) ?_
              refine e_aload_n dX6_take_162 rfl rfl ?_
              refine e_getR dX6_take_163 fl_X6_18 rfl (cp_own cm) ?_
              refine e_iload_n dX6_take_166 rfl rfl ?_
              refine e_iadE _ dX6_take_167 ⟨by decide, by decide⟩ rfl rfl (by simp only [lenK]; omega) ((o157 _ _ (fun e => absurd e.1 (rf_ne (by decide) (by decide) (by decide)))).trans g132) ?_
              refine e_dup2 dX6_take_168 rfl rfl ?_
              refine e_iadE _ dX6_take_169 ⟨by decide, by decide⟩ rfl rfl (by simp only [lenK]; omega) ((o157 _ _ (fun e => absurd e.1 (rf_ne (by decide) (by decide) (by decide)))).trans ((o132 _ _ (fun e => absurd e.1 (rf_ne (by decide) (by decide) (by decide)))).trans (hld _ ho))) ?_
              refine e_aload_n dX6_take_170 rfl rfl ?_
              refine e_iload_n dX6_take_171 rfl rfl ?_
              refine x_V1 (M' := mX6_weightOf) dX6_take_172 ml_X6_60 ok_X6_weightOf (by decide) rfl im_X6_weightOf se_X6_weightOf (ct_wOf (w := w) (a := w (10 + j)) (b := enF w j) cm (by omega) (fun k hk => (o157 _ _ (fun e => absurd e.1 (rf_ne (by decide) (by decide) (by decide)))).trans ((o132 _ _ (fun e => absurd e.1 (rf_ne (by decide) (by decide) (by decide)))).trans (hS k hk))) ((o157 _ _ (fun e => absurd e.1 (rf_ne (by decide) (by decide) (by decide)))).trans ((o132 _ _ (fun e => absurd e.1 (rf_ne (by decide) (by decide) (by decide)))).trans (hlo _ hj))) ((o157 _ _ (fun e => absurd e.1 (rf_ne (by decide) (by decide) (by decide)))).trans ((o132 _ _ (fun e => absurd e.1 (rf_ne (by decide) (by decide) (by decide)))).trans (T3_hi hT hj))) (by omega) (by omega)) (Nat.le_of_ble_eq_true rfl) (by decide) (Nat.le_of_ble_eq_true rfl) ?_
              first | ((with_reducible refine mk_nn ?_); refine n_iadd dX6_take_175 ?_) | refine e_iadd dX6_take_175 ?_
              refine e_sg _ dX6_take_176 ⟨by decide, by decide⟩ rfl rfl (by simp only [lenK]; omega)  (fun ai176 g176 o176 => ?_)
              have hK := kp_s bd hK o176 (by decide) (by omega) (fun hq => by omega)
              have hF := fr_s hF o176 (by decide) (by omega)
              first | refine n_inc dX6_take_177 rfl (Nat.le_of_ble_eq_true rfl) rfl ?_ | refine e_iinc dX6_take_177 rfl rfl (Nat.le_of_ble_eq_true rfl) rfl ?_
              refine e_goto (tgt := 110) dX6_take_180 (by decide) ?_
              exact ih _ _ hF hK (hfin _ _ _ g132 o132 g157 o157 g176 o176)
    | some m2 =>
      rw [hmv] at hfin
      have hm2 := mvL_lt hmv
      refine e_iload_n dX6_take_110 rfl rfl ?_
      refine e_aload_n dX6_take_111 rfl rfl ?_
      refine e_getE dX6_take_112 fl_X6_43 rfl hsz ?_
      first | ((with_reducible refine mk_nn ?_); refine n_icmp_ge (tgt := 183) dX6_take_115 (by decide) (by omega) (by omega) (fun h115 => ?_) (fun h115 => ?_)) | refine e_icmp_ge (tgt := 183) dX6_take_115 (by decide) (fun h115 => ?_) (fun h115 => ?_)
      · try first | contradiction | omega
        all_goals
          refine e_ret none rfl (r_void dX6_take_183 rfl) ?_
          exact xq (by first | rfl | simp_all [bI_t, bI_f]) rfl rfl rfl rfl rfl
      · try first | contradiction | omega
        all_goals
          refine e_aload_n dX6_take_118 rfl rfl ?_
          refine e_getR dX6_take_119 fl_X6_18 rfl (cp_own cm) ?_
          refine e_iload_n dX6_take_122 rfl rfl ?_
          refine e_aload_n dX6_take_123 rfl rfl ?_
          refine e_getR dX6_take_124 fl_X6_33 rfl (cm_map cm) ?_
          refine e_getR dX6_take_127 fl_X6_55 rfl (by first | exact cm_tow cm | exact cm_ctow cm (by omega) | assumption) ?_
          refine e_iload_n dX6_take_130 rfl rfl ?_
          refine e_iadE _ dX6_take_131 ⟨by decide, by decide⟩ rfl rfl (by simp only [lenK]; omega) (by first | exact k_ow hK (by first | omega | (simp (disch := omega) only [upN_n, upN_s]; omega)) | exact k_cow hK (by omega) (by first | omega | (simp (disch := omega) only [upN_n, upN_s]; omega)) | assumption) ?_
          refine e_sg _ dX6_take_132 ⟨by decide, by decide⟩ rfl rfl (by simp only [lenK]; omega)  (fun ai132 g132 o132 => ?_)
          have hK := kp_s bd hK o132 (by decide) (by omega) (fun hq => by omega)
          have hF := fr_s hF o132 (by decide) (by omega)
          refine e_aload_n dX6_take_133 rfl rfl ?_
          refine e_getR dX6_take_134 fl_X6_21 rfl (cp_busy cm) ?_
          refine e_iload_n dX6_take_137 rfl rfl ?_
          refine e_aload_n dX6_take_138 rfl rfl ?_
          refine e_aload_n dX6_take_139 rfl rfl ?_
          refine e_getR dX6_take_140 fl_X6_15 rfl (cp_lows cm) ?_
          refine e_iload_n dX6_take_143 rfl rfl ?_
          refine e_iadE _ dX6_take_144 ⟨by decide, by decide⟩ rfl rfl (by simp only [lenK]; omega) ((o132 _ _ (fun e => absurd e.1 (rf_ne (by decide) (by decide) (by decide)))).trans (hlo _ hj)) ?_
          refine x_V1 (M' := mX9_moveAt) dX6_take_145 ml_X6_56 ok_X9_moveAt (by decide) rfl im_X9_moveAt se_X9_moveAt (ct_X9_moveAt cm iv hK (by omega)) (Nat.le_of_ble_eq_true rfl) (by decide) (Nat.le_of_ble_eq_true rfl) ?_
          rw [hmv, oI_s]
          refine e_iconst (v := -1) dX6_take_148 rfl ?_
          first | ((with_reducible refine mk_mo ?_); refine p_icmp_eq (tgt := 156) dX6_take_149 (by decide) (fun h149 => ?_) (fun h149 => ?_)) | ((with_reducible refine mk_ms ?_); refine s_icmp_eq (tgt := 156) dX6_take_149 (by decide) (by omega) (fun h149 => ?_) (fun h149 => ?_)) | ((with_reducible refine mk_mn ?_); refine q_icmp_eq (tgt := 156) dX6_take_149 (by decide) (by omega) (fun h149 => ?_) (fun h149 => ?_)) | ((with_reducible refine mk_nn ?_); refine n_icmp_eq (tgt := 156) dX6_take_149 (by decide) (by omega) (by omega) (fun h149 => ?_) (fun h149 => ?_)) | refine e_icmp_eq (tgt := 156) dX6_take_149 (by decide) (fun h149 => ?_) (fun h149 => ?_)
          · try first | contradiction | omega
            all_goals
              refine e_iconst (v := nI 0) dX6_take_156 rfl ?_
              refine e_zg _ dX6_take_157 ⟨by decide, by decide⟩ rfl rfl (by simp only [lenK]; omega) rfl (fun ai157 g157 o157 => ?_)
              have hK := kp_s bd hK o157 (by decide) (by omega) (fun hq => by omega)
              have hF := fr_s hF o157 (by decide) (by omega)
              refine e_aload_n dX6_take_158 rfl rfl ?_
              refine e_getR dX6_take_159 fl_X6_25 rfl (cp_load cm) ?_
              refine e_aload_n dX6_take_162 rfl rfl ?_
              refine e_getR dX6_take_163 fl_X6_18 rfl (cp_own cm) ?_
              refine e_iload_n dX6_take_166 rfl rfl ?_
              refine e_iadE _ dX6_take_167 ⟨by decide, by decide⟩ rfl rfl (by simp only [lenK]; omega) ((o157 _ _ (fun e => absurd e.1 (rf_ne (by decide) (by decide) (by decide)))).trans g132) ?_
              refine e_dup2 dX6_take_168 rfl rfl ?_
              refine e_iadE _ dX6_take_169 ⟨by decide, by decide⟩ rfl rfl (by simp only [lenK]; omega) ((o157 _ _ (fun e => absurd e.1 (rf_ne (by decide) (by decide) (by decide)))).trans ((o132 _ _ (fun e => absurd e.1 (rf_ne (by decide) (by decide) (by decide)))).trans (hld _ ho))) ?_
              refine e_aload_n dX6_take_170 rfl rfl ?_
              refine e_iload_n dX6_take_171 rfl rfl ?_
              refine x_V1 (M' := mX6_weightOf) dX6_take_172 ml_X6_60 ok_X6_weightOf (by decide) rfl im_X6_weightOf se_X6_weightOf (ct_wOf (w := w) (a := w (10 + j)) (b := enF w j) cm (by omega) (fun k hk => (o157 _ _ (fun e => absurd e.1 (rf_ne (by decide) (by decide) (by decide)))).trans ((o132 _ _ (fun e => absurd e.1 (rf_ne (by decide) (by decide) (by decide)))).trans (hS k hk))) ((o157 _ _ (fun e => absurd e.1 (rf_ne (by decide) (by decide) (by decide)))).trans ((o132 _ _ (fun e => absurd e.1 (rf_ne (by decide) (by decide) (by decide)))).trans (hlo _ hj))) ((o157 _ _ (fun e => absurd e.1 (rf_ne (by decide) (by decide) (by decide)))).trans ((o132 _ _ (fun e => absurd e.1 (rf_ne (by decide) (by decide) (by decide)))).trans (T3_hi hT hj))) (by omega) (by omega)) (Nat.le_of_ble_eq_true rfl) (by decide) (Nat.le_of_ble_eq_true rfl) ?_
              first | ((with_reducible refine mk_nn ?_); refine n_iadd dX6_take_175 ?_) | refine e_iadd dX6_take_175 ?_
              refine e_sg _ dX6_take_176 ⟨by decide, by decide⟩ rfl rfl (by simp only [lenK]; omega)  (fun ai176 g176 o176 => ?_)
              have hK := kp_s bd hK o176 (by decide) (by omega) (fun hq => by omega)
              have hF := fr_s hF o176 (by decide) (by omega)
              first | refine n_inc dX6_take_177 rfl (Nat.le_of_ble_eq_true rfl) rfl ?_ | refine e_iinc dX6_take_177 rfl rfl (Nat.le_of_ble_eq_true rfl) rfl ?_
              refine e_goto (tgt := 110) dX6_take_180 (by decide) ?_
              exact ih _ _ hF hK (hfin _ _ _ g132 o132 g157 o157 g176 o176)
          · try first | contradiction | omega
            all_goals
              refine e_iconst (v := nI 1) dX6_take_152 rfl ?_
              refine e_goto (tgt := 157) dX6_take_153 (by decide) ?_
              refine e_zg _ dX6_take_157 ⟨by decide, by decide⟩ rfl rfl (by simp only [lenK]; omega) rfl (fun ai157 g157 o157 => ?_)
              have hK := kp_s bd hK o157 (by decide) (by omega) (fun hq => by omega)
              have hF := fr_s hF o157 (by decide) (by omega)
              refine e_aload_n dX6_take_158 rfl rfl ?_
              refine e_getR dX6_take_159 fl_X6_25 rfl (cp_load cm) ?_
              refine e_aload_n dX6_take_162 rfl rfl ?_
              refine e_getR dX6_take_163 fl_X6_18 rfl (cp_own cm) ?_
              refine e_iload_n dX6_take_166 rfl rfl ?_
              refine e_iadE _ dX6_take_167 ⟨by decide, by decide⟩ rfl rfl (by simp only [lenK]; omega) ((o157 _ _ (fun e => absurd e.1 (rf_ne (by decide) (by decide) (by decide)))).trans g132) ?_
              refine e_dup2 dX6_take_168 rfl rfl ?_
              refine e_iadE _ dX6_take_169 ⟨by decide, by decide⟩ rfl rfl (by simp only [lenK]; omega) ((o157 _ _ (fun e => absurd e.1 (rf_ne (by decide) (by decide) (by decide)))).trans ((o132 _ _ (fun e => absurd e.1 (rf_ne (by decide) (by decide) (by decide)))).trans (hld _ ho))) ?_
              refine e_aload_n dX6_take_170 rfl rfl ?_
              refine e_iload_n dX6_take_171 rfl rfl ?_
              refine x_V1 (M' := mX6_weightOf) dX6_take_172 ml_X6_60 ok_X6_weightOf (by decide) rfl im_X6_weightOf se_X6_weightOf (ct_wOf (w := w) (a := w (10 + j)) (b := enF w j) cm (by omega) (fun k hk => (o157 _ _ (fun e => absurd e.1 (rf_ne (by decide) (by decide) (by decide)))).trans ((o132 _ _ (fun e => absurd e.1 (rf_ne (by decide) (by decide) (by decide)))).trans (hS k hk))) ((o157 _ _ (fun e => absurd e.1 (rf_ne (by decide) (by decide) (by decide)))).trans ((o132 _ _ (fun e => absurd e.1 (rf_ne (by decide) (by decide) (by decide)))).trans (hlo _ hj))) ((o157 _ _ (fun e => absurd e.1 (rf_ne (by decide) (by decide) (by decide)))).trans ((o132 _ _ (fun e => absurd e.1 (rf_ne (by decide) (by decide) (by decide)))).trans (T3_hi hT hj))) (by omega) (by omega)) (Nat.le_of_ble_eq_true rfl) (by decide) (Nat.le_of_ble_eq_true rfl) ?_
              first | ((with_reducible refine mk_nn ?_); refine n_iadd dX6_take_175 ?_) | refine e_iadd dX6_take_175 ?_
              refine e_sg _ dX6_take_176 ⟨by decide, by decide⟩ rfl rfl (by simp only [lenK]; omega)  (fun ai176 g176 o176 => ?_)
              have hK := kp_s bd hK o176 (by decide) (by omega) (fun hq => by omega)
              have hF := fr_s hF o176 (by decide) (by omega)
              first | refine n_inc dX6_take_177 rfl (Nat.le_of_ble_eq_true rfl) rfl ?_ | refine e_iinc dX6_take_177 rfl rfl (Nat.le_of_ble_eq_true rfl) rfl ?_
              refine e_goto (tgt := 110) dX6_take_180 (by decide) ?_
              exact ih _ _ hF hK (hfin _ _ _ g132 o132 g157 o157 g176 o176)
    ) (fun fi2 ai2 hF hK hT => by
    obtain ⟨hS, hlo, hln, hoo, hld, hsz, hup⟩ := id hT
    refine e_iload_n dX6_take_110 rfl rfl ?_
    refine e_aload_n dX6_take_111 rfl rfl ?_
    refine e_getE dX6_take_112 fl_X6_43 rfl hsz ?_
    first | ((with_reducible refine mk_nn ?_); refine n_icmp_ge (tgt := 183) dX6_take_115 (by decide) (by omega) (by omega) (fun h115 => ?_) (fun h115 => ?_)) | refine e_icmp_ge (tgt := 183) dX6_take_115 (by decide) (fun h115 => ?_) (fun h115 => ?_)
    · try first | contradiction | omega
      all_goals
        refine e_ret none rfl (r_void dX6_take_183 rfl) ?_
        refine kq rfl hF ⟨hK, hS, fun i hi => ⟨hlo i hi, (hoo i hi).1, (hoo i hi).2⟩, hln, hld, hsz, hup⟩
    · try first | contradiction | omega
      all_goals
        refine e_aload_n dX6_take_118 rfl rfl ?_
        refine e_getR dX6_take_119 fl_X6_18 rfl (cp_own cm) ?_
        refine e_iload_n dX6_take_122 rfl rfl ?_
        refine e_aload_n dX6_take_123 rfl rfl ?_
        refine e_getR dX6_take_124 fl_X6_33 rfl (cm_map cm) ?_
        refine e_getR dX6_take_127 fl_X6_55 rfl (by first | exact cm_tow cm | exact cm_ctow cm (by omega) | assumption) ?_
        refine e_iload_n dX6_take_130 rfl rfl ?_
        refine e_iadE _ dX6_take_131 ⟨by decide, by decide⟩ rfl rfl (by simp only [lenK]; omega) (by first | exact k_ow hK (by first | omega | (simp (disch := omega) only [upN_n, upN_s]; omega)) | exact k_cow hK (by omega) (by first | omega | (simp (disch := omega) only [upN_n, upN_s]; omega)) | assumption) ?_
        refine e_sg _ dX6_take_132 ⟨by decide, by decide⟩ rfl rfl (by simp only [lenK]; omega)  (fun ai132 g132 o132 => ?_)
        have hK := kp_s bd hK o132 (by decide) (by omega) (fun hq => by omega)
        have hF := fr_s hF o132 (by decide) (by omega)
        refine e_aload_n dX6_take_133 rfl rfl ?_
        refine e_getR dX6_take_134 fl_X6_21 rfl (cp_busy cm) ?_
        refine e_iload_n dX6_take_137 rfl rfl ?_
        refine e_aload_n dX6_take_138 rfl rfl ?_
        refine e_aload_n dX6_take_139 rfl rfl ?_
        refine e_getR dX6_take_140 fl_X6_15 rfl (cp_lows cm) ?_
        refine e_iload_n dX6_take_143 rfl rfl ?_
        refine e_iadE _ dX6_take_144 ⟨by decide, by decide⟩ rfl rfl (by simp only [lenK]; omega) ((o132 _ _ (fun e => absurd e.1 (rf_ne (by decide) (by decide) (by decide)))).trans (hlo _ hj)) ?_
        refine x_V1 (M' := mX9_moveAt) dX6_take_145 ml_X6_56 ok_X9_moveAt (by decide) rfl im_X9_moveAt se_X9_moveAt (ct_X9_moveAt cm iv hK (by omega)) (Nat.le_of_ble_eq_true rfl) (by decide) (Nat.le_of_ble_eq_true rfl) ?_
        rw [hmv, oI_s]
        refine e_iconst (v := -1) dX6_take_148 rfl ?_
        first | ((with_reducible refine mk_mo ?_); refine p_icmp_eq (tgt := 156) dX6_take_149 (by decide) (fun h149 => ?_) (fun h149 => ?_)) | ((with_reducible refine mk_ms ?_); refine s_icmp_eq (tgt := 156) dX6_take_149 (by decide) (by omega) (fun h149 => ?_) (fun h149 => ?_)) | ((with_reducible refine mk_mn ?_); refine q_icmp_eq (tgt := 156) dX6_take_149 (by decide) (by omega) (fun h149 => ?_) (fun h149 => ?_)) | ((with_reducible refine mk_nn ?_); refine n_icmp_eq (tgt := 156) dX6_take_149 (by decide) (by omega) (by omega) (fun h149 => ?_) (fun h149 => ?_)) | refine e_icmp_eq (tgt := 156) dX6_take_149 (by decide) (fun h149 => ?_) (fun h149 => ?_)
        · try first | contradiction | omega
          all_goals
            refine e_iconst (v := nI 0) dX6_take_156 rfl ?_
            refine e_zg _ dX6_take_157 ⟨by decide, by decide⟩ rfl rfl (by simp only [lenK]; omega) rfl (fun ai157 g157 o157 => ?_)
            have hK := kp_s bd hK o157 (by decide) (by omega) (fun hq => by omega)
            have hF := fr_s hF o157 (by decide) (by omega)
            refine e_aload_n dX6_take_158 rfl rfl ?_
            refine e_getR dX6_take_159 fl_X6_25 rfl (cp_load cm) ?_
            refine e_aload_n dX6_take_162 rfl rfl ?_
            refine e_getR dX6_take_163 fl_X6_18 rfl (cp_own cm) ?_
            refine e_iload_n dX6_take_166 rfl rfl ?_
            refine e_iadE _ dX6_take_167 ⟨by decide, by decide⟩ rfl rfl (by simp only [lenK]; omega) ((o157 _ _ (fun e => absurd e.1 (rf_ne (by decide) (by decide) (by decide)))).trans g132) ?_
            refine e_dup2 dX6_take_168 rfl rfl ?_
            refine e_iadE _ dX6_take_169 ⟨by decide, by decide⟩ rfl rfl (by simp only [lenK]; omega) ((o157 _ _ (fun e => absurd e.1 (rf_ne (by decide) (by decide) (by decide)))).trans ((o132 _ _ (fun e => absurd e.1 (rf_ne (by decide) (by decide) (by decide)))).trans (hld _ ho))) ?_
            refine e_aload_n dX6_take_170 rfl rfl ?_
            refine e_iload_n dX6_take_171 rfl rfl ?_
            refine x_V1 (M' := mX6_weightOf) dX6_take_172 ml_X6_60 ok_X6_weightOf (by decide) rfl im_X6_weightOf se_X6_weightOf (ct_wOf (w := w) (a := w (10 + j)) (b := enF w j) cm (by omega) (fun k hk => (o157 _ _ (fun e => absurd e.1 (rf_ne (by decide) (by decide) (by decide)))).trans ((o132 _ _ (fun e => absurd e.1 (rf_ne (by decide) (by decide) (by decide)))).trans (hS k hk))) ((o157 _ _ (fun e => absurd e.1 (rf_ne (by decide) (by decide) (by decide)))).trans ((o132 _ _ (fun e => absurd e.1 (rf_ne (by decide) (by decide) (by decide)))).trans (hlo _ hj))) ((o157 _ _ (fun e => absurd e.1 (rf_ne (by decide) (by decide) (by decide)))).trans ((o132 _ _ (fun e => absurd e.1 (rf_ne (by decide) (by decide) (by decide)))).trans (T3_hi hT hj))) (by omega) (by omega)) (Nat.le_of_ble_eq_true rfl) (by decide) (Nat.le_of_ble_eq_true rfl) ?_
            first | ((with_reducible refine mk_nn ?_); refine n_iadd dX6_take_175 ?_) | refine e_iadd dX6_take_175 ?_
            refine e_sg _ dX6_take_176 ⟨by decide, by decide⟩ rfl rfl (by simp only [lenK]; omega)  (fun ai176 g176 o176 => ?_)
            have hK := kp_s bd hK o176 (by decide) (by omega) (fun hq => by omega)
            have hF := fr_s hF o176 (by decide) (by omega)
            first | refine n_inc dX6_take_177 rfl (Nat.le_of_ble_eq_true rfl) rfl ?_ | refine e_iinc dX6_take_177 rfl rfl (Nat.le_of_ble_eq_true rfl) rfl ?_
            refine e_goto (tgt := 110) dX6_take_180 (by decide) ?_
            contradiction
        · try first | contradiction | omega
          all_goals
            refine e_iconst (v := nI 1) dX6_take_152 rfl ?_
            refine e_goto (tgt := 157) dX6_take_153 (by decide) ?_
            refine e_zg _ dX6_take_157 ⟨by decide, by decide⟩ rfl rfl (by simp only [lenK]; omega) rfl (fun ai157 g157 o157 => ?_)
            have hK := kp_s bd hK o157 (by decide) (by omega) (fun hq => by omega)
            have hF := fr_s hF o157 (by decide) (by omega)
            refine e_aload_n dX6_take_158 rfl rfl ?_
            refine e_getR dX6_take_159 fl_X6_25 rfl (cp_load cm) ?_
            refine e_aload_n dX6_take_162 rfl rfl ?_
            refine e_getR dX6_take_163 fl_X6_18 rfl (cp_own cm) ?_
            refine e_iload_n dX6_take_166 rfl rfl ?_
            refine e_iadE _ dX6_take_167 ⟨by decide, by decide⟩ rfl rfl (by simp only [lenK]; omega) ((o157 _ _ (fun e => absurd e.1 (rf_ne (by decide) (by decide) (by decide)))).trans g132) ?_
            refine e_dup2 dX6_take_168 rfl rfl ?_
            refine e_iadE _ dX6_take_169 ⟨by decide, by decide⟩ rfl rfl (by simp only [lenK]; omega) ((o157 _ _ (fun e => absurd e.1 (rf_ne (by decide) (by decide) (by decide)))).trans ((o132 _ _ (fun e => absurd e.1 (rf_ne (by decide) (by decide) (by decide)))).trans (hld _ ho))) ?_
            refine e_aload_n dX6_take_170 rfl rfl ?_
            refine e_iload_n dX6_take_171 rfl rfl ?_
            refine x_V1 (M' := mX6_weightOf) dX6_take_172 ml_X6_60 ok_X6_weightOf (by decide) rfl im_X6_weightOf se_X6_weightOf (ct_wOf (w := w) (a := w (10 + j)) (b := enF w j) cm (by omega) (fun k hk => (o157 _ _ (fun e => absurd e.1 (rf_ne (by decide) (by decide) (by decide)))).trans ((o132 _ _ (fun e => absurd e.1 (rf_ne (by decide) (by decide) (by decide)))).trans (hS k hk))) ((o157 _ _ (fun e => absurd e.1 (rf_ne (by decide) (by decide) (by decide)))).trans ((o132 _ _ (fun e => absurd e.1 (rf_ne (by decide) (by decide) (by decide)))).trans (hlo _ hj))) ((o157 _ _ (fun e => absurd e.1 (rf_ne (by decide) (by decide) (by decide)))).trans ((o132 _ _ (fun e => absurd e.1 (rf_ne (by decide) (by decide) (by decide)))).trans (T3_hi hT hj))) (by omega) (by omega)) (Nat.le_of_ble_eq_true rfl) (by decide) (Nat.le_of_ble_eq_true rfl) ?_
            first | ((with_reducible refine mk_nn ?_); refine n_iadd dX6_take_175 ?_) | refine e_iadd dX6_take_175 ?_
            refine e_sg _ dX6_take_176 ⟨by decide, by decide⟩ rfl rfl (by simp only [lenK]; omega)  (fun ai176 g176 o176 => ?_)
            have hK := kp_s bd hK o176 (by decide) (by omega) (fun hq => by omega)
            have hF := fr_s hF o176 (by decide) (by omega)
            first | refine n_inc dX6_take_177 rfl (Nat.le_of_ble_eq_true rfl) rfl ?_ | refine e_iinc dX6_take_177 rfl rfl (Nat.le_of_ble_eq_true rfl) rfl ?_
            refine e_goto (tgt := 110) dX6_take_180 (by decide) ?_
            contradiction
    )
  have key2 := ev_up (P := fun j => ∀ ai2, FR1 fi ai fi ai2 → K fi ai2 w lg E → SU w ai2 → (∀ s, s < j → ai2 (rf 23 70) s = nI 0) → EV mX6_take 2 0 0 38 [some (.ref (rf 6 65)), some (.ref (rf 9 1)), some (.int (nI j))] [] fi fr ai2 ar N (kQ (none) fi fr ai ar N (fun fi ai => K fi ai w lg E ∧ PL fi ai w))) 6 (fun j hj ih ai2 hF hK hS hL => by
    refine e_iload_n dX6_take_38 rfl rfl ?_
    refine e_bipush (v := nI 6) dX6_take_39 rfl ?_
    first | ((with_reducible refine mk_nn ?_); refine n_icmp_ge (tgt := 57) dX6_take_41 (by decide) (by omega) (by omega) (fun h41 => ?_) (fun h41 => ?_)) | refine e_icmp_ge (tgt := 57) dX6_take_41 (by decide) (fun h41 => ?_) (fun h41 => ?_)
    · try first | contradiction | omega
      all_goals
        omega
    · try first | contradiction | omega
      all_goals
        refine e_aload_n dX6_take_44 rfl rfl ?_
        refine e_getR dX6_take_45 fl_X6_25 rfl (cp_load cm) ?_
        refine e_iload_n dX6_take_48 rfl rfl ?_
        refine e_iconst (v := nI 0) dX6_take_49 rfl ?_
        refine e_sg _ dX6_take_50 ⟨by decide, by decide⟩ rfl rfl (by simp only [lenK]; omega)  (fun ai50 g50 o50 => ?_)
        have hK := kp_s bd hK o50 (by decide) (by omega) (fun hq => by omega)
        have hF := fr_s hF o50 (by decide) (by omega)
        first | refine n_inc dX6_take_51 rfl (Nat.le_of_ble_eq_true rfl) rfl ?_ | refine e_iinc dX6_take_51 rfl rfl (Nat.le_of_ble_eq_true rfl) rfl ?_
        refine e_goto (tgt := 38) dX6_take_54 (by decide) ?_
        refine ih _ hF hK (fun k hk => (o50 _ _ (fun e => absurd e.1 (rf_ne (by decide) (by decide) (by decide)))).trans (hS k hk)) (fun s hs => ?_)
        by_cases e : s = j
        · rw [e]; exact g50
        · exact (o50 _ _ (fun q => e q.2)).trans (hL s (by omega))
    ) (fun ai2 hF hK hS hL => by
    have hT : ∀ fi1 fi2 ac a1 : FI, (fi1 (32 * 6 + 5) (rf 6 65) = nI (w 1)) → (fi2 (32 * 6 + 6) (rf 6 65) = nI (ubF w 6)) → (∀ g r, ¬ (g = 32 * 6 + 6 ∧ r = rf 6 65) → fi2 g r = fi1 g r) → (∀ q, q < w 1 → ac (rf 26 67) q = ai2 (rf 16 5) q) → (∀ a, a ≠ rf 26 67 → ac a = ai2 a) → a1 (rf 26 67) (w 1) = nI 1000 → (∀ a q, ¬ (a = rf 26 67 ∧ q = w 1) → a1 a q = ac a q) → T3 w 0 fi2 a1 := fun fi1 fi2 ac a1 f1 f2 f3 c1 c2 g o => by
      refine ⟨fun k hk => ?_, fun i hi => ?_, g, fun i hi => absurd hi (by omega), fun s hs => ?_, ?_, f2⟩
      · rw [o _ _ (fun e => absurd e.1 (rf_ne (by decide) (by decide) (by decide))), c2 _ (rf_ne (by decide) (by decide) (by decide))]; exact hS k hk
      · rw [o _ _ (fun e => absurd e.2 (by omega)), c1 i hi]; exact k_lo hK hi
      · rw [o _ _ (fun e => absurd e.1 (rf_ne (by decide) (by decide) (by decide))), c2 _ (rf_ne (by decide) (by decide) (by decide))]; exact hL s hs
      · rw [f3 _ _ (by omega)]; exact f1
    refine e_iload_n dX6_take_38 rfl rfl ?_
    refine e_bipush (v := nI 6) dX6_take_39 rfl ?_
    first | ((with_reducible refine mk_nn ?_); refine n_icmp_ge (tgt := 57) dX6_take_41 (by decide) (by omega) (by omega) (fun h41 => ?_) (fun h41 => ?_)) | refine e_icmp_ge (tgt := 57) dX6_take_41 (by decide) (fun h41 => ?_) (fun h41 => ?_)
    · try first | contradiction | omega
      all_goals
        refine e_aload_n dX6_take_57 rfl rfl ?_
        refine e_aload_n dX6_take_58 rfl rfl ?_
        refine e_getR dX6_take_59 fl_X6_33 rfl (cm_map cm) ?_
        refine e_getE dX6_take_62 fl_X6_37 rfl (by first | exact k_n hK | exact k_cn hK (by first | omega | (simp (disch := omega) only [upN_n, upN_s]; omega)) | assumption) ?_
        refine e_pg dX6_take_65 fl_X6_43 rfl rfl rfl rfl (fun fi65 g65 o65 => ?_)
        have hK := kp_f bd hK o65
        have hF := fr_f hF o65 (by decide) (by omega)
        refine e_aload_n dX6_take_68 rfl rfl ?_
        refine e_aload_n dX6_take_69 rfl rfl ?_
        refine e_getE dX6_take_70 fl_X6_44 rfl (k_up hK) ?_
        refine e_pg dX6_take_73 fl_X6_47 rfl rfl rfl rfl (fun fi73 g73 o73 => ?_)
        have hK := kp_f bd hK o73
        have hF := fr_f hF o73 (by decide) (by omega)
        refine e_aload_n dX6_take_76 rfl rfl ?_
        refine e_getR dX6_take_77 fl_X6_33 rfl (cm_map cm) ?_
        refine e_getR dX6_take_80 fl_X6_48 rfl (by first | exact cm_tlo cm | exact cm_ctlo cm (by omega) | assumption) ?_
        refine e_iconst (v := nI 0) dX6_take_83 rfl ?_
        refine e_aload_n dX6_take_84 rfl rfl ?_
        refine e_getR dX6_take_85 fl_X6_15 rfl (cp_lows cm) ?_
        refine e_iconst (v := nI 0) dX6_take_88 rfl ?_
        refine e_aload_n dX6_take_89 rfl rfl ?_
        refine e_getE dX6_take_90 fl_X6_43 rfl (by first | exact g65 | exact (o73 _ _ (by omega)).trans g65) ?_
        refine e_copy _ _ _ dX6_take_93 ml_X6_49 na_C sc_C nz_C (by decide) (Nat.le_of_ble_eq_true rfl) ⟨by decide, by decide⟩ ⟨by decide, by decide⟩ rfl rfl rfl rfl rfl (by simp only [lenK]; omega) (by simp only [lenK]; omega) ?_
        have c1 : ∀ q, q < w 1 → cp2 ai2 (rf 16 5) (rf 26 67) 0 0 (w 1) (rf 26 67) q = ai2 (rf 16 5) q := fun q hq => (cp_in ⟨by omega, by omega⟩).trans (by rw [Nat.sub_zero, Nat.zero_add])
        have c2 : ∀ a, a ≠ rf 26 67 → cp2 ai2 (rf 16 5) (rf 26 67) 0 0 (w 1) a = ai2 a := fun a ha => cp_o ha
        generalize cp2 ai2 (rf 16 5) (rf 26 67) 0 0 (w 1) = ac at *
        have hK := K_pl bd.2.1 (fun _ _ _ => rfl) (fun a q ha => congrFun (c2 a (fun e => by rw [e, rf_div (by decide)] at ha; omega)) q) ((congrFun (c2 _ (rf_ne (by decide) (by decide) (by decide))) 0).trans (k_s0 hK)) hK
        have hF := FR1_p hF (fun _ _ _ => rfl) (fun a q ha => congrFun (c2 a (fun e => by rw [e, rf_div (by decide)] at ha; omega)) q)
        refine e_aload_n dX6_take_96 rfl rfl ?_
        refine e_getR dX6_take_97 fl_X6_15 rfl (cp_lows cm) ?_
        refine e_aload_n dX6_take_100 rfl rfl ?_
        refine e_getE dX6_take_101 fl_X6_43 rfl (by first | exact g65 | exact (o73 _ _ (by omega)).trans g65) ?_
        refine e_sipush (v := nI 1000) dX6_take_104 rfl ?_
        refine e_sg _ dX6_take_107 ⟨by decide, by decide⟩ rfl rfl (by simp only [lenK]; omega)  (fun ai107 g107 o107 => ?_)
        have hK := kp_s bd hK o107 (by decide) (by omega) (fun hq => by omega)
        have hF := fr_s hF o107 (by decide) (by omega)
        refine e_iconst (v := nI 0) dX6_take_108 rfl ?_
        refine e_istore_n dX6_take_109 rfl (Nat.le_of_ble_eq_true rfl) rfl ?_
        exact key3 0 (by omega) _ _ hF hK (hT _ _ _ _ g65 g73 o73 c1 c2 g107 o107)
    · try first | contradiction | omega
      all_goals
        refine e_aload_n dX6_take_44 rfl rfl ?_
        refine e_getR dX6_take_45 fl_X6_25 rfl (cp_load cm) ?_
        refine e_iload_n dX6_take_48 rfl rfl ?_
        refine e_iconst (v := nI 0) dX6_take_49 rfl ?_
        refine e_sg _ dX6_take_50 ⟨by decide, by decide⟩ rfl rfl (by simp only [lenK]; omega)  (fun ai50 g50 o50 => ?_)
        have hK := kp_s bd hK o50 (by decide) (by omega) (fun hq => by omega)
        have hF := fr_s hF o50 (by decide) (by omega)
        first | refine n_inc dX6_take_51 rfl (Nat.le_of_ble_eq_true rfl) rfl ?_ | refine e_iinc dX6_take_51 rfl rfl (Nat.le_of_ble_eq_true rfl) rfl ?_
        refine e_goto (tgt := 38) dX6_take_54 (by decide) ?_
        contradiction
    )
  have key1 := ev_up (P := fun j => ∀ ai2, FR1 fi ai fi ai2 → K fi ai2 w lg E → (∀ k, k ≤ j → ai2 (rf 25 66) k = nI (rs (fun k => w (106 + k)) 0 k)) → EV mX6_take 2 0 0 2 [some (.ref (rf 6 65)), some (.ref (rf 9 1)), some (.int (nI j))] [] fi fr ai2 ar N (kQ (none) fi fr ai ar N (fun fi ai => K fi ai w lg E ∧ PL fi ai w))) 1000 (fun j hj ih ai2 hF hK hS => by
    refine e_iload_n dX6_take_2 rfl rfl ?_
    refine e_sipush (v := nI 1000) dX6_take_3 rfl ?_
    first | ((with_reducible refine mk_nn ?_); refine n_icmp_ge (tgt := 36) dX6_take_6 (by decide) (by omega) (by omega) (fun h6 => ?_) (fun h6 => ?_)) | refine e_icmp_ge (tgt := 36) dX6_take_6 (by decide) (fun h6 => ?_) (fun h6 => ?_)
    · try first | contradiction | omega
      all_goals
        omega
    · try first | contradiction | omega
      all_goals
        refine e_aload_n dX6_take_9 rfl rfl ?_
        refine e_getR dX6_take_10 fl_X6_9 rfl (cp_sum cm) ?_
        refine e_iload_n dX6_take_13 rfl rfl ?_
        refine e_iconst (v := nI 1) dX6_take_14 rfl ?_
        first | ((with_reducible refine mk_nn ?_); refine n_iadd dX6_take_15 ?_) | refine e_iadd dX6_take_15 ?_
        refine e_aload_n dX6_take_16 rfl rfl ?_
        refine e_getR dX6_take_17 fl_X6_9 rfl (cp_sum cm) ?_
        refine e_iload_n dX6_take_20 rfl rfl ?_
        refine e_iadE _ dX6_take_21 ⟨by decide, by decide⟩ rfl rfl (by simp only [lenK]; omega) (hS _ (by omega)) ?_
        refine e_aload_n dX6_take_22 rfl rfl ?_
        refine e_getR dX6_take_23 fl_X6_28 rfl (cm_wts cm) ?_
        refine e_iload_n dX6_take_26 rfl rfl ?_
        refine e_iadE _ dX6_take_27 ⟨by decide, by decide⟩ rfl rfl (by simp only [lenK]; omega) (k_wt hK (by first | omega | (simp (disch := omega) only [upN_n, upN_s]; omega))) ?_
        first | ((with_reducible refine mk_nn ?_); refine n_iadd dX6_take_28 ?_) | refine e_iadd dX6_take_28 ?_
        refine e_sg _ dX6_take_29 ⟨by decide, by decide⟩ rfl rfl (by simp only [lenK]; omega)  (fun ai29 g29 o29 => ?_)
        have hK := kp_s bd hK o29 (by decide) (by omega) (fun hq => by omega)
        have hF := fr_s hF o29 (by decide) (by omega)
        first | refine n_inc dX6_take_30 rfl (Nat.le_of_ble_eq_true rfl) rfl ?_ | refine e_iinc dX6_take_30 rfl rfl (Nat.le_of_ble_eq_true rfl) rfl ?_
        refine e_goto (tgt := 2) dX6_take_33 (by decide) ?_
        refine ih _ hF hK (fun k hk => ?_)
        by_cases e : k = j + 1
        · rw [e, rs_s, Nat.zero_add]; exact g29
        · exact (o29 _ _ (fun q => e q.2)).trans (hS k (by omega))
    ) (fun ai2 hF hK hS => by
    refine e_iload_n dX6_take_2 rfl rfl ?_
    refine e_sipush (v := nI 1000) dX6_take_3 rfl ?_
    first | ((with_reducible refine mk_nn ?_); refine n_icmp_ge (tgt := 36) dX6_take_6 (by decide) (by omega) (by omega) (fun h6 => ?_) (fun h6 => ?_)) | refine e_icmp_ge (tgt := 36) dX6_take_6 (by decide) (fun h6 => ?_) (fun h6 => ?_)
    · try first | contradiction | omega
      all_goals
        refine e_iconst (v := nI 0) dX6_take_36 rfl ?_
        refine e_istore_n dX6_take_37 rfl (Nat.le_of_ble_eq_true rfl) rfl ?_
        exact key2 0 (by omega) _ hF hK hS (fun s hs => absurd hs (by omega))
    · try first | contradiction | omega
      all_goals
        refine e_aload_n dX6_take_9 rfl rfl ?_
        refine e_getR dX6_take_10 fl_X6_9 rfl (cp_sum cm) ?_
        refine e_iload_n dX6_take_13 rfl rfl ?_
        refine e_iconst (v := nI 1) dX6_take_14 rfl ?_
        first | ((with_reducible refine mk_nn ?_); refine n_iadd dX6_take_15 ?_) | refine e_iadd dX6_take_15 ?_
        refine e_aload_n dX6_take_16 rfl rfl ?_
        refine e_getR dX6_take_17 fl_X6_9 rfl (cp_sum cm) ?_
        refine e_iload_n dX6_take_20 rfl rfl ?_
        refine e_iadE _ dX6_take_21 ⟨by decide, by decide⟩ rfl rfl (by simp only [lenK]; omega) (hS _ (by omega)) ?_
        refine e_aload_n dX6_take_22 rfl rfl ?_
        refine e_getR dX6_take_23 fl_X6_28 rfl (cm_wts cm) ?_
        refine e_iload_n dX6_take_26 rfl rfl ?_
        refine e_iadE _ dX6_take_27 ⟨by decide, by decide⟩ rfl rfl (by simp only [lenK]; omega) (k_wt hK (by first | omega | (simp (disch := omega) only [upN_n, upN_s]; omega))) ?_
        first | ((with_reducible refine mk_nn ?_); refine n_iadd dX6_take_28 ?_) | refine e_iadd dX6_take_28 ?_
        refine e_sg _ dX6_take_29 ⟨by decide, by decide⟩ rfl rfl (by simp only [lenK]; omega)  (fun ai29 g29 o29 => ?_)
        have hK := kp_s bd hK o29 (by decide) (by omega) (fun hq => by omega)
        have hF := fr_s hF o29 (by decide) (by omega)
        first | refine n_inc dX6_take_30 rfl (Nat.le_of_ble_eq_true rfl) rfl ?_ | refine e_iinc dX6_take_30 rfl rfl (Nat.le_of_ble_eq_true rfl) rfl ?_
        refine e_goto (tgt := 2) dX6_take_33 (by decide) ?_
        contradiction
    )
  refine e_iconst (v := nI 0) dX6_take_0 rfl ?_
  refine e_istore_n dX6_take_1 rfl (Nat.le_of_ble_eq_true rfl) rfl ?_
  exact key1 0 (by omega) _ hF hK (fun k hk => by rw [show k = 0 by omega]; exact k_s0 hK)
