theorem mW_up {ai : FI} {w : Nat → Nat} {a j : Nat} {v : Int32} (h : a ≠ rf 32 81) : up2 (mW ai w) a j v = mW (up2 ai a j v) w := by
  funext q i
  unfold up2 mW
  by_cases hq : q = rf 32 81
  · subst hq
    rw [if_pos rfl, if_pos rfl, if_neg (fun z => h z.1.symm)]
  · rw [if_neg hq, if_neg hq]
def sA (ai : FI) (a : Nat) (f : Nat → Int32) : FI := fun q => if q = a then f else ai q
theorem sA_s (ai : FI) (a : Nat) (f : Nat → Int32) : sA ai a f a = f := if_pos rfl
theorem sA_o {ai : FI} {a b : Nat} {f : Nat → Int32} (h : b ≠ a) : sA ai a f b = ai b := if_neg h
theorem sA_self (ai : FI) (a : Nat) : sA ai a (ai a) = ai := by
  funext q
  unfold sA
  by_cases h : q = a
  · rw [if_pos h, h]
  · rw [if_neg h]
theorem sA_sA (ai : FI) (a : Nat) (f g : Nat → Int32) : sA (sA ai a f) a g = sA ai a g := by
  funext q
  unfold sA
  by_cases h : q = a
  · rw [if_pos h, if_pos h]
  · rw [if_neg h, if_neg h, if_neg h]
theorem sA_up (ai : FI) (a j : Nat) (f : Nat → Int32) (v : Int32) : up2 (sA ai a f) a j v = sA ai a (upd f j v) := by
  funext q i
  unfold up2 sA upd
  by_cases h : q = a <;> by_cases hi : i = j <;> simp [h, hi]
def cpA (u g : Nat → Int32) (lo j : Nat) : Nat → Int32 := fun k => if lo ≤ k ∧ k < lo + j then g k else u k
theorem cpA_0 (u g : Nat → Int32) (lo : Nat) : cpA u g lo 0 = u := by
  funext k
  exact if_neg (by omega)
theorem cpA_s (u g : Nat → Int32) (lo j : Nat) : upd (cpA u g lo j) (lo + j) (g (lo + j)) = cpA u g lo (j + 1) := by
  funext k
  unfold upd cpA
  by_cases h : k = lo + j
  · subst h; rw [if_pos rfl, if_pos (by omega)]
  · rw [if_neg h]
    by_cases h2 : lo ≤ k ∧ k < lo + j
    · rw [if_pos h2, if_pos (by omega)]
    · rw [if_neg h2, if_neg (by omega)]
theorem cpA_v {u g : Nat → Int32} {lo j : Nat} {v : Int32} (h : v = g (lo + j)) : upd (cpA u g lo j) (lo + j) v = cpA u g lo (j + 1) := by rw [h]; exact cpA_s u g lo j
theorem up2_2 {α : Type} (g : Nat → Nat → α) (i j : Nat) (x y : α) : up2 (up2 g i j x) i j y = up2 g i j y := by
  funext a b
  unfold up2
  split <;> rfl
/-- the rows that can be undone: one more -/
def shU (u : Nat → Int32) : Nat → Int32 := cpA u (fun k => u (k + 8558)) 0 42790
def reU (u : Nat → Int32) (m : Nat) (g : Nat → Int32) : Nat → Int32 := if m = 6 then cpA (shU u) (fun k => g (k - 42790)) 42790 8558 else cpA u (fun k => g (k - 8558 * m)) (8558 * m) 8558
def u1 (m : Nat) : Nat := if m = 6 then 6 else m + 1
def actF (fi : FI) (m : Nat) (sc : Bool) : FI := if sc then fi else up2 fi (32 * 11 + 4) (rf 11 80) (nI (u1 m))
def actA (ai : FI) (m : Nat) (sc : Bool) (w : Nat → Nat) : FI := if sc then ai else sA ai (rf 33 84) (reU (ai (rf 33 84)) m (fun i => nI (w i)))
def forF (fi : FI) (sc : Bool) : FI := if sc then fi else up2 fi (32 * 11 + 4) (rf 11 80) (nI 0)
theorem ct_X11_forgets {fi : FI} {fr : FR} {ai : FI} {ar : FR} {N : Nat} {w : Nat → Nat} (sm : SM fr) {sc : Bool} (hsc : fi (32 * 11 + 8) (rf 11 80) = bI sc) : CP mX11_forgets 0 0 0 [.ref (rf 11 80)] fi fr (mW ai w) ar N (xQ none (forF fi sc) fr (mW ai w) ar N) := by
  obtain ⟨sW, sA0, sK, sU, sC, sKC, sT, sCl⟩ := id sm
  change EV mX11_forgets 0 0 0 0 [some (.ref (rf 11 80))] [] fi fr (mW ai w) ar N _
  refine e_aload_n dX11_forgets_0 rfl rfl ?_
  refine e_getI dX11_forgets_1 fl_X11_110 rfl ?_
  rw [hsc]
  first | ((with_reducible refine mk_b ?_); refine b_if_ne (tgt := 12) dX11_forgets_4 (by decide) (fun h4 => ?_) (fun h4 => ?_)) | ((with_reducible refine mk_ll ?_); refine m_if_ne (tgt := 12) dX11_forgets_4 (by decide) (by omega) (by omega) (fun h4 => ?_) (fun h4 => ?_)) | ((with_reducible refine mk_lc ?_); refine l_if_ne (tgt := 12) dX11_forgets_4 (by decide) (fun h4 => ?_) (fun h4 => ?_)) | ((with_reducible refine mk_n ?_); refine n_if_ne (tgt := 12) dX11_forgets_4 (by decide) (by omega) (fun h4 => ?_) (fun h4 => ?_)) | refine e_if_ne (tgt := 12) dX11_forgets_4 (by decide) (fun h4 => ?_) (fun h4 => ?_)
  · try first | contradiction | omega | (simp only [decide_eq_true_eq, decide_eq_false_iff_not] at h4; omega)
    all_goals
      refine e_ret none rfl (r_void dX11_forgets_12 rfl) ?_
      refine xq rfl ?_ rfl rfl rfl rfl
      unfold forF
      first | rw [if_pos (by assumption)] | rw [if_neg (by simp_all)]
  · try first | contradiction | omega | (simp only [decide_eq_true_eq, decide_eq_false_iff_not] at h4; omega)
    all_goals
      refine e_aload_n dX11_forgets_7 rfl rfl ?_
      refine e_iconst (v := nI 0) dX11_forgets_8 rfl ?_
      refine e_putI dX11_forgets_9 fl_X11_51 rfl rfl rfl rfl ?_
      refine e_ret none rfl (r_void dX11_forgets_12 rfl) ?_
      refine xq rfl ?_ rfl rfl rfl rfl
      unfold forF
      first | rw [if_pos (by assumption)] | rw [if_neg (by simp_all)]
theorem ct_rememW {fi : FI} {fr : FR} {ai : FI} {ar : FR} {N : Nat} {w : Nat → Nat} (sm : SM fr) {u : Nat} (hu : fi (32 * 11 + 4) (rf 11 80) = nI u) (hu6 : u ≤ 6) : CP mX11_remembers 0 0 0 [.ref (rf 11 80), .ref (rf 32 81)] fi fr (mW ai w) ar N (xQ none (up2 fi (32 * 11 + 4) (rf 11 80) (nI (u1 u))) fr (mW (sA ai (rf 33 84) (reU (ai (rf 33 84)) u (fun i => nI (w i)))) w) ar N) := by
  obtain ⟨sW, sA0, sK, sU, sC, sKC, sT, sCl⟩ := id sm
  change EV mX11_remembers 0 0 0 0 [some (.ref (rf 11 80)), some (.ref (rf 32 81)), none] [] fi fr (mW ai w) ar N (xQ none (up2 fi (32 * 11 + 4) (rf 11 80) (nI (u1 u))) fr (mW (sA ai (rf 33 84) (reU (ai (rf 33 84)) u (fun i => nI (w i)))) w) ar N)
  have ne1 : rf 33 84 ≠ rf 32 81 := by decide
  have key2 : ∀ (fi' : FI) (U : Nat → Int32) (m : Nat), m ≤ 5 → fi' (32 * 11 + 4) (rf 11 80) = nI m → ∀ (Q' : EQ), Q' none (up2 fi' (32 * 11 + 4) (rf 11 80) (nI (m + 1))) fr (mW (sA ai (rf 33 84) (cpA U (fun k => (fun i => nI (w i)) (k - 8558 * m)) (8558 * m) 8558)) w) ar N → EV mX11_remembers 0 0 0 51 [some (.ref (rf 11 80)), some (.ref (rf 32 81)), none] [] fi' fr (mW (sA ai (rf 33 84) U) w) ar N Q' := by
    intro fi' U m hm hfm Q' hQ
    have key := ev_up (P := fun j => EV mX11_remembers 0 0 0 53 [some (.ref (rf 11 80)), some (.ref (rf 32 81)), some (.int (nI j))] [] fi' fr (mW (sA ai (rf 33 84) (cpA U (fun k => (fun i => nI (w i)) (k - 8558 * m)) (8558 * m) j)) w) ar N Q') 8558 (fun j hj ih => by
      refine e_iload_n dX11_remembers_53 rfl rfl ?_
      refine e_sipush (v := nI 8558) dX11_remembers_54 rfl ?_
      first | ((with_reducible refine mk_nn ?_); refine n_icmp_ge (tgt := 84) dX11_remembers_57 (by decide) (by omega) (by omega) (fun h57 => ?_) (fun h57 => ?_)) | refine e_icmp_ge (tgt := 84) dX11_remembers_57 (by decide) (fun h57 => ?_) (fun h57 => ?_)
      · try first | contradiction | omega
        all_goals
          refine e_aload_n dX11_remembers_84 rfl rfl ?_
          refine e_dup dX11_remembers_85 rfl ?_
          refine e_getI dX11_remembers_86 fl_X11_51 rfl ?_
          rw [hfm]
          refine e_iconst (v := nI 1) dX11_remembers_89 rfl ?_
          first | ((with_reducible refine mk_nn ?_); refine n_iadd dX11_remembers_90 ?_) | refine e_iadd dX11_remembers_90 ?_
          refine e_putI dX11_remembers_91 fl_X11_51 rfl rfl rfl rfl ?_
          refine e_ret none rfl (r_void dX11_remembers_94 rfl) ?_
          exact xq (by first | rfl | simp_all [bI_t, bI_f]) rfl rfl rfl rfl rfl
      · try first | contradiction | omega
        all_goals
          refine e_aload_n dX11_remembers_60 rfl rfl ?_
          refine e_getR dX11_remembers_61 fl_X11_20 rfl (by assumption) ?_
          refine e_sipush (v := nI 8558) dX11_remembers_64 rfl ?_
          refine e_aload_n dX11_remembers_67 rfl rfl ?_
          refine e_getI dX11_remembers_68 fl_X11_51 rfl ?_
          rw [hfm]
          first | ((with_reducible refine mk_nn ?_); refine n_imul dX11_remembers_71 ?_) | refine e_imul dX11_remembers_71 ?_
          refine e_iload_n dX11_remembers_72 rfl rfl ?_
          first | ((with_reducible refine mk_nn ?_); refine n_iadd dX11_remembers_73 ?_) | refine e_iadd dX11_remembers_73 ?_
          refine e_aload_n dX11_remembers_74 rfl rfl ?_
          refine e_iload_n dX11_remembers_75 rfl rfl ?_
          first | ((with_reducible refine mk_ldw ?_); refine e_ldw dX11_remembers_76 (by omega) ?_) | refine e_iald _ dX11_remembers_76 ⟨by decide, by decide⟩ rfl rfl (by simp only [lenK]; omega) ?_
          first | ((with_reducible refine mk_stw ?_); refine e_stw dX11_remembers_77 (by omega) ?_) | refine e_iast _ dX11_remembers_77 ⟨by decide, by decide⟩ rfl rfl (by simp only [lenK]; omega) ?_
          first | refine n_inc dX11_remembers_78 rfl (Nat.le_of_ble_eq_true rfl) rfl ?_ | refine e_iinc dX11_remembers_78 rfl rfl (Nat.le_of_ble_eq_true rfl) rfl ?_
          refine e_goto (tgt := 53) dX11_remembers_81 (by decide) ?_
          rw [mW_up ne1, sA_up, cpA_v (by show nI (w j) = nI (w (8558 * m + j - 8558 * m)); rw [show 8558 * m + j - 8558 * m = j by omega])]
          exact ih
      ) (by
      refine e_iload_n dX11_remembers_53 rfl rfl ?_
      refine e_sipush (v := nI 8558) dX11_remembers_54 rfl ?_
      first | ((with_reducible refine mk_nn ?_); refine n_icmp_ge (tgt := 84) dX11_remembers_57 (by decide) (by omega) (by omega) (fun h57 => ?_) (fun h57 => ?_)) | refine e_icmp_ge (tgt := 84) dX11_remembers_57 (by decide) (fun h57 => ?_) (fun h57 => ?_)
      · try first | contradiction | omega
        all_goals
          refine e_aload_n dX11_remembers_84 rfl rfl ?_
          refine e_dup dX11_remembers_85 rfl ?_
          refine e_getI dX11_remembers_86 fl_X11_51 rfl ?_
          rw [hfm]
          refine e_iconst (v := nI 1) dX11_remembers_89 rfl ?_
          first | ((with_reducible refine mk_nn ?_); refine n_iadd dX11_remembers_90 ?_) | refine e_iadd dX11_remembers_90 ?_
          refine e_putI dX11_remembers_91 fl_X11_51 rfl rfl rfl rfl ?_
          refine e_ret none rfl (r_void dX11_remembers_94 rfl) ?_
          exact hQ
      · try first | contradiction | omega
        all_goals
          refine e_aload_n dX11_remembers_60 rfl rfl ?_
          refine e_getR dX11_remembers_61 fl_X11_20 rfl (by assumption) ?_
          refine e_sipush (v := nI 8558) dX11_remembers_64 rfl ?_
          refine e_aload_n dX11_remembers_67 rfl rfl ?_
          refine e_getI dX11_remembers_68 fl_X11_51 rfl ?_
          rw [hfm]
          first | ((with_reducible refine mk_nn ?_); refine n_imul dX11_remembers_71 ?_) | refine e_imul dX11_remembers_71 ?_
          refine e_iload_n dX11_remembers_72 rfl rfl ?_
          first | ((with_reducible refine mk_nn ?_); refine n_iadd dX11_remembers_73 ?_) | refine e_iadd dX11_remembers_73 ?_
          refine e_aload_n dX11_remembers_74 rfl rfl ?_
          refine e_iload_n dX11_remembers_75 rfl rfl ?_
          first | ((with_reducible refine mk_ldw ?_); refine e_ldw dX11_remembers_76 (by omega) ?_) | refine e_iald _ dX11_remembers_76 ⟨by decide, by decide⟩ rfl rfl (by simp only [lenK]; omega) ?_
          first | ((with_reducible refine mk_stw ?_); refine e_stw dX11_remembers_77 (by omega) ?_) | refine e_iast _ dX11_remembers_77 ⟨by decide, by decide⟩ rfl rfl (by simp only [lenK]; omega) ?_
          first | refine n_inc dX11_remembers_78 rfl (Nat.le_of_ble_eq_true rfl) rfl ?_ | refine e_iinc dX11_remembers_78 rfl rfl (Nat.le_of_ble_eq_true rfl) rfl ?_
          refine e_goto (tgt := 53) dX11_remembers_81 (by decide) ?_
          rw [mW_up ne1, sA_up, cpA_v (by show nI (w j) = nI (w (8558 * m + j - 8558 * m)); rw [show 8558 * m + j - 8558 * m = j by omega])]
          exact ih
      )
    rw [← cpA_0 U (fun k => (fun i => nI (w i)) (k - 8558 * m)) (8558 * m)]
    refine e_iconst (v := nI 0) dX11_remembers_51 rfl ?_
    refine e_istore_n dX11_remembers_52 rfl (Nat.le_of_ble_eq_true rfl) rfl ?_
    exact key 0 (by omega)
  by_cases h6 : u = 6
  · subst h6
    have key := ev_up (P := fun j => EV mX11_remembers 0 0 0 13 [some (.ref (rf 11 80)), some (.ref (rf 32 81)), some (.int (nI (8558 + j)))] [] fi fr (mW (sA ai (rf 33 84) (cpA (ai (rf 33 84)) (fun k => ai (rf 33 84) (k + 8558)) 0 j)) w) ar N (xQ none (up2 fi (32 * 11 + 4) (rf 11 80) (nI (u1 6))) fr (mW (sA ai (rf 33 84) (reU (ai (rf 33 84)) 6 (fun i => nI (w i)))) w) ar N)) 42790 (fun j hj ih => by
      refine e_iload_n dX11_remembers_13 rfl rfl ?_
      refine e_ldc dX11_remembers_14 co_X11_19 ?_
      first | ((with_reducible refine mk_nn ?_); refine n_icmp_ge (tgt := 41) dX11_remembers_16 (by decide) (by omega) (by omega) (fun h16 => ?_) (fun h16 => ?_)) | refine e_icmp_ge (tgt := 41) dX11_remembers_16 (by decide) (fun h16 => ?_) (fun h16 => ?_)
      · try first | contradiction | omega
        all_goals
          refine e_aload_n dX11_remembers_41 rfl rfl ?_
          refine e_dup dX11_remembers_42 rfl ?_
          refine e_getI dX11_remembers_43 fl_X11_51 rfl ?_
          rw [hu]
          refine e_iconst (v := nI 1) dX11_remembers_46 rfl ?_
          first | ((with_reducible refine mk_nn ?_); refine n_isub dX11_remembers_47 (by omega) ?_) | refine e_isub dX11_remembers_47 ?_
          refine e_putI dX11_remembers_48 fl_X11_51 rfl rfl rfl rfl ?_
          refine e_iconst (v := nI 0) dX11_remembers_51 rfl ?_
          refine e_istore_n dX11_remembers_52 rfl (Nat.le_of_ble_eq_true rfl) rfl ?_
          exact key 0 (by omega)
      · try first | contradiction | omega
        all_goals
          refine e_aload_n dX11_remembers_19 rfl rfl ?_
          refine e_getR dX11_remembers_20 fl_X11_20 rfl (by assumption) ?_
          refine e_iload_n dX11_remembers_23 rfl rfl ?_
          refine e_sipush (v := nI 8558) dX11_remembers_24 rfl ?_
          first | ((with_reducible refine mk_nn ?_); refine n_isub dX11_remembers_27 (by omega) ?_) | refine e_isub dX11_remembers_27 ?_
          refine e_aload_n dX11_remembers_28 rfl rfl ?_
          refine e_getR dX11_remembers_29 fl_X11_20 rfl (by assumption) ?_
          refine e_iload_n dX11_remembers_32 rfl rfl ?_
          first | ((with_reducible refine mk_ldw ?_); refine e_ldw dX11_remembers_33 (by omega) ?_) | refine e_iald _ dX11_remembers_33 ⟨by decide, by decide⟩ rfl rfl (by simp only [lenK]; omega) ?_
          first | ((with_reducible refine mk_stw ?_); refine e_stw dX11_remembers_34 (by omega) ?_) | refine e_iast _ dX11_remembers_34 ⟨by decide, by decide⟩ rfl rfl (by simp only [lenK]; omega) ?_
          first | refine n_inc dX11_remembers_35 rfl (Nat.le_of_ble_eq_true rfl) rfl ?_ | refine e_iinc dX11_remembers_35 rfl rfl (Nat.le_of_ble_eq_true rfl) rfl ?_
          refine e_goto (tgt := 13) dX11_remembers_38 (by decide) ?_
          rw [mW_up ne1, sA_up, mW_o ne1, sA_s, show cpA (ai (rf 33 84)) (fun k => ai (rf 33 84) (k + 8558)) 0 j (8558 + j) = (fun k => ai (rf 33 84) (k + 8558)) (0 + j) from by unfold cpA; rw [if_neg (by omega)]; show _ = ai (rf 33 84) (0 + j + 8558); rw [show 0 + j + 8558 = 8558 + j by omega], show 8558 + j - 8558 = 0 + j by omega, cpA_s]
          exact ih
      ) (by
      refine e_iload_n dX11_remembers_13 rfl rfl ?_
      refine e_ldc dX11_remembers_14 co_X11_19 ?_
      first | ((with_reducible refine mk_nn ?_); refine n_icmp_ge (tgt := 41) dX11_remembers_16 (by decide) (by omega) (by omega) (fun h16 => ?_) (fun h16 => ?_)) | refine e_icmp_ge (tgt := 41) dX11_remembers_16 (by decide) (fun h16 => ?_) (fun h16 => ?_)
      · try first | contradiction | omega
        all_goals
          refine e_aload_n dX11_remembers_41 rfl rfl ?_
          refine e_dup dX11_remembers_42 rfl ?_
          refine e_getI dX11_remembers_43 fl_X11_51 rfl ?_
          rw [hu]
          refine e_iconst (v := nI 1) dX11_remembers_46 rfl ?_
          first | ((with_reducible refine mk_nn ?_); refine n_isub dX11_remembers_47 (by omega) ?_) | refine e_isub dX11_remembers_47 ?_
          refine e_putI dX11_remembers_48 fl_X11_51 rfl rfl rfl rfl ?_
          exact EV_ls (by repeat (first | exact lsub_0 | refine lsub_n ?_ | refine lsub_s ?_)) (key2 _ _ 5 (by omega) (up2_s _ _ _ _) _ (by rw [up2_2]; exact xq rfl rfl rfl rfl rfl rfl))
      · try first | contradiction | omega
        all_goals
          refine e_aload_n dX11_remembers_19 rfl rfl ?_
          refine e_getR dX11_remembers_20 fl_X11_20 rfl (by assumption) ?_
          refine e_iload_n dX11_remembers_23 rfl rfl ?_
          refine e_sipush (v := nI 8558) dX11_remembers_24 rfl ?_
          first | ((with_reducible refine mk_nn ?_); refine n_isub dX11_remembers_27 (by omega) ?_) | refine e_isub dX11_remembers_27 ?_
          refine e_aload_n dX11_remembers_28 rfl rfl ?_
          refine e_getR dX11_remembers_29 fl_X11_20 rfl (by assumption) ?_
          refine e_iload_n dX11_remembers_32 rfl rfl ?_
          first | ((with_reducible refine mk_ldw ?_); refine e_ldw dX11_remembers_33 (by omega) ?_) | refine e_iald _ dX11_remembers_33 ⟨by decide, by decide⟩ rfl rfl (by simp only [lenK]; omega) ?_
          first | ((with_reducible refine mk_stw ?_); refine e_stw dX11_remembers_34 (by omega) ?_) | refine e_iast _ dX11_remembers_34 ⟨by decide, by decide⟩ rfl rfl (by simp only [lenK]; omega) ?_
          first | refine n_inc dX11_remembers_35 rfl (Nat.le_of_ble_eq_true rfl) rfl ?_ | refine e_iinc dX11_remembers_35 rfl rfl (Nat.le_of_ble_eq_true rfl) rfl ?_
          refine e_goto (tgt := 13) dX11_remembers_38 (by decide) ?_
          contradiction
      )
    have e0 : mW ai w = mW (sA ai (rf 33 84) (cpA (ai (rf 33 84)) (fun k => ai (rf 33 84) (k + 8558)) 0 0)) w := by rw [cpA_0, sA_self]
    rw [e0]
    refine e_aload_n dX11_remembers_0 rfl rfl ?_
    refine e_getI dX11_remembers_1 fl_X11_51 rfl ?_
    rw [hu]
    refine e_bipush (v := nI 6) dX11_remembers_4 rfl ?_
    first | ((with_reducible refine mk_mo ?_); refine p_icmp_ne (tgt := 51) dX11_remembers_6 (by decide) (fun h6 => ?_) (fun h6 => ?_)) | ((with_reducible refine mk_ms ?_); refine s_icmp_ne (tgt := 51) dX11_remembers_6 (by decide) (by omega) (fun h6 => ?_) (fun h6 => ?_)) | ((with_reducible refine mk_mn ?_); refine q_icmp_ne (tgt := 51) dX11_remembers_6 (by decide) (by omega) (fun h6 => ?_) (fun h6 => ?_)) | ((with_reducible refine mk_nn ?_); refine n_icmp_ne (tgt := 51) dX11_remembers_6 (by decide) (by omega) (by omega) (fun h6 => ?_) (fun h6 => ?_)) | refine e_icmp_ne (tgt := 51) dX11_remembers_6 (by decide) (fun h6 => ?_) (fun h6 => ?_)
    · try first | contradiction | omega
      all_goals
        contradiction
    · try first | contradiction | omega
      all_goals
        refine e_sipush (v := nI 8558) dX11_remembers_9 rfl ?_
        refine e_istore_n dX11_remembers_12 rfl (Nat.le_of_ble_eq_true rfl) rfl ?_
        exact key 0 (by omega)
  · have e0 : mW ai w = mW (sA ai (rf 33 84) (ai (rf 33 84))) w := by rw [sA_self]
    rw [e0]
    refine e_aload_n dX11_remembers_0 rfl rfl ?_
    refine e_getI dX11_remembers_1 fl_X11_51 rfl ?_
    rw [hu]
    refine e_bipush (v := nI 6) dX11_remembers_4 rfl ?_
    first | ((with_reducible refine mk_mo ?_); refine p_icmp_ne (tgt := 51) dX11_remembers_6 (by decide) (fun h6 => ?_) (fun h6 => ?_)) | ((with_reducible refine mk_ms ?_); refine s_icmp_ne (tgt := 51) dX11_remembers_6 (by decide) (by omega) (fun h6 => ?_) (fun h6 => ?_)) | ((with_reducible refine mk_mn ?_); refine q_icmp_ne (tgt := 51) dX11_remembers_6 (by decide) (by omega) (fun h6 => ?_) (fun h6 => ?_)) | ((with_reducible refine mk_nn ?_); refine n_icmp_ne (tgt := 51) dX11_remembers_6 (by decide) (by omega) (by omega) (fun h6 => ?_) (fun h6 => ?_)) | refine e_icmp_ne (tgt := 51) dX11_remembers_6 (by decide) (fun h6 => ?_) (fun h6 => ?_)
    · try first | contradiction | omega
      all_goals
        exact key2 _ _ u (by omega) hu _ (xq rfl (by unfold u1; rw [if_neg h6]) rfl (by unfold reU; rw [if_neg h6]) rfl rfl)
    · try first | contradiction | omega
      all_goals
        refine e_sipush (v := nI 8558) dX11_remembers_9 rfl ?_
        refine e_istore_n dX11_remembers_12 rfl (Nat.le_of_ble_eq_true rfl) rfl ?_
        contradiction
theorem ct_rememA {fi : FI} {fr : FR} {ai : FI} {ar : FR} {N : Nat} {w : Nat → Nat} (sm : SM fr) {u : Nat} (hu : fi (32 * 11 + 4) (rf 11 80) = nI u) (hu6 : u ≤ 6) {a : Nat → Int32} (ha : ai (rf 32 82) = a) : CP mX11_remembers 0 0 0 [.ref (rf 11 80), .ref (rf 32 82)] fi fr (mW ai w) ar N (xQ none (up2 fi (32 * 11 + 4) (rf 11 80) (nI (u1 u))) fr (mW (sA ai (rf 33 84) (reU (ai (rf 33 84)) u (a))) w) ar N) := by
  obtain ⟨sW, sA0, sK, sU, sC, sKC, sT, sCl⟩ := id sm
  change EV mX11_remembers 0 0 0 0 [some (.ref (rf 11 80)), some (.ref (rf 32 82)), none] [] fi fr (mW ai w) ar N (xQ none (up2 fi (32 * 11 + 4) (rf 11 80) (nI (u1 u))) fr (mW (sA ai (rf 33 84) (reU (ai (rf 33 84)) u (a))) w) ar N)
  have ne1 : rf 33 84 ≠ rf 32 81 := by decide
  have key2 : ∀ (fi' : FI) (U : Nat → Int32) (m : Nat), m ≤ 5 → fi' (32 * 11 + 4) (rf 11 80) = nI m → ∀ (Q' : EQ), Q' none (up2 fi' (32 * 11 + 4) (rf 11 80) (nI (m + 1))) fr (mW (sA ai (rf 33 84) (cpA U (fun k => (a) (k - 8558 * m)) (8558 * m) 8558)) w) ar N → EV mX11_remembers 0 0 0 51 [some (.ref (rf 11 80)), some (.ref (rf 32 82)), none] [] fi' fr (mW (sA ai (rf 33 84) U) w) ar N Q' := by
    intro fi' U m hm hfm Q' hQ
    have key := ev_up (P := fun j => EV mX11_remembers 0 0 0 53 [some (.ref (rf 11 80)), some (.ref (rf 32 82)), some (.int (nI j))] [] fi' fr (mW (sA ai (rf 33 84) (cpA U (fun k => (a) (k - 8558 * m)) (8558 * m) j)) w) ar N Q') 8558 (fun j hj ih => by
      refine e_iload_n dX11_remembers_53 rfl rfl ?_
      refine e_sipush (v := nI 8558) dX11_remembers_54 rfl ?_
      first | ((with_reducible refine mk_nn ?_); refine n_icmp_ge (tgt := 84) dX11_remembers_57 (by decide) (by omega) (by omega) (fun h57 => ?_) (fun h57 => ?_)) | refine e_icmp_ge (tgt := 84) dX11_remembers_57 (by decide) (fun h57 => ?_) (fun h57 => ?_)
      · try first | contradiction | omega
        all_goals
          refine e_aload_n dX11_remembers_84 rfl rfl ?_
          refine e_dup dX11_remembers_85 rfl ?_
          refine e_getI dX11_remembers_86 fl_X11_51 rfl ?_
          rw [hfm]
          refine e_iconst (v := nI 1) dX11_remembers_89 rfl ?_
          first | ((with_reducible refine mk_nn ?_); refine n_iadd dX11_remembers_90 ?_) | refine e_iadd dX11_remembers_90 ?_
          refine e_putI dX11_remembers_91 fl_X11_51 rfl rfl rfl rfl ?_
          refine e_ret none rfl (r_void dX11_remembers_94 rfl) ?_
          exact xq (by first | rfl | simp_all [bI_t, bI_f]) rfl rfl rfl rfl rfl
      · try first | contradiction | omega
        all_goals
          refine e_aload_n dX11_remembers_60 rfl rfl ?_
          refine e_getR dX11_remembers_61 fl_X11_20 rfl (by assumption) ?_
          refine e_sipush (v := nI 8558) dX11_remembers_64 rfl ?_
          refine e_aload_n dX11_remembers_67 rfl rfl ?_
          refine e_getI dX11_remembers_68 fl_X11_51 rfl ?_
          rw [hfm]
          first | ((with_reducible refine mk_nn ?_); refine n_imul dX11_remembers_71 ?_) | refine e_imul dX11_remembers_71 ?_
          refine e_iload_n dX11_remembers_72 rfl rfl ?_
          first | ((with_reducible refine mk_nn ?_); refine n_iadd dX11_remembers_73 ?_) | refine e_iadd dX11_remembers_73 ?_
          refine e_aload_n dX11_remembers_74 rfl rfl ?_
          refine e_iload_n dX11_remembers_75 rfl rfl ?_
          first | ((with_reducible refine mk_ldw ?_); refine e_ldw dX11_remembers_76 (by omega) ?_) | refine e_iald _ dX11_remembers_76 ⟨by decide, by decide⟩ rfl rfl (by simp only [lenK]; omega) ?_
          first | ((with_reducible refine mk_stw ?_); refine e_stw dX11_remembers_77 (by omega) ?_) | refine e_iast _ dX11_remembers_77 ⟨by decide, by decide⟩ rfl rfl (by simp only [lenK]; omega) ?_
          first | refine n_inc dX11_remembers_78 rfl (Nat.le_of_ble_eq_true rfl) rfl ?_ | refine e_iinc dX11_remembers_78 rfl rfl (Nat.le_of_ble_eq_true rfl) rfl ?_
          refine e_goto (tgt := 53) dX11_remembers_81 (by decide) ?_
          rw [mW_up ne1, sA_up, cpA_v (by rw [mW_o (by decide), sA_o (by decide), ha]; show a j = a (8558 * m + j - 8558 * m); rw [show 8558 * m + j - 8558 * m = j by omega])]
          exact ih
      ) (by
      refine e_iload_n dX11_remembers_53 rfl rfl ?_
      refine e_sipush (v := nI 8558) dX11_remembers_54 rfl ?_
      first | ((with_reducible refine mk_nn ?_); refine n_icmp_ge (tgt := 84) dX11_remembers_57 (by decide) (by omega) (by omega) (fun h57 => ?_) (fun h57 => ?_)) | refine e_icmp_ge (tgt := 84) dX11_remembers_57 (by decide) (fun h57 => ?_) (fun h57 => ?_)
      · try first | contradiction | omega
        all_goals
          refine e_aload_n dX11_remembers_84 rfl rfl ?_
          refine e_dup dX11_remembers_85 rfl ?_
          refine e_getI dX11_remembers_86 fl_X11_51 rfl ?_
          rw [hfm]
          refine e_iconst (v := nI 1) dX11_remembers_89 rfl ?_
          first | ((with_reducible refine mk_nn ?_); refine n_iadd dX11_remembers_90 ?_) | refine e_iadd dX11_remembers_90 ?_
          refine e_putI dX11_remembers_91 fl_X11_51 rfl rfl rfl rfl ?_
          refine e_ret none rfl (r_void dX11_remembers_94 rfl) ?_
          exact hQ
      · try first | contradiction | omega
        all_goals
          refine e_aload_n dX11_remembers_60 rfl rfl ?_
          refine e_getR dX11_remembers_61 fl_X11_20 rfl (by assumption) ?_
          refine e_sipush (v := nI 8558) dX11_remembers_64 rfl ?_
          refine e_aload_n dX11_remembers_67 rfl rfl ?_
          refine e_getI dX11_remembers_68 fl_X11_51 rfl ?_
          rw [hfm]
          first | ((with_reducible refine mk_nn ?_); refine n_imul dX11_remembers_71 ?_) | refine e_imul dX11_remembers_71 ?_
          refine e_iload_n dX11_remembers_72 rfl rfl ?_
          first | ((with_reducible refine mk_nn ?_); refine n_iadd dX11_remembers_73 ?_) | refine e_iadd dX11_remembers_73 ?_
          refine e_aload_n dX11_remembers_74 rfl rfl ?_
          refine e_iload_n dX11_remembers_75 rfl rfl ?_
          first | ((with_reducible refine mk_ldw ?_); refine e_ldw dX11_remembers_76 (by omega) ?_) | refine e_iald _ dX11_remembers_76 ⟨by decide, by decide⟩ rfl rfl (by simp only [lenK]; omega) ?_
          first | ((with_reducible refine mk_stw ?_); refine e_stw dX11_remembers_77 (by omega) ?_) | refine e_iast _ dX11_remembers_77 ⟨by decide, by decide⟩ rfl rfl (by simp only [lenK]; omega) ?_
          first | refine n_inc dX11_remembers_78 rfl (Nat.le_of_ble_eq_true rfl) rfl ?_ | refine e_iinc dX11_remembers_78 rfl rfl (Nat.le_of_ble_eq_true rfl) rfl ?_
          refine e_goto (tgt := 53) dX11_remembers_81 (by decide) ?_
          rw [mW_up ne1, sA_up, cpA_v (by rw [mW_o (by decide), sA_o (by decide), ha]; show a j = a (8558 * m + j - 8558 * m); rw [show 8558 * m + j - 8558 * m = j by omega])]
          exact ih
      )
    rw [← cpA_0 U (fun k => (a) (k - 8558 * m)) (8558 * m)]
    refine e_iconst (v := nI 0) dX11_remembers_51 rfl ?_
    refine e_istore_n dX11_remembers_52 rfl (Nat.le_of_ble_eq_true rfl) rfl ?_
    exact key 0 (by omega)
  by_cases h6 : u = 6
  · subst h6
    have key := ev_up (P := fun j => EV mX11_remembers 0 0 0 13 [some (.ref (rf 11 80)), some (.ref (rf 32 82)), some (.int (nI (8558 + j)))] [] fi fr (mW (sA ai (rf 33 84) (cpA (ai (rf 33 84)) (fun k => ai (rf 33 84) (k + 8558)) 0 j)) w) ar N (xQ none (up2 fi (32 * 11 + 4) (rf 11 80) (nI (u1 6))) fr (mW (sA ai (rf 33 84) (reU (ai (rf 33 84)) 6 (a))) w) ar N)) 42790 (fun j hj ih => by
      refine e_iload_n dX11_remembers_13 rfl rfl ?_
      refine e_ldc dX11_remembers_14 co_X11_19 ?_
      first | ((with_reducible refine mk_nn ?_); refine n_icmp_ge (tgt := 41) dX11_remembers_16 (by decide) (by omega) (by omega) (fun h16 => ?_) (fun h16 => ?_)) | refine e_icmp_ge (tgt := 41) dX11_remembers_16 (by decide) (fun h16 => ?_) (fun h16 => ?_)
      · try first | contradiction | omega
        all_goals
          refine e_aload_n dX11_remembers_41 rfl rfl ?_
          refine e_dup dX11_remembers_42 rfl ?_
          refine e_getI dX11_remembers_43 fl_X11_51 rfl ?_
          rw [hu]
          refine e_iconst (v := nI 1) dX11_remembers_46 rfl ?_
          first | ((with_reducible refine mk_nn ?_); refine n_isub dX11_remembers_47 (by omega) ?_) | refine e_isub dX11_remembers_47 ?_
          refine e_putI dX11_remembers_48 fl_X11_51 rfl rfl rfl rfl ?_
          refine e_iconst (v := nI 0) dX11_remembers_51 rfl ?_
          refine e_istore_n dX11_remembers_52 rfl (Nat.le_of_ble_eq_true rfl) rfl ?_
          exact key 0 (by omega)
      · try first | contradiction | omega
        all_goals
          refine e_aload_n dX11_remembers_19 rfl rfl ?_
          refine e_getR dX11_remembers_20 fl_X11_20 rfl (by assumption) ?_
          refine e_iload_n dX11_remembers_23 rfl rfl ?_
          refine e_sipush (v := nI 8558) dX11_remembers_24 rfl ?_
          first | ((with_reducible refine mk_nn ?_); refine n_isub dX11_remembers_27 (by omega) ?_) | refine e_isub dX11_remembers_27 ?_
          refine e_aload_n dX11_remembers_28 rfl rfl ?_
          refine e_getR dX11_remembers_29 fl_X11_20 rfl (by assumption) ?_
          refine e_iload_n dX11_remembers_32 rfl rfl ?_
          first | ((with_reducible refine mk_ldw ?_); refine e_ldw dX11_remembers_33 (by omega) ?_) | refine e_iald _ dX11_remembers_33 ⟨by decide, by decide⟩ rfl rfl (by simp only [lenK]; omega) ?_
          first | ((with_reducible refine mk_stw ?_); refine e_stw dX11_remembers_34 (by omega) ?_) | refine e_iast _ dX11_remembers_34 ⟨by decide, by decide⟩ rfl rfl (by simp only [lenK]; omega) ?_
          first | refine n_inc dX11_remembers_35 rfl (Nat.le_of_ble_eq_true rfl) rfl ?_ | refine e_iinc dX11_remembers_35 rfl rfl (Nat.le_of_ble_eq_true rfl) rfl ?_
          refine e_goto (tgt := 13) dX11_remembers_38 (by decide) ?_
          rw [mW_up ne1, sA_up, mW_o ne1, sA_s, show cpA (ai (rf 33 84)) (fun k => ai (rf 33 84) (k + 8558)) 0 j (8558 + j) = (fun k => ai (rf 33 84) (k + 8558)) (0 + j) from by unfold cpA; rw [if_neg (by omega)]; show _ = ai (rf 33 84) (0 + j + 8558); rw [show 0 + j + 8558 = 8558 + j by omega], show 8558 + j - 8558 = 0 + j by omega, cpA_s]
          exact ih
      ) (by
      refine e_iload_n dX11_remembers_13 rfl rfl ?_
      refine e_ldc dX11_remembers_14 co_X11_19 ?_
      first | ((with_reducible refine mk_nn ?_); refine n_icmp_ge (tgt := 41) dX11_remembers_16 (by decide) (by omega) (by omega) (fun h16 => ?_) (fun h16 => ?_)) | refine e_icmp_ge (tgt := 41) dX11_remembers_16 (by decide) (fun h16 => ?_) (fun h16 => ?_)
      · try first | contradiction | omega
        all_goals
          refine e_aload_n dX11_remembers_41 rfl rfl ?_
          refine e_dup dX11_remembers_42 rfl ?_
          refine e_getI dX11_remembers_43 fl_X11_51 rfl ?_
          rw [hu]
          refine e_iconst (v := nI 1) dX11_remembers_46 rfl ?_
          first | ((with_reducible refine mk_nn ?_); refine n_isub dX11_remembers_47 (by omega) ?_) | refine e_isub dX11_remembers_47 ?_
          refine e_putI dX11_remembers_48 fl_X11_51 rfl rfl rfl rfl ?_
          exact EV_ls (by repeat (first | exact lsub_0 | refine lsub_n ?_ | refine lsub_s ?_)) (key2 _ _ 5 (by omega) (up2_s _ _ _ _) _ (by rw [up2_2]; exact xq rfl rfl rfl rfl rfl rfl))
      · try first | contradiction | omega
        all_goals
          refine e_aload_n dX11_remembers_19 rfl rfl ?_
          refine e_getR dX11_remembers_20 fl_X11_20 rfl (by assumption) ?_
          refine e_iload_n dX11_remembers_23 rfl rfl ?_
          refine e_sipush (v := nI 8558) dX11_remembers_24 rfl ?_
          first | ((with_reducible refine mk_nn ?_); refine n_isub dX11_remembers_27 (by omega) ?_) | refine e_isub dX11_remembers_27 ?_
          refine e_aload_n dX11_remembers_28 rfl rfl ?_
          refine e_getR dX11_remembers_29 fl_X11_20 rfl (by assumption) ?_
          refine e_iload_n dX11_remembers_32 rfl rfl ?_
          first | ((with_reducible refine mk_ldw ?_); refine e_ldw dX11_remembers_33 (by omega) ?_) | refine e_iald _ dX11_remembers_33 ⟨by decide, by decide⟩ rfl rfl (by simp only [lenK]; omega) ?_
          first | ((with_reducible refine mk_stw ?_); refine e_stw dX11_remembers_34 (by omega) ?_) | refine e_iast _ dX11_remembers_34 ⟨by decide, by decide⟩ rfl rfl (by simp only [lenK]; omega) ?_
          first | refine n_inc dX11_remembers_35 rfl (Nat.le_of_ble_eq_true rfl) rfl ?_ | refine e_iinc dX11_remembers_35 rfl rfl (Nat.le_of_ble_eq_true rfl) rfl ?_
          refine e_goto (tgt := 13) dX11_remembers_38 (by decide) ?_
          contradiction
      )
    have e0 : mW ai w = mW (sA ai (rf 33 84) (cpA (ai (rf 33 84)) (fun k => ai (rf 33 84) (k + 8558)) 0 0)) w := by rw [cpA_0, sA_self]
    rw [e0]
    refine e_aload_n dX11_remembers_0 rfl rfl ?_
    refine e_getI dX11_remembers_1 fl_X11_51 rfl ?_
    rw [hu]
    refine e_bipush (v := nI 6) dX11_remembers_4 rfl ?_
    first | ((with_reducible refine mk_mo ?_); refine p_icmp_ne (tgt := 51) dX11_remembers_6 (by decide) (fun h6 => ?_) (fun h6 => ?_)) | ((with_reducible refine mk_ms ?_); refine s_icmp_ne (tgt := 51) dX11_remembers_6 (by decide) (by omega) (fun h6 => ?_) (fun h6 => ?_)) | ((with_reducible refine mk_mn ?_); refine q_icmp_ne (tgt := 51) dX11_remembers_6 (by decide) (by omega) (fun h6 => ?_) (fun h6 => ?_)) | ((with_reducible refine mk_nn ?_); refine n_icmp_ne (tgt := 51) dX11_remembers_6 (by decide) (by omega) (by omega) (fun h6 => ?_) (fun h6 => ?_)) | refine e_icmp_ne (tgt := 51) dX11_remembers_6 (by decide) (fun h6 => ?_) (fun h6 => ?_)
    · try first | contradiction | omega
      all_goals
        contradiction
    · try first | contradiction | omega
      all_goals
        refine e_sipush (v := nI 8558) dX11_remembers_9 rfl ?_
        refine e_istore_n dX11_remembers_12 rfl (Nat.le_of_ble_eq_true rfl) rfl ?_
        exact key 0 (by omega)
  · have e0 : mW ai w = mW (sA ai (rf 33 84) (ai (rf 33 84))) w := by rw [sA_self]
    rw [e0]
    refine e_aload_n dX11_remembers_0 rfl rfl ?_
    refine e_getI dX11_remembers_1 fl_X11_51 rfl ?_
    rw [hu]
    refine e_bipush (v := nI 6) dX11_remembers_4 rfl ?_
    first | ((with_reducible refine mk_mo ?_); refine p_icmp_ne (tgt := 51) dX11_remembers_6 (by decide) (fun h6 => ?_) (fun h6 => ?_)) | ((with_reducible refine mk_ms ?_); refine s_icmp_ne (tgt := 51) dX11_remembers_6 (by decide) (by omega) (fun h6 => ?_) (fun h6 => ?_)) | ((with_reducible refine mk_mn ?_); refine q_icmp_ne (tgt := 51) dX11_remembers_6 (by decide) (by omega) (fun h6 => ?_) (fun h6 => ?_)) | ((with_reducible refine mk_nn ?_); refine n_icmp_ne (tgt := 51) dX11_remembers_6 (by decide) (by omega) (by omega) (fun h6 => ?_) (fun h6 => ?_)) | refine e_icmp_ne (tgt := 51) dX11_remembers_6 (by decide) (fun h6 => ?_) (fun h6 => ?_)
    · try first | contradiction | omega
      all_goals
        exact key2 _ _ u (by omega) hu _ (xq rfl (by unfold u1; rw [if_neg h6]) rfl (by unfold reU; rw [if_neg h6]) rfl rfl)
    · try first | contradiction | omega
      all_goals
        refine e_sipush (v := nI 8558) dX11_remembers_9 rfl ?_
        refine e_istore_n dX11_remembers_12 rfl (Nat.le_of_ble_eq_true rfl) rfl ?_
        contradiction
theorem ct_X11_acts {fi : FI} {fr : FR} {ai : FI} {ar : FR} {N : Nat} {w : Nat → Nat} (sm : SM fr) {u : Nat} (hu : fi (32 * 11 + 4) (rf 11 80) = nI u) (hu6 : u ≤ 6) {sc : Bool} (hsc : fi (32 * 11 + 8) (rf 11 80) = bI sc) : CP mX11_acts 1 0 0 [.ref (rf 11 80)] fi fr (mW ai w) ar N (xQ none (actF fi u sc) fr (mW (actA ai u sc w) w) ar N) := by
  obtain ⟨sW, sA0, sK, sU, sC, sKC, sT, sCl⟩ := id sm
  change EV mX11_acts 1 0 0 0 [some (.ref (rf 11 80))] [] fi fr (mW ai w) ar N _
  refine e_aload_n dX11_acts_0 rfl rfl ?_
  refine e_getI dX11_acts_1 fl_X11_110 rfl ?_
  rw [hsc]
  first | ((with_reducible refine mk_b ?_); refine b_if_ne (tgt := 15) dX11_acts_4 (by decide) (fun h4 => ?_) (fun h4 => ?_)) | ((with_reducible refine mk_ll ?_); refine m_if_ne (tgt := 15) dX11_acts_4 (by decide) (by omega) (by omega) (fun h4 => ?_) (fun h4 => ?_)) | ((with_reducible refine mk_lc ?_); refine l_if_ne (tgt := 15) dX11_acts_4 (by decide) (fun h4 => ?_) (fun h4 => ?_)) | ((with_reducible refine mk_n ?_); refine n_if_ne (tgt := 15) dX11_acts_4 (by decide) (by omega) (fun h4 => ?_) (fun h4 => ?_)) | refine e_if_ne (tgt := 15) dX11_acts_4 (by decide) (fun h4 => ?_) (fun h4 => ?_)
  · try first | contradiction | omega | (simp only [decide_eq_true_eq, decide_eq_false_iff_not] at h4; omega)
    all_goals
      refine e_ret none rfl (r_void dX11_acts_15 rfl) ?_
      refine xq rfl ?_ rfl ?_ rfl rfl <;> first | (unfold actF; first | rw [if_pos (by assumption)] | rw [if_neg (by simp_all)]) | (unfold actA; first | rw [if_pos (by assumption)] | rw [if_neg (by simp_all)])
  · try first | contradiction | omega | (simp only [decide_eq_true_eq, decide_eq_false_iff_not] at h4; omega)
    all_goals
      refine e_aload_n dX11_acts_7 rfl rfl ?_
      refine e_aload_n dX11_acts_8 rfl rfl ?_
      refine e_getR dX11_acts_9 fl_X11_7 rfl (by assumption) ?_
      refine y_V1 (M' := mX11_remembers) dX11_acts_12 ml_X11_114 ok_X11_remembers (by decide) rfl im_X11_remembers se_X11_remembers (ct_rememW ‹_› hu hu6) (Nat.le_of_ble_eq_true rfl) (by decide) (Nat.le_of_ble_eq_true rfl) ?_
      refine e_ret none rfl (r_void dX11_acts_15 rfl) ?_
      refine xq rfl ?_ rfl ?_ rfl rfl <;> first | (unfold actF; first | rw [if_pos (by assumption)] | rw [if_neg (by simp_all)]) | (unfold actA; first | rw [if_pos (by assumption)] | rw [if_neg (by simp_all)])
