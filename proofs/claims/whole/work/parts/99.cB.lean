theorem lc_21 {L n k z : Nat} {xs : Nat → Int32} {fi : FI} {fr : FR} {ai : FI} {ar : FR} {N : Nat} {Q : EQ} (hL : 6 * n + 6 ≤ L) (hL2 : L ≤ 3072) (h : LSt fi fr ai ar N n) (kk : ∀ fi fr ai ar N, LSt fi fr ai ar N (n + 1) → EV (mL L xs) 11 k z 1538 [some (.ref 60), some (.ref (rf 10 0)), some (.ref (rf 11 80)), some (.int (nI (6 * n)))] [] fi fr ai ar N Q) : EV (mL L xs) 11 (64 + k) (10800 + z) 820 [some (.ref 60), some (.ref (rf 10 0)), some (.ref (rf 11 80)), some (.int (nI (6 * n)))] [] fi fr ai ar N Q := by
  obtain ⟨w, lg, u, V, im, tp, t, fl, pl, rs, cs, ts, r, p⟩ := h
  have gw := p.1.1
  have hb := GB_0 p.1 (show n < 512 by omega)
  have hu6 := p.2.2.2.2.2.2.2
  have hep := hb.1
  refine e_aload_n dL_law_820 rfl rfl ?_
  refine e_aload_n dL_law_821 rfl rfl ?_
  refine e_iload_n dL_law_822 rfl rfl ?_
  refine e_iconst (v := nI 1) dL_law_823 rfl ?_
  refine n_iadd dL_law_824 ?_
  refine e_sl dL_law_825 (show 6 * n + 1 < L by omega) hL2 ?_
  refine e_aload_n dL_law_826 rfl rfl ?_
  refine e_iload_n dL_law_827 rfl rfl ?_
  refine e_iconst (v := nI 2) dL_law_828 rfl ?_
  refine n_iadd dL_law_829 ?_
  refine e_sl dL_law_830 (show 6 * n + 2 < L by omega) hL2 ?_
  refine e_callV (M' := mX10_span) (k' := 0) (z' := 0) (k2 := 64 + k) (z2 := 10800 + z) (As := [_, _]) dL_law_831 ml_L_105 ok_X10_span (by decide) rfl im_X10_span se_X10_span (ct_X10_span cs.1 gw.1 cs.2.2.1  (xs (6 * n + 1)) (xs (6 * n + 2)) ) rfl rfl (Nat.le_of_ble_eq_true rfl) (by decide) ⟨by omega, by omega⟩ (Nat.le_of_ble_eq_true rfl) (fun r1 f1 g1 a1 q1 n1 hI => ?_)
  obtain ⟨i1, i2, i3, i4, i5, i6⟩ := hI
  rw [i1, i2, i3, i4, i5, i6]
  clear i1 i2 i3 i4 i5 i6 r1 f1 g1 a1 q1 n1
  have cs1 := cs
  have fx : FX fi ai fi ai := FX_rf
  dsimp only [Option.toList, List.cons_append, List.nil_append]
  have sm := cs1.2.1
  have r1 : RS fi ai w lg u V im tp t fl pl rs := RS_fx r (fun f r x y => fx.1 f r (by omega)) (fun a x y => fx.2 a (by omega))
  have e81 : mW ai w = ai := mW_self r1.1
  have hsc : fi (32 * 11 + 8) (rf 11 80) = bI false := r1.2.2.1
  refine e_aload_n dL_law_834 rfl rfl ?_
  refine e_aload_n dL_law_835 rfl rfl ?_
  refine e_iload_n dL_law_836 rfl rfl ?_
  refine e_iconst (v := nI 1) dL_law_837 rfl ?_
  refine n_iadd dL_law_838 ?_
  refine e_sl dL_law_839 (show 6 * n + 1 < L by omega) hL2 ?_
  refine e_aload_n dL_law_840 rfl rfl ?_
  refine e_iload_n dL_law_841 rfl rfl ?_
  refine e_iconst (v := nI 2) dL_law_842 rfl ?_
  refine n_iadd dL_law_843 ?_
  refine e_sl dL_law_844 (show 6 * n + 2 < L by omega) hL2 ?_
  have hR := ct_X11_span (fi := fi) (ai := ai) (ar := ar) (N := N) (w := w) sm gw.1 (xs (6 * n + 1)) (xs (6 * n + 2)) 
  rw [e81] at hR
  refine e_callV (M' := mX11_span) (k' := 0) (z' := 0) (k2 := 64 + k) (z2 := 10800 + z) (As := [_, _]) dL_law_845 ml_L_108 ok_X11_span (by decide) rfl im_X11_span se_X11_span (hR) rfl rfl (Nat.le_of_ble_eq_true rfl) (by decide) ⟨by omega, by omega⟩ (Nat.le_of_ble_eq_true rfl) (fun r2 f2 g2 a2 q2 n2 hJ => ?_)
  obtain ⟨j1, j2, j3, j4, j5, j6⟩ := hJ
  rw [j1, j2, j3, j4, j5, j6]
  clear j1 j2 j3 j4 j5 j6 r2 f2 g2 a2 q2 n2
  dsimp only [Option.toList, List.cons_append, List.nil_append]
  have hls := LS_q cs1 fx ts r p
  refine e_icmp_eq (tgt := 1538) dL_law_848 (by decide) (fun _ => ?_) (fun hne => absurd rfl hne)
  exact e_wk (by omega) (by omega) (kk _ _ _ _ _ hls)
theorem lc_22 {L n k z : Nat} {xs : Nat → Int32} {fi : FI} {fr : FR} {ai : FI} {ar : FR} {N : Nat} {Q : EQ} (hL : 6 * n + 6 ≤ L) (hL2 : L ≤ 3072) (h : LSt fi fr ai ar N n) (kk : ∀ fi fr ai ar N, LSt fi fr ai ar N (n + 1) → EV (mL L xs) 11 k z 1538 [some (.ref 60), some (.ref (rf 10 0)), some (.ref (rf 11 80)), some (.int (nI (6 * n)))] [] fi fr ai ar N Q) : EV (mL L xs) 11 (64 + k) (10800 + z) 853 [some (.ref 60), some (.ref (rf 10 0)), some (.ref (rf 11 80)), some (.int (nI (6 * n)))] [] fi fr ai ar N Q := by
  obtain ⟨w, lg, u, V, im, tp, t, fl, pl, rs, cs, ts, r, p⟩ := h
  have gw := p.1.1
  have hb := GB_0 p.1 (show n < 512 by omega)
  have hu6 := p.2.2.2.2.2.2.2
  have hep := hb.1
  refine e_aload_n dL_law_853 rfl rfl ?_
  refine e_aload_n dL_law_854 rfl rfl ?_
  refine e_iload_n dL_law_855 rfl rfl ?_
  refine e_iconst (v := nI 1) dL_law_856 rfl ?_
  refine n_iadd dL_law_857 ?_
  refine e_sl dL_law_858 (show 6 * n + 1 < L by omega) hL2 ?_
  refine e_callV (M' := mX10_weight) (k' := 0) (z' := 0) (k2 := 64 + k) (z2 := 10800 + z) (As := [_]) dL_law_859 ml_L_109 ok_X10_weight (by decide) rfl im_X10_weight se_X10_weight (ct_X10_weight cs.1 gw.1 cs.2.2.1  (xs (6 * n + 1)) ) rfl rfl (Nat.le_of_ble_eq_true rfl) (by decide) ⟨by omega, by omega⟩ (Nat.le_of_ble_eq_true rfl) (fun r1 f1 g1 a1 q1 n1 hI => ?_)
  obtain ⟨i1, i2, i3, i4, hF, hK⟩ := hI
  rw [i1, i2, i3, i4]
  clear i1 i2 i3 i4 r1 g1 q1 n1
  obtain ⟨cs1, fx⟩ := CLS_k cs hF hK
  dsimp only [Option.toList, List.cons_append, List.nil_append]
  have sm := cs1.2.1
  have r1 : RS f1 a1 w lg u V im tp t fl pl rs := RS_fx r (fun f r x y => fx.1 f r (by omega)) (fun a x y => fx.2 a (by omega))
  have e81 : mW a1 w = a1 := mW_self r1.1
  have hsc : f1 (32 * 11 + 8) (rf 11 80) = bI false := r1.2.2.1
  refine e_aload_n dL_law_862 rfl rfl ?_
  refine e_aload_n dL_law_863 rfl rfl ?_
  refine e_iload_n dL_law_864 rfl rfl ?_
  refine e_iconst (v := nI 1) dL_law_865 rfl ?_
  refine n_iadd dL_law_866 ?_
  refine e_sl dL_law_867 (show 6 * n + 1 < L by omega) hL2 ?_
  have hR := ct_X11_weight (fi := f1) (ai := a1) (ar := ar) (N := N) (w := w) sm gw.1 (xs (6 * n + 1)) 
  rw [e81] at hR
  refine e_callV (M' := mX11_weight) (k' := 0) (z' := 0) (k2 := 64 + k) (z2 := 10800 + z) (As := [_]) dL_law_868 ml_L_113 ok_X11_weight (by decide) rfl im_X11_weight se_X11_weight (hR) rfl rfl (Nat.le_of_ble_eq_true rfl) (by decide) ⟨by omega, by omega⟩ (Nat.le_of_ble_eq_true rfl) (fun r2 f2 g2 a2 q2 n2 hJ => ?_)
  obtain ⟨j1, j2, j3, j4, j5, j6⟩ := hJ
  rw [j1, j2, j3, j4, j5, j6]
  clear j1 j2 j3 j4 j5 j6 r2 f2 g2 a2 q2 n2
  dsimp only [Option.toList, List.cons_append, List.nil_append]
  have hls := LS_q cs1 fx ts r p
  refine e_lcmp dL_law_871 ?_
  refine l_if_eq (tgt := 1538) dL_law_872 (by decide) (fun _ => ?_) (fun hne => absurd rfl hne)
  exact e_wk (by omega) (by omega) (kk _ _ _ _ _ hls)
theorem lc_23 {L n k z : Nat} {xs : Nat → Int32} {fi : FI} {fr : FR} {ai : FI} {ar : FR} {N : Nat} {Q : EQ} (hL : 6 * n + 6 ≤ L) (hL2 : L ≤ 3072) (h : LSt fi fr ai ar N n) (kk : ∀ fi fr ai ar N, LSt fi fr ai ar N (n + 1) → EV (mL L xs) 11 k z 1538 [some (.ref 60), some (.ref (rf 10 0)), some (.ref (rf 11 80)), some (.int (nI (6 * n)))] [] fi fr ai ar N Q) : EV (mL L xs) 11 (64 + k) (10800 + z) 877 [some (.ref 60), some (.ref (rf 10 0)), some (.ref (rf 11 80)), some (.int (nI (6 * n)))] [] fi fr ai ar N Q := by
  obtain ⟨w, lg, u, V, im, tp, t, fl, pl, rs, cs, ts, r, p⟩ := h
  have gw := p.1.1
  have hb := GB_0 p.1 (show n < 512 by omega)
  have hu6 := p.2.2.2.2.2.2.2
  have hep := hb.1
  refine e_aload_n dL_law_877 rfl rfl ?_
  refine e_aload_n dL_law_878 rfl rfl ?_
  refine e_iload_n dL_law_879 rfl rfl ?_
  refine e_iconst (v := nI 1) dL_law_880 rfl ?_
  refine n_iadd dL_law_881 ?_
  refine e_sl dL_law_882 (show 6 * n + 1 < L by omega) hL2 ?_
  refine e_callV (M' := mX10_middleOf) (k' := 0) (z' := 0) (k2 := 64 + k) (z2 := 10800 + z) (As := [_]) dL_law_883 ml_L_114 ok_X10_middleOf (by decide) rfl im_X10_middleOf se_X10_middleOf (ct_X10_middleOf cs.1 gw.1 cs.2.2.1  (xs (6 * n + 1)) ) rfl rfl (Nat.le_of_ble_eq_true rfl) (by decide) ⟨by omega, by omega⟩ (Nat.le_of_ble_eq_true rfl) (fun r1 f1 g1 a1 q1 n1 hI => ?_)
  obtain ⟨i1, i2, i3, i4, hF, hK⟩ := hI
  rw [i1, i2, i3, i4]
  clear i1 i2 i3 i4 r1 g1 q1 n1
  obtain ⟨cs1, fx⟩ := CLS_k cs hF hK
  dsimp only [Option.toList, List.cons_append, List.nil_append]
  have sm := cs1.2.1
  have r1 : RS f1 a1 w lg u V im tp t fl pl rs := RS_fx r (fun f r x y => fx.1 f r (by omega)) (fun a x y => fx.2 a (by omega))
  have e81 : mW a1 w = a1 := mW_self r1.1
  have hsc : f1 (32 * 11 + 8) (rf 11 80) = bI false := r1.2.2.1
  refine e_aload_n dL_law_886 rfl rfl ?_
  refine e_aload_n dL_law_887 rfl rfl ?_
  refine e_iload_n dL_law_888 rfl rfl ?_
  refine e_iconst (v := nI 1) dL_law_889 rfl ?_
  refine n_iadd dL_law_890 ?_
  refine e_sl dL_law_891 (show 6 * n + 1 < L by omega) hL2 ?_
  have hR := ct_X11_middleOf (fi := f1) (ai := a1) (ar := ar) (N := N) (w := w) sm gw.1 (xs (6 * n + 1)) 
  rw [e81] at hR
  refine e_callV (M' := mX11_middleOf) (k' := 0) (z' := 0) (k2 := 64 + k) (z2 := 10800 + z) (As := [_]) dL_law_892 ml_L_117 ok_X11_middleOf (by decide) rfl im_X11_middleOf se_X11_middleOf (hR) rfl rfl (Nat.le_of_ble_eq_true rfl) (by decide) ⟨by omega, by omega⟩ (Nat.le_of_ble_eq_true rfl) (fun r2 f2 g2 a2 q2 n2 hJ => ?_)
  obtain ⟨j1, j2, j3, j4, j5, j6⟩ := hJ
  rw [j1, j2, j3, j4, j5, j6]
  clear j1 j2 j3 j4 j5 j6 r2 f2 g2 a2 q2 n2
  dsimp only [Option.toList, List.cons_append, List.nil_append]
  have hls := LS_q cs1 fx ts r p
  refine e_icmp_eq (tgt := 1538) dL_law_895 (by decide) (fun _ => ?_) (fun hne => absurd rfl hne)
  exact e_wk (by omega) (by omega) (kk _ _ _ _ _ hls)
theorem lc_24 {L n k z : Nat} {xs : Nat → Int32} {fi : FI} {fr : FR} {ai : FI} {ar : FR} {N : Nat} {Q : EQ} (hL : 6 * n + 6 ≤ L) (hL2 : L ≤ 3072) (h : LSt fi fr ai ar N n) (kk : ∀ fi fr ai ar N, LSt fi fr ai ar N (n + 1) → EV (mL L xs) 11 k z 1538 [some (.ref 60), some (.ref (rf 10 0)), some (.ref (rf 11 80)), some (.int (nI (6 * n)))] [] fi fr ai ar N Q) : EV (mL L xs) 11 (64 + k) (10800 + z) 900 [some (.ref 60), some (.ref (rf 10 0)), some (.ref (rf 11 80)), some (.int (nI (6 * n)))] [] fi fr ai ar N Q := by
  obtain ⟨w, lg, u, V, im, tp, t, fl, pl, rs, cs, ts, r, p⟩ := h
  have gw := p.1.1
  have hb := GB_0 p.1 (show n < 512 by omega)
  have hu6 := p.2.2.2.2.2.2.2
  have hep := hb.1
  refine e_aload_n dL_law_900 rfl rfl ?_
  refine e_aload_n dL_law_901 rfl rfl ?_
  refine e_iload_n dL_law_902 rfl rfl ?_
  refine e_iconst (v := nI 1) dL_law_903 rfl ?_
  refine n_iadd dL_law_904 ?_
  refine e_sl dL_law_905 (show 6 * n + 1 < L by omega) hL2 ?_
  refine e_callV (M' := mX10_lowOf) (k' := 0) (z' := 0) (k2 := 64 + k) (z2 := 10800 + z) (As := [_]) dL_law_906 ml_L_118 ok_X10_lowOf (by decide) rfl im_X10_lowOf se_X10_lowOf (ct_X10_lowOf cs.1 gw.1 cs.2.2.1  (xs (6 * n + 1)) ) rfl rfl (Nat.le_of_ble_eq_true rfl) (by decide) ⟨by omega, by omega⟩ (Nat.le_of_ble_eq_true rfl) (fun r1 f1 g1 a1 q1 n1 hI => ?_)
  obtain ⟨i1, i2, i3, i4, i5, i6⟩ := hI
  rw [i1, i2, i3, i4, i5, i6]
  clear i1 i2 i3 i4 i5 i6 r1 f1 g1 a1 q1 n1
  have cs1 := cs
  have fx : FX fi ai fi ai := FX_rf
  dsimp only [Option.toList, List.cons_append, List.nil_append]
  have sm := cs1.2.1
  have r1 : RS fi ai w lg u V im tp t fl pl rs := RS_fx r (fun f r x y => fx.1 f r (by omega)) (fun a x y => fx.2 a (by omega))
  have e81 : mW ai w = ai := mW_self r1.1
  have hsc : fi (32 * 11 + 8) (rf 11 80) = bI false := r1.2.2.1
  refine e_aload_n dL_law_909 rfl rfl ?_
  refine e_aload_n dL_law_910 rfl rfl ?_
  refine e_iload_n dL_law_911 rfl rfl ?_
  refine e_iconst (v := nI 1) dL_law_912 rfl ?_
  refine n_iadd dL_law_913 ?_
  refine e_sl dL_law_914 (show 6 * n + 1 < L by omega) hL2 ?_
  have hR := ct_X11_lowOf (fi := fi) (ai := ai) (ar := ar) (N := N) (w := w) sm gw.1 (xs (6 * n + 1)) 
  rw [e81] at hR
  refine e_callV (M' := mX11_lowOf) (k' := 0) (z' := 0) (k2 := 64 + k) (z2 := 10800 + z) (As := [_]) dL_law_915 ml_L_121 ok_X11_lowOf (by decide) rfl im_X11_lowOf se_X11_lowOf (hR) rfl rfl (Nat.le_of_ble_eq_true rfl) (by decide) ⟨by omega, by omega⟩ (Nat.le_of_ble_eq_true rfl) (fun r2 f2 g2 a2 q2 n2 hJ => ?_)
  obtain ⟨j1, j2, j3, j4, j5, j6⟩ := hJ
  rw [j1, j2, j3, j4, j5, j6]
  clear j1 j2 j3 j4 j5 j6 r2 f2 g2 a2 q2 n2
  dsimp only [Option.toList, List.cons_append, List.nil_append]
  have hls := LS_q cs1 fx ts r p
  refine e_icmp_eq (tgt := 1538) dL_law_918 (by decide) (fun _ => ?_) (fun hne => absurd rfl hne)
  exact e_wk (by omega) (by omega) (kk _ _ _ _ _ hls)
theorem lc_25 {L n k z : Nat} {xs : Nat → Int32} {fi : FI} {fr : FR} {ai : FI} {ar : FR} {N : Nat} {Q : EQ} (hL : 6 * n + 6 ≤ L) (hL2 : L ≤ 3072) (h : LSt fi fr ai ar N n) (kk : ∀ fi fr ai ar N, LSt fi fr ai ar N (n + 1) → EV (mL L xs) 11 k z 1538 [some (.ref 60), some (.ref (rf 10 0)), some (.ref (rf 11 80)), some (.int (nI (6 * n)))] [] fi fr ai ar N Q) : EV (mL L xs) 11 (64 + k) (10800 + z) 923 [some (.ref 60), some (.ref (rf 10 0)), some (.ref (rf 11 80)), some (.int (nI (6 * n)))] [] fi fr ai ar N Q := by
  obtain ⟨w, lg, u, V, im, tp, t, fl, pl, rs, cs, ts, r, p⟩ := h
  have gw := p.1.1
  have hb := GB_0 p.1 (show n < 512 by omega)
  have hu6 := p.2.2.2.2.2.2.2
  have hep := hb.1
  refine e_aload_n dL_law_923 rfl rfl ?_
  refine e_aload_n dL_law_924 rfl rfl ?_
  refine e_iload_n dL_law_925 rfl rfl ?_
  refine e_iconst (v := nI 1) dL_law_926 rfl ?_
  refine n_iadd dL_law_927 ?_
  refine e_sl dL_law_928 (show 6 * n + 1 < L by omega) hL2 ?_
  refine e_aload_n dL_law_929 rfl rfl ?_
  refine e_iload_n dL_law_930 rfl rfl ?_
  refine e_iconst (v := nI 2) dL_law_931 rfl ?_
  refine n_iadd dL_law_932 ?_
  refine e_sl dL_law_933 (show 6 * n + 2 < L by omega) hL2 ?_
  refine e_callV (M' := mX10_server) (k' := 0) (z' := 0) (k2 := 64 + k) (z2 := 10800 + z) (As := [_, _]) dL_law_934 ml_L_122 ok_X10_server (by decide) rfl im_X10_server se_X10_server (ct_X10_server cs.1 gw.1 cs.2.2.1  (xs (6 * n + 1)) (xs (6 * n + 2)) ) rfl rfl (Nat.le_of_ble_eq_true rfl) (by decide) ⟨by omega, by omega⟩ (Nat.le_of_ble_eq_true rfl) (fun r1 f1 g1 a1 q1 n1 hI => ?_)
  obtain ⟨i1, i2, i3, i4, i5, i6⟩ := hI
  rw [i1, i2, i3, i4, i5, i6]
  clear i1 i2 i3 i4 i5 i6 r1 f1 g1 a1 q1 n1
  have cs1 := cs
  have fx : FX fi ai fi ai := FX_rf
  dsimp only [Option.toList, List.cons_append, List.nil_append]
  have sm := cs1.2.1
  have r1 : RS fi ai w lg u V im tp t fl pl rs := RS_fx r (fun f r x y => fx.1 f r (by omega)) (fun a x y => fx.2 a (by omega))
  have e81 : mW ai w = ai := mW_self r1.1
  have hsc : fi (32 * 11 + 8) (rf 11 80) = bI false := r1.2.2.1
  refine e_aload_n dL_law_937 rfl rfl ?_
  refine e_aload_n dL_law_938 rfl rfl ?_
  refine e_iload_n dL_law_939 rfl rfl ?_
  refine e_iconst (v := nI 1) dL_law_940 rfl ?_
  refine n_iadd dL_law_941 ?_
  refine e_sl dL_law_942 (show 6 * n + 1 < L by omega) hL2 ?_
  refine e_aload_n dL_law_943 rfl rfl ?_
  refine e_iload_n dL_law_944 rfl rfl ?_
  refine e_iconst (v := nI 2) dL_law_945 rfl ?_
  refine n_iadd dL_law_946 ?_
  refine e_sl dL_law_947 (show 6 * n + 2 < L by omega) hL2 ?_
  have hR := ct_X11_server (fi := fi) (ai := ai) (ar := ar) (N := N) (w := w) sm gw.1 (xs (6 * n + 1)) (xs (6 * n + 2)) 
  rw [e81] at hR
  refine e_callV (M' := mX11_server) (k' := 0) (z' := 0) (k2 := 64 + k) (z2 := 10800 + z) (As := [_, _]) dL_law_948 ml_L_125 ok_X11_server (by decide) rfl im_X11_server se_X11_server (hR) rfl rfl (Nat.le_of_ble_eq_true rfl) (by decide) ⟨by omega, by omega⟩ (Nat.le_of_ble_eq_true rfl) (fun r2 f2 g2 a2 q2 n2 hJ => ?_)
  obtain ⟨j1, j2, j3, j4, j5, j6⟩ := hJ
  rw [j1, j2, j3, j4, j5, j6]
  clear j1 j2 j3 j4 j5 j6 r2 f2 g2 a2 q2 n2
  dsimp only [Option.toList, List.cons_append, List.nil_append]
  have hls := LS_q cs1 fx ts r p
  refine e_icmp_eq (tgt := 1538) dL_law_951 (by decide) (fun _ => ?_) (fun hne => absurd rfl hne)
  exact e_wk (by omega) (by omega) (kk _ _ _ _ _ hls)
theorem lc_26 {L n k z : Nat} {xs : Nat → Int32} {fi : FI} {fr : FR} {ai : FI} {ar : FR} {N : Nat} {Q : EQ} (hL : 6 * n + 6 ≤ L) (hL2 : L ≤ 3072) (h : LSt fi fr ai ar N n) (kk : ∀ fi fr ai ar N, LSt fi fr ai ar N (n + 1) → EV (mL L xs) 11 k z 1538 [some (.ref 60), some (.ref (rf 10 0)), some (.ref (rf 11 80)), some (.int (nI (6 * n)))] [] fi fr ai ar N Q) : EV (mL L xs) 11 (64 + k) (10800 + z) 956 [some (.ref 60), some (.ref (rf 10 0)), some (.ref (rf 11 80)), some (.int (nI (6 * n)))] [] fi fr ai ar N Q := by
  obtain ⟨w, lg, u, V, im, tp, t, fl, pl, rs, cs, ts, r, p⟩ := h
  have gw := p.1.1
  have hb := GB_0 p.1 (show n < 512 by omega)
  have hu6 := p.2.2.2.2.2.2.2
  have hep := hb.1
  refine e_aload_n dL_law_956 rfl rfl ?_
  refine e_aload_n dL_law_957 rfl rfl ?_
  refine e_iload_n dL_law_958 rfl rfl ?_
  refine e_iconst (v := nI 1) dL_law_959 rfl ?_
  refine n_iadd dL_law_960 ?_
  refine e_sl dL_law_961 (show 6 * n + 1 < L by omega) hL2 ?_
  refine e_callV (M' := mX10_load) (k' := 0) (z' := 0) (k2 := 64 + k) (z2 := 10800 + z) (As := [_]) dL_law_962 ml_L_126 ok_X10_load (by decide) rfl im_X10_load se_X10_load (ct_X10_load cs.1 gw.1 cs.2.2.1  (xs (6 * n + 1)) ) rfl rfl (Nat.le_of_ble_eq_true rfl) (by decide) ⟨by omega, by omega⟩ (Nat.le_of_ble_eq_true rfl) (fun r1 f1 g1 a1 q1 n1 hI => ?_)
  obtain ⟨i1, i2, i3, i4, hF, hK⟩ := hI
  rw [i1, i2, i3, i4]
  clear i1 i2 i3 i4 r1 g1 q1 n1
  obtain ⟨cs1, fx⟩ := CLS_k cs hF hK
  dsimp only [Option.toList, List.cons_append, List.nil_append]
  have sm := cs1.2.1
  have r1 : RS f1 a1 w lg u V im tp t fl pl rs := RS_fx r (fun f r x y => fx.1 f r (by omega)) (fun a x y => fx.2 a (by omega))
  have e81 : mW a1 w = a1 := mW_self r1.1
  have hsc : f1 (32 * 11 + 8) (rf 11 80) = bI false := r1.2.2.1
  refine e_aload_n dL_law_965 rfl rfl ?_
  refine e_aload_n dL_law_966 rfl rfl ?_
  refine e_iload_n dL_law_967 rfl rfl ?_
  refine e_iconst (v := nI 1) dL_law_968 rfl ?_
  refine n_iadd dL_law_969 ?_
  refine e_sl dL_law_970 (show 6 * n + 1 < L by omega) hL2 ?_
  have hR := ct_X11_load (fi := f1) (ai := a1) (ar := ar) (N := N) (w := w) sm gw.1 (xs (6 * n + 1)) 
  rw [e81] at hR
  refine e_callV (M' := mX11_load) (k' := 0) (z' := 0) (k2 := 64 + k) (z2 := 10800 + z) (As := [_]) dL_law_971 ml_L_129 ok_X11_load (by decide) rfl im_X11_load se_X11_load (hR) rfl rfl (Nat.le_of_ble_eq_true rfl) (by decide) ⟨by omega, by omega⟩ (Nat.le_of_ble_eq_true rfl) (fun r2 f2 g2 a2 q2 n2 hJ => ?_)
  obtain ⟨j1, j2, j3, j4, j5, j6⟩ := hJ
  rw [j1, j2, j3, j4, j5, j6]
  clear j1 j2 j3 j4 j5 j6 r2 f2 g2 a2 q2 n2
  dsimp only [Option.toList, List.cons_append, List.nil_append]
  have hls := LS_q cs1 fx ts r p
  refine e_lcmp dL_law_974 ?_
  refine l_if_eq (tgt := 1538) dL_law_975 (by decide) (fun _ => ?_) (fun hne => absurd rfl hne)
  exact e_wk (by omega) (by omega) (kk _ _ _ _ _ hls)
theorem lc_27 {L n k z : Nat} {xs : Nat → Int32} {fi : FI} {fr : FR} {ai : FI} {ar : FR} {N : Nat} {Q : EQ} (hL : 6 * n + 6 ≤ L) (hL2 : L ≤ 3072) (h : LSt fi fr ai ar N n) (kk : ∀ fi fr ai ar N, LSt fi fr ai ar N (n + 1) → EV (mL L xs) 11 k z 1538 [some (.ref 60), some (.ref (rf 10 0)), some (.ref (rf 11 80)), some (.int (nI (6 * n)))] [] fi fr ai ar N Q) : EV (mL L xs) 11 (64 + k) (10800 + z) 980 [some (.ref 60), some (.ref (rf 10 0)), some (.ref (rf 11 80)), some (.int (nI (6 * n)))] [] fi fr ai ar N Q := by
  obtain ⟨w, lg, u, V, im, tp, t, fl, pl, rs, cs, ts, r, p⟩ := h
  have gw := p.1.1
  have hb := GB_0 p.1 (show n < 512 by omega)
  have hu6 := p.2.2.2.2.2.2.2
  have hep := hb.1
  refine e_aload_n dL_law_980 rfl rfl ?_
  refine e_aload_n dL_law_981 rfl rfl ?_
  refine e_iload_n dL_law_982 rfl rfl ?_
  refine e_iconst (v := nI 1) dL_law_983 rfl ?_
  refine n_iadd dL_law_984 ?_
  refine e_sl dL_law_985 (show 6 * n + 1 < L by omega) hL2 ?_
  refine e_aload_n dL_law_986 rfl rfl ?_
  refine e_iload_n dL_law_987 rfl rfl ?_
  refine e_iconst (v := nI 2) dL_law_988 rfl ?_
  refine n_iadd dL_law_989 ?_
  refine e_sl dL_law_990 (show 6 * n + 2 < L by omega) hL2 ?_
  refine e_callV (M' := mX10_stored) (k' := 0) (z' := 0) (k2 := 64 + k) (z2 := 10800 + z) (As := [_, _]) dL_law_991 ml_L_130 ok_X10_stored (by decide) rfl im_X10_stored se_X10_stored (ct_X10_stored cs.1 gw.1 cs.2.2.1  (xs (6 * n + 1)) (xs (6 * n + 2)) ) rfl rfl (Nat.le_of_ble_eq_true rfl) (by decide) ⟨by omega, by omega⟩ (Nat.le_of_ble_eq_true rfl) (fun r1 f1 g1 a1 q1 n1 hI => ?_)
  obtain ⟨i1, i2, i3, i4, i5, i6⟩ := hI
  rw [i1, i2, i3, i4, i5, i6]
  clear i1 i2 i3 i4 i5 i6 r1 f1 g1 a1 q1 n1
  have cs1 := cs
  have fx : FX fi ai fi ai := FX_rf
  dsimp only [Option.toList, List.cons_append, List.nil_append]
  have sm := cs1.2.1
  have r1 : RS fi ai w lg u V im tp t fl pl rs := RS_fx r (fun f r x y => fx.1 f r (by omega)) (fun a x y => fx.2 a (by omega))
  have e81 : mW ai w = ai := mW_self r1.1
  have hsc : fi (32 * 11 + 8) (rf 11 80) = bI false := r1.2.2.1
  refine e_aload_n dL_law_994 rfl rfl ?_
  refine e_aload_n dL_law_995 rfl rfl ?_
  refine e_iload_n dL_law_996 rfl rfl ?_
  refine e_iconst (v := nI 1) dL_law_997 rfl ?_
  refine n_iadd dL_law_998 ?_
  refine e_sl dL_law_999 (show 6 * n + 1 < L by omega) hL2 ?_
  refine e_aload_n dL_law_1000 rfl rfl ?_
  refine e_iload_n dL_law_1001 rfl rfl ?_
  refine e_iconst (v := nI 2) dL_law_1002 rfl ?_
  refine n_iadd dL_law_1003 ?_
  refine e_sl dL_law_1004 (show 6 * n + 2 < L by omega) hL2 ?_
  have hR := ct_X11_stored (fi := fi) (ai := ai) (ar := ar) (N := N) (w := w) sm gw.1 (xs (6 * n + 1)) (xs (6 * n + 2)) 
  rw [e81] at hR
  refine e_callV (M' := mX11_stored) (k' := 0) (z' := 0) (k2 := 64 + k) (z2 := 10800 + z) (As := [_, _]) dL_law_1005 ml_L_133 ok_X11_stored (by decide) rfl im_X11_stored se_X11_stored (hR) rfl rfl (Nat.le_of_ble_eq_true rfl) (by decide) ⟨by omega, by omega⟩ (Nat.le_of_ble_eq_true rfl) (fun r2 f2 g2 a2 q2 n2 hJ => ?_)
  obtain ⟨j1, j2, j3, j4, j5, j6⟩ := hJ
  rw [j1, j2, j3, j4, j5, j6]
  clear j1 j2 j3 j4 j5 j6 r2 f2 g2 a2 q2 n2
  dsimp only [Option.toList, List.cons_append, List.nil_append]
  have hls := LS_q cs1 fx ts r p
  refine e_icmp_eq (tgt := 1538) dL_law_1008 (by decide) (fun _ => ?_) (fun hne => absurd rfl hne)
  exact e_wk (by omega) (by omega) (kk _ _ _ _ _ hls)
theorem lc_28 {L n k z : Nat} {xs : Nat → Int32} {fi : FI} {fr : FR} {ai : FI} {ar : FR} {N : Nat} {Q : EQ} (hL : 6 * n + 6 ≤ L) (hL2 : L ≤ 3072) (h : LSt fi fr ai ar N n) (kk : ∀ fi fr ai ar N, LSt fi fr ai ar N (n + 1) → EV (mL L xs) 11 k z 1538 [some (.ref 60), some (.ref (rf 10 0)), some (.ref (rf 11 80)), some (.int (nI (6 * n)))] [] fi fr ai ar N Q) : EV (mL L xs) 11 (64 + k) (10800 + z) 1013 [some (.ref 60), some (.ref (rf 10 0)), some (.ref (rf 11 80)), some (.int (nI (6 * n)))] [] fi fr ai ar N Q := by
  obtain ⟨w, lg, u, V, im, tp, t, fl, pl, rs, cs, ts, r, p⟩ := h
  have gw := p.1.1
  have hb := GB_0 p.1 (show n < 512 by omega)
  have hu6 := p.2.2.2.2.2.2.2
  have hep := hb.1
  refine e_aload_n dL_law_1013 rfl rfl ?_
  refine e_aload_n dL_law_1014 rfl rfl ?_
  refine e_iload_n dL_law_1015 rfl rfl ?_
  refine e_iconst (v := nI 1) dL_law_1016 rfl ?_
  refine n_iadd dL_law_1017 ?_
  refine e_sl dL_law_1018 (show 6 * n + 1 < L by omega) hL2 ?_
  refine e_aload_n dL_law_1019 rfl rfl ?_
  refine e_iload_n dL_law_1020 rfl rfl ?_
  refine e_iconst (v := nI 2) dL_law_1021 rfl ?_
  refine n_iadd dL_law_1022 ?_
  refine e_sl dL_law_1023 (show 6 * n + 2 < L by omega) hL2 ?_
  refine e_callV (M' := mX10_clientOf) (k' := 0) (z' := 0) (k2 := 64 + k) (z2 := 10800 + z) (As := [_, _]) dL_law_1024 ml_L_134 ok_X10_clientOf (by decide) rfl im_X10_clientOf se_X10_clientOf (ct_X10_clientOf cs.1 gw.1 cs.2.2.1  (xs (6 * n + 1)) (xs (6 * n + 2)) ) rfl rfl (Nat.le_of_ble_eq_true rfl) (by decide) ⟨by omega, by omega⟩ (Nat.le_of_ble_eq_true rfl) (fun r1 f1 g1 a1 q1 n1 hI => ?_)
  obtain ⟨i1, i2, i3, i4, i5, i6⟩ := hI
  rw [i1, i2, i3, i4, i5, i6]
  clear i1 i2 i3 i4 i5 i6 r1 f1 g1 a1 q1 n1
  have cs1 := cs
  have fx : FX fi ai fi ai := FX_rf
  dsimp only [Option.toList, List.cons_append, List.nil_append]
  have sm := cs1.2.1
  have r1 : RS fi ai w lg u V im tp t fl pl rs := RS_fx r (fun f r x y => fx.1 f r (by omega)) (fun a x y => fx.2 a (by omega))
  have e81 : mW ai w = ai := mW_self r1.1
  have hsc : fi (32 * 11 + 8) (rf 11 80) = bI false := r1.2.2.1
  refine e_aload_n dL_law_1027 rfl rfl ?_
  refine e_aload_n dL_law_1028 rfl rfl ?_
  refine e_iload_n dL_law_1029 rfl rfl ?_
  refine e_iconst (v := nI 1) dL_law_1030 rfl ?_
  refine n_iadd dL_law_1031 ?_
  refine e_sl dL_law_1032 (show 6 * n + 1 < L by omega) hL2 ?_
  refine e_aload_n dL_law_1033 rfl rfl ?_
  refine e_iload_n dL_law_1034 rfl rfl ?_
  refine e_iconst (v := nI 2) dL_law_1035 rfl ?_
  refine n_iadd dL_law_1036 ?_
  refine e_sl dL_law_1037 (show 6 * n + 2 < L by omega) hL2 ?_
  have hR := ct_X11_clientOf (fi := fi) (ai := ai) (ar := ar) (N := N) (w := w) sm gw.1 (xs (6 * n + 1)) (xs (6 * n + 2)) 
  rw [e81] at hR
  refine e_callV (M' := mX11_clientOf) (k' := 0) (z' := 0) (k2 := 64 + k) (z2 := 10800 + z) (As := [_, _]) dL_law_1038 ml_L_137 ok_X11_clientOf (by decide) rfl im_X11_clientOf se_X11_clientOf (hR) rfl rfl (Nat.le_of_ble_eq_true rfl) (by decide) ⟨by omega, by omega⟩ (Nat.le_of_ble_eq_true rfl) (fun r2 f2 g2 a2 q2 n2 hJ => ?_)
  obtain ⟨j1, j2, j3, j4, j5, j6⟩ := hJ
  rw [j1, j2, j3, j4, j5, j6]
  clear j1 j2 j3 j4 j5 j6 r2 f2 g2 a2 q2 n2
  dsimp only [Option.toList, List.cons_append, List.nil_append]
  have hls := LS_q cs1 fx ts r p
  refine e_icmp_eq (tgt := 1538) dL_law_1041 (by decide) (fun _ => ?_) (fun hne => absurd rfl hne)
  exact e_wk (by omega) (by omega) (kk _ _ _ _ _ hls)
theorem lc_29 {L n k z : Nat} {xs : Nat → Int32} {fi : FI} {fr : FR} {ai : FI} {ar : FR} {N : Nat} {Q : EQ} (hL : 6 * n + 6 ≤ L) (hL2 : L ≤ 3072) (h : LSt fi fr ai ar N n) (kk : ∀ fi fr ai ar N, LSt fi fr ai ar N (n + 1) → EV (mL L xs) 11 k z 1538 [some (.ref 60), some (.ref (rf 10 0)), some (.ref (rf 11 80)), some (.int (nI (6 * n)))] [] fi fr ai ar N Q) : EV (mL L xs) 11 (64 + k) (10800 + z) 1046 [some (.ref 60), some (.ref (rf 10 0)), some (.ref (rf 11 80)), some (.int (nI (6 * n)))] [] fi fr ai ar N Q := by
  obtain ⟨w, lg, u, V, im, tp, t, fl, pl, rs, cs, ts, r, p⟩ := h
  have gw := p.1.1
  have hb := GB_0 p.1 (show n < 512 by omega)
  have hu6 := p.2.2.2.2.2.2.2
  have hep := hb.1
  refine e_aload_n dL_law_1046 rfl rfl ?_
  refine e_aload_n dL_law_1047 rfl rfl ?_
  refine e_iload_n dL_law_1048 rfl rfl ?_
  refine e_iconst (v := nI 1) dL_law_1049 rfl ?_
  refine n_iadd dL_law_1050 ?_
  refine e_sl dL_law_1051 (show 6 * n + 1 < L by omega) hL2 ?_
  refine e_aload_n dL_law_1052 rfl rfl ?_
  refine e_iload_n dL_law_1053 rfl rfl ?_
  refine e_iconst (v := nI 2) dL_law_1054 rfl ?_
  refine n_iadd dL_law_1055 ?_
  refine e_sl dL_law_1056 (show 6 * n + 2 < L by omega) hL2 ?_
  refine e_callV (M' := mX10_moveOf) (k' := 0) (z' := 0) (k2 := 64 + k) (z2 := 10800 + z) (As := [_, _]) dL_law_1057 ml_L_138 ok_X10_moveOf (by decide) rfl im_X10_moveOf se_X10_moveOf (ct_X10_moveOf cs.1 gw.1 cs.2.2.1  (xs (6 * n + 1)) (xs (6 * n + 2)) ) rfl rfl (Nat.le_of_ble_eq_true rfl) (by decide) ⟨by omega, by omega⟩ (Nat.le_of_ble_eq_true rfl) (fun r1 f1 g1 a1 q1 n1 hI => ?_)
  obtain ⟨i1, i2, i3, i4, i5, i6⟩ := hI
  rw [i1, i2, i3, i4, i5, i6]
  clear i1 i2 i3 i4 i5 i6 r1 f1 g1 a1 q1 n1
  have cs1 := cs
  have fx : FX fi ai fi ai := FX_rf
  dsimp only [Option.toList, List.cons_append, List.nil_append]
  have sm := cs1.2.1
  have r1 : RS fi ai w lg u V im tp t fl pl rs := RS_fx r (fun f r x y => fx.1 f r (by omega)) (fun a x y => fx.2 a (by omega))
  have e81 : mW ai w = ai := mW_self r1.1
  have hsc : fi (32 * 11 + 8) (rf 11 80) = bI false := r1.2.2.1
  refine e_aload_n dL_law_1060 rfl rfl ?_
  refine e_aload_n dL_law_1061 rfl rfl ?_
  refine e_iload_n dL_law_1062 rfl rfl ?_
  refine e_iconst (v := nI 1) dL_law_1063 rfl ?_
  refine n_iadd dL_law_1064 ?_
  refine e_sl dL_law_1065 (show 6 * n + 1 < L by omega) hL2 ?_
  refine e_aload_n dL_law_1066 rfl rfl ?_
  refine e_iload_n dL_law_1067 rfl rfl ?_
  refine e_iconst (v := nI 2) dL_law_1068 rfl ?_
  refine n_iadd dL_law_1069 ?_
  refine e_sl dL_law_1070 (show 6 * n + 2 < L by omega) hL2 ?_
  have hR := ct_X11_moveOf (fi := fi) (ai := ai) (ar := ar) (N := N) (w := w) sm gw.1 (xs (6 * n + 1)) (xs (6 * n + 2)) 
  rw [e81] at hR
  refine e_callV (M' := mX11_moveOf) (k' := 0) (z' := 0) (k2 := 64 + k) (z2 := 10800 + z) (As := [_, _]) dL_law_1071 ml_L_141 ok_X11_moveOf (by decide) rfl im_X11_moveOf se_X11_moveOf (hR) rfl rfl (Nat.le_of_ble_eq_true rfl) (by decide) ⟨by omega, by omega⟩ (Nat.le_of_ble_eq_true rfl) (fun r2 f2 g2 a2 q2 n2 hJ => ?_)
  obtain ⟨j1, j2, j3, j4, j5, j6⟩ := hJ
  rw [j1, j2, j3, j4, j5, j6]
  clear j1 j2 j3 j4 j5 j6 r2 f2 g2 a2 q2 n2
  dsimp only [Option.toList, List.cons_append, List.nil_append]
  have hls := LS_q cs1 fx ts r p
  refine e_icmp_eq (tgt := 1538) dL_law_1074 (by decide) (fun _ => ?_) (fun hne => absurd rfl hne)
  exact e_wk (by omega) (by omega) (kk _ _ _ _ _ hls)
theorem lc_30 {L n k z : Nat} {xs : Nat → Int32} {fi : FI} {fr : FR} {ai : FI} {ar : FR} {N : Nat} {Q : EQ} (hL : 6 * n + 6 ≤ L) (hL2 : L ≤ 3072) (h : LSt fi fr ai ar N n) (kk : ∀ fi fr ai ar N, LSt fi fr ai ar N (n + 1) → EV (mL L xs) 11 k z 1538 [some (.ref 60), some (.ref (rf 10 0)), some (.ref (rf 11 80)), some (.int (nI (6 * n)))] [] fi fr ai ar N Q) : EV (mL L xs) 11 (64 + k) (10800 + z) 1079 [some (.ref 60), some (.ref (rf 10 0)), some (.ref (rf 11 80)), some (.int (nI (6 * n)))] [] fi fr ai ar N Q := by
  obtain ⟨w, lg, u, V, im, tp, t, fl, pl, rs, cs, ts, r, p⟩ := h
  have gw := p.1.1
  have hb := GB_0 p.1 (show n < 512 by omega)
  have hu6 := p.2.2.2.2.2.2.2
  have hep := hb.1
  refine e_aload_n dL_law_1079 rfl rfl ?_
  refine e_aload_n dL_law_1080 rfl rfl ?_
  refine e_iload_n dL_law_1081 rfl rfl ?_
  refine e_iconst (v := nI 1) dL_law_1082 rfl ?_
  refine n_iadd dL_law_1083 ?_
  refine e_sl dL_law_1084 (show 6 * n + 1 < L by omega) hL2 ?_
  refine e_aload_n dL_law_1085 rfl rfl ?_
  refine e_iload_n dL_law_1086 rfl rfl ?_
  refine e_iconst (v := nI 2) dL_law_1087 rfl ?_
  refine n_iadd dL_law_1088 ?_
  refine e_sl dL_law_1089 (show 6 * n + 2 < L by omega) hL2 ?_
  refine e_callV (M' := mX10_trail) (k' := 0) (z' := 0) (k2 := 64 + k) (z2 := 10800 + z) (As := [_, _]) dL_law_1090 ml_L_142 ok_X10_trail (by decide) rfl im_X10_trail se_X10_trail (ct_X10_trail cs.1 gw.1 cs.2.2.1  (xs (6 * n + 1)) (xs (6 * n + 2)) ) rfl rfl (Nat.le_of_ble_eq_true rfl) (by decide) ⟨by omega, by omega⟩ (Nat.le_of_ble_eq_true rfl) (fun r1 f1 g1 a1 q1 n1 hI => ?_)
  obtain ⟨i1, i2, i3, i4, i5, i6⟩ := hI
  rw [i1, i2, i3, i4, i5, i6]
  clear i1 i2 i3 i4 i5 i6 r1 f1 g1 a1 q1 n1
  have cs1 := cs
  have fx : FX fi ai fi ai := FX_rf
  dsimp only [Option.toList, List.cons_append, List.nil_append]
  have sm := cs1.2.1
  have r1 : RS fi ai w lg u V im tp t fl pl rs := RS_fx r (fun f r x y => fx.1 f r (by omega)) (fun a x y => fx.2 a (by omega))
  have e81 : mW ai w = ai := mW_self r1.1
  have hsc : fi (32 * 11 + 8) (rf 11 80) = bI false := r1.2.2.1
  refine e_aload_n dL_law_1093 rfl rfl ?_
  refine e_aload_n dL_law_1094 rfl rfl ?_
  refine e_iload_n dL_law_1095 rfl rfl ?_
  refine e_iconst (v := nI 1) dL_law_1096 rfl ?_
  refine n_iadd dL_law_1097 ?_
  refine e_sl dL_law_1098 (show 6 * n + 1 < L by omega) hL2 ?_
  refine e_aload_n dL_law_1099 rfl rfl ?_
  refine e_iload_n dL_law_1100 rfl rfl ?_
  refine e_iconst (v := nI 2) dL_law_1101 rfl ?_
  refine n_iadd dL_law_1102 ?_
  refine e_sl dL_law_1103 (show 6 * n + 2 < L by omega) hL2 ?_
  have hR := ct_X11_trail (fi := fi) (ai := ai) (ar := ar) (N := N) (w := w) sm gw.1 (xs (6 * n + 1)) (xs (6 * n + 2)) 
  rw [e81] at hR
  refine e_callV (M' := mX11_trail) (k' := 0) (z' := 0) (k2 := 64 + k) (z2 := 10800 + z) (As := [_, _]) dL_law_1104 ml_L_145 ok_X11_trail (by decide) rfl im_X11_trail se_X11_trail (hR) rfl rfl (Nat.le_of_ble_eq_true rfl) (by decide) ⟨by omega, by omega⟩ (Nat.le_of_ble_eq_true rfl) (fun r2 f2 g2 a2 q2 n2 hJ => ?_)
  obtain ⟨j1, j2, j3, j4, j5, j6⟩ := hJ
  rw [j1, j2, j3, j4, j5, j6]
  clear j1 j2 j3 j4 j5 j6 r2 f2 g2 a2 q2 n2
  dsimp only [Option.toList, List.cons_append, List.nil_append]
  have hls := LS_q cs1 fx ts r p
  refine e_icmp_eq (tgt := 1538) dL_law_1107 (by decide) (fun _ => ?_) (fun hne => absurd rfl hne)
  exact e_wk (by omega) (by omega) (kk _ _ _ _ _ hls)
theorem lc_31 {L n k z : Nat} {xs : Nat → Int32} {fi : FI} {fr : FR} {ai : FI} {ar : FR} {N : Nat} {Q : EQ} (hL : 6 * n + 6 ≤ L) (hL2 : L ≤ 3072) (h : LSt fi fr ai ar N n) (kk : ∀ fi fr ai ar N, LSt fi fr ai ar N (n + 1) → EV (mL L xs) 11 k z 1538 [some (.ref 60), some (.ref (rf 10 0)), some (.ref (rf 11 80)), some (.int (nI (6 * n)))] [] fi fr ai ar N Q) : EV (mL L xs) 11 (64 + k) (10800 + z) 1112 [some (.ref 60), some (.ref (rf 10 0)), some (.ref (rf 11 80)), some (.int (nI (6 * n)))] [] fi fr ai ar N Q := by
  obtain ⟨w, lg, u, V, im, tp, t, fl, pl, rs, cs, ts, r, p⟩ := h
  have gw := p.1.1
  have hb := GB_0 p.1 (show n < 512 by omega)
  have hu6 := p.2.2.2.2.2.2.2
  have hep := hb.1
  refine e_aload_n dL_law_1112 rfl rfl ?_
  refine e_aload_n dL_law_1113 rfl rfl ?_
  refine e_iload_n dL_law_1114 rfl rfl ?_
  refine e_iconst (v := nI 1) dL_law_1115 rfl ?_
  refine n_iadd dL_law_1116 ?_
  refine e_sl dL_law_1117 (show 6 * n + 1 < L by omega) hL2 ?_
  refine e_aload_n dL_law_1118 rfl rfl ?_
  refine e_iload_n dL_law_1119 rfl rfl ?_
  refine e_iconst (v := nI 2) dL_law_1120 rfl ?_
  refine n_iadd dL_law_1121 ?_
  refine e_sl dL_law_1122 (show 6 * n + 2 < L by omega) hL2 ?_
  refine e_callV (M' := mX10_owned) (k' := 0) (z' := 0) (k2 := 64 + k) (z2 := 10800 + z) (As := [_, _]) dL_law_1123 ml_L_146 ok_X10_owned (by decide) rfl im_X10_owned se_X10_owned (ct_X10_owned cs.1 gw.1 cs.2.2.1 gw.2.1 (xs (6 * n + 1)) (xs (6 * n + 2)) ) rfl rfl (Nat.le_of_ble_eq_true rfl) (by decide) ⟨by omega, by omega⟩ (Nat.le_of_ble_eq_true rfl) (fun r1 f1 g1 a1 q1 n1 hI => ?_)
  obtain ⟨i1, i2, i3, i4, i5, i6⟩ := hI
  rw [i1, i2, i3, i4, i5, i6]
  clear i1 i2 i3 i4 i5 i6 r1 f1 g1 a1 q1 n1
  have cs1 := cs
  have fx : FX fi ai fi ai := FX_rf
  dsimp only [Option.toList, List.cons_append, List.nil_append]
  have sm := cs1.2.1
  have r1 : RS fi ai w lg u V im tp t fl pl rs := RS_fx r (fun f r x y => fx.1 f r (by omega)) (fun a x y => fx.2 a (by omega))
  have e81 : mW ai w = ai := mW_self r1.1
  have hsc : fi (32 * 11 + 8) (rf 11 80) = bI false := r1.2.2.1
  refine e_aload_n dL_law_1126 rfl rfl ?_
  refine e_aload_n dL_law_1127 rfl rfl ?_
  refine e_iload_n dL_law_1128 rfl rfl ?_
  refine e_iconst (v := nI 1) dL_law_1129 rfl ?_
  refine n_iadd dL_law_1130 ?_
  refine e_sl dL_law_1131 (show 6 * n + 1 < L by omega) hL2 ?_
  refine e_aload_n dL_law_1132 rfl rfl ?_
  refine e_iload_n dL_law_1133 rfl rfl ?_
  refine e_iconst (v := nI 2) dL_law_1134 rfl ?_
  refine n_iadd dL_law_1135 ?_
  refine e_sl dL_law_1136 (show 6 * n + 2 < L by omega) hL2 ?_
  have hR := ct_X11_owned (fi := fi) (ai := ai) (ar := ar) (N := N) (w := w) sm gw.1 (xs (6 * n + 1)) (xs (6 * n + 2)) 
  rw [e81] at hR
  refine e_callV (M' := mX11_owned) (k' := 0) (z' := 0) (k2 := 64 + k) (z2 := 10800 + z) (As := [_, _]) dL_law_1137 ml_L_149 ok_X11_owned (by decide) rfl im_X11_owned se_X11_owned (hR) rfl rfl (Nat.le_of_ble_eq_true rfl) (by decide) ⟨by omega, by omega⟩ (Nat.le_of_ble_eq_true rfl) (fun r2 f2 g2 a2 q2 n2 hJ => ?_)
  obtain ⟨j1, j2, j3, j4, j5, j6⟩ := hJ
  rw [j1, j2, j3, j4, j5, j6]
  clear j1 j2 j3 j4 j5 j6 r2 f2 g2 a2 q2 n2
  dsimp only [Option.toList, List.cons_append, List.nil_append]
  have hls := LS_q cs1 fx ts r p
  refine e_icmp_eq (tgt := 1538) dL_law_1140 (by decide) (fun _ => ?_) (fun hne => absurd rfl hne)
  exact e_wk (by omega) (by omega) (kk _ _ _ _ _ hls)
theorem lc_32 {L n k z : Nat} {xs : Nat → Int32} {fi : FI} {fr : FR} {ai : FI} {ar : FR} {N : Nat} {Q : EQ} (hL : 6 * n + 6 ≤ L) (hL2 : L ≤ 3072) (h : LSt fi fr ai ar N n) (kk : ∀ fi fr ai ar N, LSt fi fr ai ar N (n + 1) → EV (mL L xs) 11 k z 1538 [some (.ref 60), some (.ref (rf 10 0)), some (.ref (rf 11 80)), some (.int (nI (6 * n)))] [] fi fr ai ar N Q) : EV (mL L xs) 11 (64 + k) (10800 + z) 1145 [some (.ref 60), some (.ref (rf 10 0)), some (.ref (rf 11 80)), some (.int (nI (6 * n)))] [] fi fr ai ar N Q := by
  obtain ⟨w, lg, u, V, im, tp, t, fl, pl, rs, cs, ts, r, p⟩ := h
  have gw := p.1.1
  have hb := GB_0 p.1 (show n < 512 by omega)
  have hu6 := p.2.2.2.2.2.2.2
  have hep := hb.1
  refine e_aload_n dL_law_1145 rfl rfl ?_
  refine e_aload_n dL_law_1146 rfl rfl ?_
  refine e_iload_n dL_law_1147 rfl rfl ?_
  refine e_iconst (v := nI 1) dL_law_1148 rfl ?_
  refine n_iadd dL_law_1149 ?_
  refine e_sl dL_law_1150 (show 6 * n + 1 < L by omega) hL2 ?_
  refine e_aload_n dL_law_1151 rfl rfl ?_
  refine e_iload_n dL_law_1152 rfl rfl ?_
  refine e_iconst (v := nI 2) dL_law_1153 rfl ?_
  refine n_iadd dL_law_1154 ?_
  refine e_sl dL_law_1155 (show 6 * n + 2 < L by omega) hL2 ?_
  refine e_callV (M' := mX10_passed) (k' := 0) (z' := 0) (k2 := 64 + k) (z2 := 10800 + z) (As := [_, _]) dL_law_1156 ml_L_150 ok_X10_passed (by decide) rfl im_X10_passed se_X10_passed (ct_X10_passed cs.1 gw.1 cs.2.2.1 gw.2.1 (xs (6 * n + 1)) (xs (6 * n + 2)) ) rfl rfl (Nat.le_of_ble_eq_true rfl) (by decide) ⟨by omega, by omega⟩ (Nat.le_of_ble_eq_true rfl) (fun r1 f1 g1 a1 q1 n1 hI => ?_)
  obtain ⟨i1, i2, i3, i4, i5, i6⟩ := hI
  rw [i1, i2, i3, i4, i5, i6]
  clear i1 i2 i3 i4 i5 i6 r1 f1 g1 a1 q1 n1
  have cs1 := cs
  have fx : FX fi ai fi ai := FX_rf
  dsimp only [Option.toList, List.cons_append, List.nil_append]
  have sm := cs1.2.1
  have r1 : RS fi ai w lg u V im tp t fl pl rs := RS_fx r (fun f r x y => fx.1 f r (by omega)) (fun a x y => fx.2 a (by omega))
  have e81 : mW ai w = ai := mW_self r1.1
  have hsc : fi (32 * 11 + 8) (rf 11 80) = bI false := r1.2.2.1
  refine e_aload_n dL_law_1159 rfl rfl ?_
  refine e_aload_n dL_law_1160 rfl rfl ?_
  refine e_iload_n dL_law_1161 rfl rfl ?_
  refine e_iconst (v := nI 1) dL_law_1162 rfl ?_
  refine n_iadd dL_law_1163 ?_
  refine e_sl dL_law_1164 (show 6 * n + 1 < L by omega) hL2 ?_
  refine e_aload_n dL_law_1165 rfl rfl ?_
  refine e_iload_n dL_law_1166 rfl rfl ?_
  refine e_iconst (v := nI 2) dL_law_1167 rfl ?_
  refine n_iadd dL_law_1168 ?_
  refine e_sl dL_law_1169 (show 6 * n + 2 < L by omega) hL2 ?_
  have hR := ct_X11_passed (fi := fi) (ai := ai) (ar := ar) (N := N) (w := w) sm gw.1 (xs (6 * n + 1)) (xs (6 * n + 2)) 
  rw [e81] at hR
  refine e_callV (M' := mX11_passed) (k' := 0) (z' := 0) (k2 := 64 + k) (z2 := 10800 + z) (As := [_, _]) dL_law_1170 ml_L_153 ok_X11_passed (by decide) rfl im_X11_passed se_X11_passed (hR) rfl rfl (Nat.le_of_ble_eq_true rfl) (by decide) ⟨by omega, by omega⟩ (Nat.le_of_ble_eq_true rfl) (fun r2 f2 g2 a2 q2 n2 hJ => ?_)
  obtain ⟨j1, j2, j3, j4, j5, j6⟩ := hJ
  rw [j1, j2, j3, j4, j5, j6]
  clear j1 j2 j3 j4 j5 j6 r2 f2 g2 a2 q2 n2
  dsimp only [Option.toList, List.cons_append, List.nil_append]
  have hls := LS_q cs1 fx ts r p
  refine e_icmp_eq (tgt := 1538) dL_law_1173 (by decide) (fun _ => ?_) (fun hne => absurd rfl hne)
  exact e_wk (by omega) (by omega) (kk _ _ _ _ _ hls)
theorem lc_33 {L n k z : Nat} {xs : Nat → Int32} {fi : FI} {fr : FR} {ai : FI} {ar : FR} {N : Nat} {Q : EQ} (hL : 6 * n + 6 ≤ L) (hL2 : L ≤ 3072) (h : LSt fi fr ai ar N n) (kk : ∀ fi fr ai ar N, LSt fi fr ai ar N (n + 1) → EV (mL L xs) 11 k z 1538 [some (.ref 60), some (.ref (rf 10 0)), some (.ref (rf 11 80)), some (.int (nI (6 * n)))] [] fi fr ai ar N Q) : EV (mL L xs) 11 (64 + k) (10800 + z) 1178 [some (.ref 60), some (.ref (rf 10 0)), some (.ref (rf 11 80)), some (.int (nI (6 * n)))] [] fi fr ai ar N Q := by
  obtain ⟨w, lg, u, V, im, tp, t, fl, pl, rs, cs, ts, r, p⟩ := h
  have gw := p.1.1
  have hb := GB_0 p.1 (show n < 512 by omega)
  have hu6 := p.2.2.2.2.2.2.2
  have hep := hb.1
  refine e_aload_n dL_law_1178 rfl rfl ?_
  refine e_aload_n dL_law_1179 rfl rfl ?_
  refine e_iload_n dL_law_1180 rfl rfl ?_
  refine e_iconst (v := nI 1) dL_law_1181 rfl ?_
  refine n_iadd dL_law_1182 ?_
  refine e_sl dL_law_1183 (show 6 * n + 1 < L by omega) hL2 ?_
  refine e_aload_n dL_law_1184 rfl rfl ?_
  refine e_iload_n dL_law_1185 rfl rfl ?_
  refine e_iconst (v := nI 2) dL_law_1186 rfl ?_
  refine n_iadd dL_law_1187 ?_
  refine e_sl dL_law_1188 (show 6 * n + 2 < L by omega) hL2 ?_
  refine e_callV (M' := mX10_hot) (k' := 0) (z' := 0) (k2 := 64 + k) (z2 := 10800 + z) (As := [_, _]) dL_law_1189 ml_L_154 ok_X10_hot (by decide) rfl im_X10_hot se_X10_hot (ct_X10_hot cs.1 gw.1 cs.2.2.1  (xs (6 * n + 1)) (xs (6 * n + 2)) ) rfl rfl (Nat.le_of_ble_eq_true rfl) (by decide) ⟨by omega, by omega⟩ (Nat.le_of_ble_eq_true rfl) (fun r1 f1 g1 a1 q1 n1 hI => ?_)
  obtain ⟨i1, i2, i3, i4, i5, i6⟩ := hI
  rw [i1, i2, i3, i4, i5, i6]
  clear i1 i2 i3 i4 i5 i6 r1 f1 g1 a1 q1 n1
  have cs1 := cs
  have fx : FX fi ai fi ai := FX_rf
  dsimp only [Option.toList, List.cons_append, List.nil_append]
  have sm := cs1.2.1
  have r1 : RS fi ai w lg u V im tp t fl pl rs := RS_fx r (fun f r x y => fx.1 f r (by omega)) (fun a x y => fx.2 a (by omega))
  have e81 : mW ai w = ai := mW_self r1.1
  have hsc : fi (32 * 11 + 8) (rf 11 80) = bI false := r1.2.2.1
  refine e_aload_n dL_law_1192 rfl rfl ?_
  refine e_aload_n dL_law_1193 rfl rfl ?_
  refine e_iload_n dL_law_1194 rfl rfl ?_
  refine e_iconst (v := nI 1) dL_law_1195 rfl ?_
  refine n_iadd dL_law_1196 ?_
  refine e_sl dL_law_1197 (show 6 * n + 1 < L by omega) hL2 ?_
  refine e_aload_n dL_law_1198 rfl rfl ?_
  refine e_iload_n dL_law_1199 rfl rfl ?_
  refine e_iconst (v := nI 2) dL_law_1200 rfl ?_
  refine n_iadd dL_law_1201 ?_
  refine e_sl dL_law_1202 (show 6 * n + 2 < L by omega) hL2 ?_
  have hR := ct_X11_hot (fi := fi) (ai := ai) (ar := ar) (N := N) (w := w) sm gw.1 (xs (6 * n + 1)) (xs (6 * n + 2)) 
  rw [e81] at hR
  refine e_callV (M' := mX11_hot) (k' := 0) (z' := 0) (k2 := 64 + k) (z2 := 10800 + z) (As := [_, _]) dL_law_1203 ml_L_157 ok_X11_hot (by decide) rfl im_X11_hot se_X11_hot (hR) rfl rfl (Nat.le_of_ble_eq_true rfl) (by decide) ⟨by omega, by omega⟩ (Nat.le_of_ble_eq_true rfl) (fun r2 f2 g2 a2 q2 n2 hJ => ?_)
  obtain ⟨j1, j2, j3, j4, j5, j6⟩ := hJ
  rw [j1, j2, j3, j4, j5, j6]
  clear j1 j2 j3 j4 j5 j6 r2 f2 g2 a2 q2 n2
  dsimp only [Option.toList, List.cons_append, List.nil_append]
  have hls := LS_q cs1 fx ts r p
  refine e_icmp_eq (tgt := 1538) dL_law_1206 (by decide) (fun _ => ?_) (fun hne => absurd rfl hne)
  exact e_wk (by omega) (by omega) (kk _ _ _ _ _ hls)
