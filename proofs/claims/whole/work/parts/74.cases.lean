set_option maxRecDepth 100000 in
set_option maxHeartbeats 4000000 in
theorem lw_case0 {p : Program} {l : Launch} {e : Env} {s : State} {m : MethodId} {below : List Frame} {meth : Method} {c : Code} {Q : State → Prop} {D : va_G} {tys : List (ClassId × FieldType)} {cI cZ cL : ClassId} {A : Nat → Prop} {b L : Nat} {xs : Nat → Int32} {h a1 a2 a3 a4 g g1 g2 g3 g4 o k : Nat} {ls : Array Slot} {H : Heap} {locs : List Loc} {cells slots : Nat} (C : lwC p l s m c D tys cI cZ cL A b L xs) (hL : L ≤ 2048) (hk : 4 * k + 4 ≤ L) (hc : cells + 1 ≤ 1037) (hs : slots + 6 ≤ 12244) (S0 : lwS D cI cZ cL h a1 a2 a3 a4 g g1 g2 g3 g4 o A s b (4 * k) ls H locs) (kk : ∀ (ls' : Array Slot) (H' : Heap) (locs' : List Loc), lwS D cI cZ cL h a1 a2 a3 a4 g g1 g2 g3 g4 o A s b (4 * k) ls' H' locs' → W p l e room_1 s m #[Value.ref b] below meth c H' locs' (cells + 1) (slots + 6) Q (F0 m 562 ls' [])) : W p l e room_1 s m #[Value.ref b] below meth c H locs cells slots Q (F0 m 88 ls []) := by
  obtain ⟨F, hl0, hX, hbl, hbA, hst, hnc, hK, hI, hZ, hLg, hA⟩ := C
  obtain ⟨hx, hb, hml, hown, hts⟩ := id F
  have FL : CallFix p m c cL_law 7 s #[Value.ref b] wsL_law RL := ⟨hx, hb, hml, hown, fun w hw => hts w (wsL_law_in w hw)⟩
  obtain ⟨wf, nf, bf, bs, mc, ff, og, wf1, nf1, cf, kf, fw, mx, th, w, n, hl, hP, hD, hS, ok, ok1⟩ := S0
  refine lv_aload_n hx hb dL_law_88 rfl (lv_at hl 3 rfl) ?_
  refine lv_aload_n hx hb dL_law_89 rfl (lv_at hl 4 rfl) ?_
  refine lv_iload hx hb dL_law_90 (lv_at hl 0 rfl) ?_
  refine lv_iconst (v := nI 1) hx hb dL_law_92 (by decide +kernel) ?_
  refine zn_add hx hb dL_law_93 ?_
  refine zn_sld (k := (4 * k) + 1) hx hb hX hbl hbA hS (by omega) (by omega) dL_law_94 ?_
  refine lv_aload_n hx hb dL_law_95 rfl (lv_at hl 4 rfl) ?_
  refine lv_iload hx hb dL_law_96 (lv_at hl 0 rfl) ?_
  refine lv_iconst (v := nI 2) hx hb dL_law_98 (by decide +kernel) ?_
  refine zn_add hx hb dL_law_99 ?_
  refine zn_sld (k := (4 * k) + 2) hx hb hX hbl hbA hS (by omega) (by omega) dL_law_100 ?_
  refine lv_aload_n hx hb dL_law_101 rfl (lv_at hl 4 rfl) ?_
  refine lv_iload hx hb dL_law_102 (lv_at hl 0 rfl) ?_
  refine lv_iconst (v := nI 3) hx hb dL_law_104 (by decide +kernel) ?_
  refine zn_add hx hb dL_law_105 ?_
  refine zn_sld (k := (4 * k) + 3) hx hb hX hbl hbA hS (by omega) (by omega) dL_law_106 ?_
  refine zy_callSi (As := [.ref h, .int (xs ((4 * k) + 1)), .int (xs ((4 * k) + 2)), .int (xs ((4 * k) + 3))]) (rest := []) FL hK hP hD hS hA hst hnc (h_load l hl0 D tys cI cL hI hLg h a1 a2 a3 a4 o (mdW cI cZ g g1 g2 g3 g4 wf1 nf1 cf kf fw mx th []) _ wf nf bf bs mc ff og w n ok (xs ((4 * k) + 1)) (xs ((4 * k) + 2)) (xs ((4 * k) + 3))) (vx_cwSW 4 FL.2.2.2.2 gL_law_L_load rfl rfl rfl (by decide +kernel) ⟨Nat.le_of_ble_eq_true rfl, Nat.le_of_ble_eq_true rfl⟩) rfl hl.1 rfl (Nat.le_of_ble_eq_true rfl) dL_law_107 ⟨hc, hs⟩ (fun rr u H locs hu hP hD hS => ?_)
  obtain ⟨wf', nf'⟩ := u
  have hP : va_P D vwCl (lwW cI cZ cL h a1 a2 a3 a4 g g1 g2 g3 g4 o wf' nf' bf bs mc ff og wf1 nf1 cf kf fw mx th) H := hP
  have hD : va_D A (lwW cI cZ cL h a1 a2 a3 a4 g g1 g2 g3 g4 o wf' nf' bf bs mc ff og wf1 nf1 cf kf fw mx th) := hD
  have hP := hP.sub (ws' := (lwM cI cZ cL h a1 a2 a3 a4 g g1 g2 g3 g4 o wf' nf' bf bs mc ff og wf1 nf1 cf kf fw mx th)) [6, 7, 8, 9, 10, 0, 1, 2, 3, 4, 5] rfl
  have hD := hD.sub (ws' := (lwM cI cZ cL h a1 a2 a3 a4 g g1 g2 g3 g4 o wf' nf' bf bs mc ff og wf1 nf1 cf kf fw mx th)) [6, 7, 8, 9, 10, 0, 1, 2, 3, 4, 5] (by decide) rfl
  refine lv_istore (lv' := [(5, .int rr), (4, .int (nI (4 * k))), (3, .ref o), (2, .ref g), (1, .ref h), (0, .ref b)]) hx hb dL_law_110 hl (by decide) rfl (fun ls hl => ?_)
  refine lv_aload_n hx hb dL_law_112 rfl (lv_at hl 3 rfl) ?_
  refine lv_aload_n hx hb dL_law_113 rfl (lv_at hl 5 rfl) ?_
  refine lv_iload hx hb dL_law_114 (lv_at hl 1 rfl) ?_
  refine lv_iconst (v := nI 1) hx hb dL_law_116 (by decide +kernel) ?_
  refine zn_add hx hb dL_law_117 ?_
  refine zn_sld (k := (4 * k) + 1) hx hb hX hbl hbA hS (by omega) (by omega) dL_law_118 ?_
  refine lv_aload_n hx hb dL_law_119 rfl (lv_at hl 5 rfl) ?_
  refine lv_iload hx hb dL_law_120 (lv_at hl 1 rfl) ?_
  refine lv_iconst (v := nI 2) hx hb dL_law_122 (by decide +kernel) ?_
  refine zn_add hx hb dL_law_123 ?_
  refine zn_sld (k := (4 * k) + 2) hx hb hX hbl hbA hS (by omega) (by omega) dL_law_124 ?_
  refine lv_aload_n hx hb dL_law_125 rfl (lv_at hl 5 rfl) ?_
  refine lv_iload hx hb dL_law_126 (lv_at hl 1 rfl) ?_
  refine lv_iconst (v := nI 3) hx hb dL_law_128 (by decide +kernel) ?_
  refine zn_add hx hb dL_law_129 ?_
  refine zn_sld (k := (4 * k) + 3) hx hb hX hbl hbA hS (by omega) (by omega) dL_law_130 ?_
  refine zz_callVv (As := [.int (xs ((4 * k) + 1)), .int (xs ((4 * k) + 2)), .int (xs ((4 * k) + 3))]) (rest := []) F hK hP hD hS hA (c1_load l D tys cI cZ hI hZ g g1 g2 g3 g4 (nmW cI h a1 a2 a3 a4 wf' nf' bf bs mc ff [(o, .inl (cL, 1, .inr (.inl og)))]) _ wf1 nf1 cf kf fw mx th w n ok1 (xs ((4 * k) + 1)) (xs ((4 * k) + 2)) (xs ((4 * k) + 3))) (cwV 3 hts gT_load rfl rfl rfl (by decide +kernel) ⟨Nat.le_of_ble_eq_true rfl, Nat.le_of_ble_eq_true rfl⟩) 0 rfl rfl rfl hl.1 rfl (Nat.le_of_ble_eq_true rfl) dL_law_131 ⟨hc, hs⟩ (fun u H locs hM hP hD hS => ?_)
  obtain ⟨wf1', nf1', th'⟩ := u
  have hP : va_P D vwCl (lwM cI cZ cL h a1 a2 a3 a4 g g1 g2 g3 g4 o wf' nf' bf bs mc ff og wf1' nf1' cf kf fw mx th') H := hP
  have hD : va_D A (lwM cI cZ cL h a1 a2 a3 a4 g g1 g2 g3 g4 o wf' nf' bf bs mc ff og wf1' nf1' cf kf fw mx th') := hD
  have ag0 := ag_load (og0 := 0) (bb := 0) ok ok1 hu hM
  obtain ⟨agE, w', n', ok, ok1⟩ := ag0
  obtain ⟨w, rfl⟩ : ∃ z, z = w' := ⟨_, rfl⟩
  obtain ⟨n, rfl⟩ : ∃ z, z = n' := ⟨_, rfl⟩
  refine lv_aload_n hx hb dL_law_134 rfl (lv_at hl 3 rfl) ?_
  refine zz_callVi (As := []) (rest := []) F hK hP hD hS hA (c1_thrown l D tys cI cZ hI hZ g g1 g2 g3 g4 (nmW cI h a1 a2 a3 a4 wf' nf' bf bs mc ff [(o, .inl (cL, 1, .inr (.inl og)))]) _ wf1' nf1' cf kf fw mx th' w n ok1 ) (cwV 0 hts gT_thrown rfl rfl rfl (by decide +kernel) ⟨Nat.le_of_ble_eq_true rfl, Nat.le_of_ble_eq_true rfl⟩) 0 rfl rfl rfl hl.1 rfl (Nat.le_of_ble_eq_true rfl) dL_law_135 ⟨hc, hs⟩ (fun tt u H locs hT hP hD hS => ?_)
  have hP : va_P D vwCl (lwM cI cZ cL h a1 a2 a3 a4 g g1 g2 g3 g4 o wf' nf' bf bs mc ff og wf1' nf1' cf kf fw mx th') H := hP
  have hD : va_D A (lwM cI cZ cL h a1 a2 a3 a4 g g1 g2 g3 g4 o wf' nf' bf bs mc ff og wf1' nf1' cf kf fw mx th') := hD
  refine zn_as hT ?_
  have ag := (⟨agE, trivial⟩ : th' = rr ∧ True)
  have hP := hP.sub (ws' := (lwW cI cZ cL h a1 a2 a3 a4 g g1 g2 g3 g4 o wf' nf' bf bs mc ff og wf1' nf1' cf kf fw mx th')) [5, 6, 7, 8, 9, 10, 0, 1, 2, 3, 4] rfl
  have hD := hD.sub (ws' := (lwW cI cZ cL h a1 a2 a3 a4 g g1 g2 g3 g4 o wf' nf' bf bs mc ff og wf1' nf1' cf kf fw mx th')) [5, 6, 7, 8, 9, 10, 0, 1, 2, 3, 4] (by decide) rfl
  refine lv_iload hx hb dL_law_138 (lv_at hl 0 rfl) ?_
  refine lv_icmp_eq hx hb dL_law_140 rfl (fun _ => ?_) (fun h9 => absurd ag.1 h9)
  refine lv_goto hx hb dL_law_145 rfl ?_
  have hl : lv_has ls 7 [(4, .int (nI (4 * k))), (3, .ref o), (2, .ref g), (1, .ref h), (0, .ref b)] := lv_sub hl [1, 2, 3, 4, 5] rfl
  exact kk _ _ _ ⟨wf', nf', bf, bs, mc, ff, og, wf1', nf1', cf, kf, fw, mx, th', w, n, hl, hP, hD, hS, ok, ok1⟩
set_option maxRecDepth 100000 in
set_option maxHeartbeats 4000000 in
theorem lw_case1 {p : Program} {l : Launch} {e : Env} {s : State} {m : MethodId} {below : List Frame} {meth : Method} {c : Code} {Q : State → Prop} {D : va_G} {tys : List (ClassId × FieldType)} {cI cZ cL : ClassId} {A : Nat → Prop} {b L : Nat} {xs : Nat → Int32} {h a1 a2 a3 a4 g g1 g2 g3 g4 o k : Nat} {ls : Array Slot} {H : Heap} {locs : List Loc} {cells slots : Nat} (C : lwC p l s m c D tys cI cZ cL A b L xs) (hL : L ≤ 2048) (hk : 4 * k + 4 ≤ L) (hc : cells + 1 ≤ 1037) (hs : slots + 6 ≤ 12244) (S0 : lwS D cI cZ cL h a1 a2 a3 a4 g g1 g2 g3 g4 o A s b (4 * k) ls H locs) (kk : ∀ (ls' : Array Slot) (H' : Heap) (locs' : List Loc), lwS D cI cZ cL h a1 a2 a3 a4 g g1 g2 g3 g4 o A s b (4 * k) ls' H' locs' → W p l e room_1 s m #[Value.ref b] below meth c H' locs' (cells + 1) (slots + 6) Q (F0 m 562 ls' [])) : W p l e room_1 s m #[Value.ref b] below meth c H locs cells slots Q (F0 m 148 ls []) := by
  obtain ⟨F, hl0, hX, hbl, hbA, hst, hnc, hK, hI, hZ, hLg, hA⟩ := C
  obtain ⟨hx, hb, hml, hown, hts⟩ := id F
  have FL : CallFix p m c cL_law 7 s #[Value.ref b] wsL_law RL := ⟨hx, hb, hml, hown, fun w hw => hts w (wsL_law_in w hw)⟩
  obtain ⟨wf, nf, bf, bs, mc, ff, og, wf1, nf1, cf, kf, fw, mx, th, w, n, hl, hP, hD, hS, ok, ok1⟩ := S0
  refine lv_aload_n hx hb dL_law_148 rfl (lv_at hl 3 rfl) ?_
  refine lv_aload_n hx hb dL_law_149 rfl (lv_at hl 4 rfl) ?_
  refine lv_iload hx hb dL_law_150 (lv_at hl 0 rfl) ?_
  refine lv_iconst (v := nI 1) hx hb dL_law_152 (by decide +kernel) ?_
  refine zn_add hx hb dL_law_153 ?_
  refine zn_sld (k := (4 * k) + 1) hx hb hX hbl hbA hS (by omega) (by omega) dL_law_154 ?_
  refine lv_aload_n hx hb dL_law_155 rfl (lv_at hl 1 rfl) ?_
  refine zy_callSi (As := [.ref h, .int (xs ((4 * k) + 1)), .ref o]) (rest := []) FL hK hP hD hS hA hst hnc (h_best l hl0 D tys cI cL hI hLg h a1 a2 a3 a4 o (mdW cI cZ g g1 g2 g3 g4 wf1 nf1 cf kf fw mx th []) _ wf nf bf bs mc ff og w n ok (xs ((4 * k) + 1))) (vx_cwSW 3 FL.2.2.2.2 gL_law_L_best rfl rfl rfl (by decide +kernel) ⟨Nat.le_of_ble_eq_true rfl, Nat.le_of_ble_eq_true rfl⟩) rfl hl.1 rfl (Nat.le_of_ble_eq_true rfl) dL_law_156 ⟨hc, hs⟩ (fun rr u H locs hu hP hD hS => ?_)
  obtain ⟨⟨bf, bs, mc⟩, og⟩ := u
  have hP : va_P D vwCl (lwW cI cZ cL h a1 a2 a3 a4 g g1 g2 g3 g4 o wf nf bf bs mc ff og wf1 nf1 cf kf fw mx th) H := hP
  have hD : va_D A (lwW cI cZ cL h a1 a2 a3 a4 g g1 g2 g3 g4 o wf nf bf bs mc ff og wf1 nf1 cf kf fw mx th) := hD
  have hP := hP.sub (ws' := (lwM cI cZ cL h a1 a2 a3 a4 g g1 g2 g3 g4 o wf nf bf bs mc ff og wf1 nf1 cf kf fw mx th)) [6, 7, 8, 9, 10, 0, 1, 2, 3, 4, 5] rfl
  have hD := hD.sub (ws' := (lwM cI cZ cL h a1 a2 a3 a4 g g1 g2 g3 g4 o wf nf bf bs mc ff og wf1 nf1 cf kf fw mx th)) [6, 7, 8, 9, 10, 0, 1, 2, 3, 4, 5] (by decide) rfl
  refine lv_istore (lv' := [(5, .int rr), (4, .int (nI (4 * k))), (3, .ref o), (2, .ref g), (1, .ref h), (0, .ref b)]) hx hb dL_law_159 hl (by decide) rfl (fun ls hl => ?_)
  refine lv_aload_n hx hb dL_law_161 rfl (lv_at hl 3 rfl) ?_
  refine lv_aload_n hx hb dL_law_162 rfl (lv_at hl 5 rfl) ?_
  refine lv_iload hx hb dL_law_163 (lv_at hl 1 rfl) ?_
  refine lv_iconst (v := nI 1) hx hb dL_law_165 (by decide +kernel) ?_
  refine zn_add hx hb dL_law_166 ?_
  refine zn_sld (k := (4 * k) + 1) hx hb hX hbl hbA hS (by omega) (by omega) dL_law_167 ?_
  refine zz_callVi (As := [.int (xs ((4 * k) + 1))]) (rest := []) F hK hP hD hS hA (c1_best l D tys cI cZ hI hZ g g1 g2 g3 g4 (nmW cI h a1 a2 a3 a4 wf nf bf bs mc ff [(o, .inl (cL, 1, .inr (.inl og)))]) _ wf1 nf1 cf kf fw mx th w n ok1 (xs ((4 * k) + 1))) (cwV 1 hts gT_best rfl rfl rfl (by decide +kernel) ⟨Nat.le_of_ble_eq_true rfl, Nat.le_of_ble_eq_true rfl⟩) 0 rfl rfl rfl hl.1 rfl (Nat.le_of_ble_eq_true rfl) dL_law_168 ⟨hc, hs⟩ (fun bb u H locs hM hP hD hS => ?_)
  obtain ⟨cf, fw, mx, th⟩ := u
  have hP : va_P D vwCl (lwM cI cZ cL h a1 a2 a3 a4 g g1 g2 g3 g4 o wf nf bf bs mc ff og wf1 nf1 cf kf fw mx th) H := hP
  have hD : va_D A (lwM cI cZ cL h a1 a2 a3 a4 g g1 g2 g3 g4 o wf nf bf bs mc ff og wf1 nf1 cf kf fw mx th) := hD
  refine lv_istore (lv' := [(6, .int bb), (5, .int rr), (4, .int (nI (4 * k))), (3, .ref o), (2, .ref g), (1, .ref h), (0, .ref b)]) hx hb dL_law_171 hl (by decide) rfl (fun ls hl => ?_)
  refine lv_aload_n hx hb dL_law_173 rfl (lv_at hl 4 rfl) ?_
  refine zz_callVi (As := []) (rest := []) F hK hP hD hS hA (c1_thrown l D tys cI cZ hI hZ g g1 g2 g3 g4 (nmW cI h a1 a2 a3 a4 wf nf bf bs mc ff [(o, .inl (cL, 1, .inr (.inl og)))]) _ wf1 nf1 cf kf fw mx th w n ok1 ) (cwV 0 hts gT_thrown rfl rfl rfl (by decide +kernel) ⟨Nat.le_of_ble_eq_true rfl, Nat.le_of_ble_eq_true rfl⟩) 0 rfl rfl rfl hl.1 rfl (Nat.le_of_ble_eq_true rfl) dL_law_174 ⟨hc, hs⟩ (fun tt u H locs hT hP hD hS => ?_)
  have hP : va_P D vwCl (lwM cI cZ cL h a1 a2 a3 a4 g g1 g2 g3 g4 o wf nf bf bs mc ff og wf1 nf1 cf kf fw mx th) H := hP
  have hD : va_D A (lwM cI cZ cL h a1 a2 a3 a4 g g1 g2 g3 g4 o wf nf bf bs mc ff og wf1 nf1 cf kf fw mx th) := hD
  refine zn_as hT ?_
  have ag := (ag_best (y := 0) (z := 0) hu hM : th = rr ∧ (rr = 0 → og 0 = bb.toInt64))
  have hP := hP.sub (ws' := (lwW cI cZ cL h a1 a2 a3 a4 g g1 g2 g3 g4 o wf nf bf bs mc ff og wf1 nf1 cf kf fw mx th)) [5, 6, 7, 8, 9, 10, 0, 1, 2, 3, 4] rfl
  have hD := hD.sub (ws' := (lwW cI cZ cL h a1 a2 a3 a4 g g1 g2 g3 g4 o wf nf bf bs mc ff og wf1 nf1 cf kf fw mx th)) [5, 6, 7, 8, 9, 10, 0, 1, 2, 3, 4] (by decide) rfl
  refine lv_iload hx hb dL_law_177 (lv_at hl 1 rfl) ?_
  refine lv_icmp_eq hx hb dL_law_179 rfl (fun _ => ?_) (fun h9 => absurd ag.1 h9)
  refine lv_iload hx hb dL_law_184 (lv_at hl 1 rfl) ?_
  refine lv_if_ne hx hb dL_law_186 rfl (fun _ => ?_) (fun hq => ?_)
  · refine lv_goto hx hb dL_law_201 rfl ?_
    have hl : lv_has ls 7 [(4, .int (nI (4 * k))), (3, .ref o), (2, .ref g), (1, .ref h), (0, .ref b)] := lv_sub hl [2, 3, 4, 5, 6] rfl
    exact kk _ _ _ ⟨wf, nf, bf, bs, mc, ff, og, wf1, nf1, cf, kf, fw, mx, th, w, n, hl, hP, hD, hS, ok, ok1⟩
  · refine lv_aload_n hx hb dL_law_189 rfl (lv_at hl 3 rfl) ?_
    refine lv_iconst (v := nI 0) hx hb dL_law_190 (by decide +kernel) ?_
    refine zn_lald (k := 0) hx hb hK hP 5 _ rfl hLg (by decide) (by decide) dL_law_191 ?_
    refine zn_asl (ag.2 hq) ?_
    refine lv_iload hx hb dL_law_192 (lv_at hl 0 rfl) ?_
    refine lv_i2l (v := bb.toInt64) hx hb dL_law_194 rfl ?_
    refine W.lcmp hx hb dL_law_195 ?_
    refine zn_as (zz_cmp _) ?_
    refine lv_if_eq hx hb dL_law_196 rfl (fun _ => ?_) (fun h9 => absurd rfl h9)
    refine lv_goto hx hb dL_law_201 rfl ?_
    have hl : lv_has ls 7 [(4, .int (nI (4 * k))), (3, .ref o), (2, .ref g), (1, .ref h), (0, .ref b)] := lv_sub hl [2, 3, 4, 5, 6] rfl
    exact kk _ _ _ ⟨wf, nf, bf, bs, mc, ff, og, wf1, nf1, cf, kf, fw, mx, th, w, n, hl, hP, hD, hS, ok, ok1⟩
set_option maxRecDepth 100000 in
set_option maxHeartbeats 4000000 in
theorem lw_case2 {p : Program} {l : Launch} {e : Env} {s : State} {m : MethodId} {below : List Frame} {meth : Method} {c : Code} {Q : State → Prop} {D : va_G} {tys : List (ClassId × FieldType)} {cI cZ cL : ClassId} {A : Nat → Prop} {b L : Nat} {xs : Nat → Int32} {h a1 a2 a3 a4 g g1 g2 g3 g4 o k : Nat} {ls : Array Slot} {H : Heap} {locs : List Loc} {cells slots : Nat} (C : lwC p l s m c D tys cI cZ cL A b L xs) (hL : L ≤ 2048) (hk : 4 * k + 4 ≤ L) (hc : cells + 1 ≤ 1037) (hs : slots + 6 ≤ 12244) (S0 : lwS D cI cZ cL h a1 a2 a3 a4 g g1 g2 g3 g4 o A s b (4 * k) ls H locs) (kk : ∀ (ls' : Array Slot) (H' : Heap) (locs' : List Loc), lwS D cI cZ cL h a1 a2 a3 a4 g g1 g2 g3 g4 o A s b (4 * k) ls' H' locs' → W p l e room_1 s m #[Value.ref b] below meth c H' locs' (cells + 1) (slots + 6) Q (F0 m 562 ls' [])) : W p l e room_1 s m #[Value.ref b] below meth c H locs cells slots Q (F0 m 204 ls []) := by
  obtain ⟨F, hl0, hX, hbl, hbA, hst, hnc, hK, hI, hZ, hLg, hA⟩ := C
  obtain ⟨hx, hb, hml, hown, hts⟩ := id F
  have FL : CallFix p m c cL_law 7 s #[Value.ref b] wsL_law RL := ⟨hx, hb, hml, hown, fun w hw => hts w (wsL_law_in w hw)⟩
  obtain ⟨wf, nf, bf, bs, mc, ff, og, wf1, nf1, cf, kf, fw, mx, th, w, n, hl, hP, hD, hS, ok, ok1⟩ := S0
  refine lv_aload_n hx hb dL_law_204 rfl (lv_at hl 3 rfl) ?_
  refine lv_aload_n hx hb dL_law_205 rfl (lv_at hl 4 rfl) ?_
  refine lv_iload hx hb dL_law_206 (lv_at hl 0 rfl) ?_
  refine lv_iconst (v := nI 1) hx hb dL_law_208 (by decide +kernel) ?_
  refine zn_add hx hb dL_law_209 ?_
  refine zn_sld (k := (4 * k) + 1) hx hb hX hbl hbA hS (by omega) (by omega) dL_law_210 ?_
  refine lv_aload_n hx hb dL_law_211 rfl (lv_at hl 4 rfl) ?_
  refine lv_iload hx hb dL_law_212 (lv_at hl 0 rfl) ?_
  refine lv_iconst (v := nI 2) hx hb dL_law_214 (by decide +kernel) ?_
  refine zn_add hx hb dL_law_215 ?_
  refine zn_sld (k := (4 * k) + 2) hx hb hX hbl hbA hS (by omega) (by omega) dL_law_216 ?_
  refine lv_aload_n hx hb dL_law_217 rfl (lv_at hl 1 rfl) ?_
  refine zy_callSi (As := [.ref h, .int (xs ((4 * k) + 1)), .int (xs ((4 * k) + 2)), .ref o]) (rest := []) FL hK hP hD hS hA hst hnc (h_part l hl0 D tys cI cL hI hLg h a1 a2 a3 a4 o (mdW cI cZ g g1 g2 g3 g4 wf1 nf1 cf kf fw mx th []) _ wf nf bf bs mc ff og w n ok (xs ((4 * k) + 1)) (xs ((4 * k) + 2))) (vx_cwSW 4 FL.2.2.2.2 gL_law_L_part rfl rfl rfl (by decide +kernel) ⟨Nat.le_of_ble_eq_true rfl, Nat.le_of_ble_eq_true rfl⟩) rfl hl.1 rfl (Nat.le_of_ble_eq_true rfl) dL_law_218 ⟨hc, hs⟩ (fun rr u H locs hu hP hD hS => ?_)
  obtain ⟨⟨bf, bs, mc⟩, og⟩ := u
  have hP : va_P D vwCl (lwW cI cZ cL h a1 a2 a3 a4 g g1 g2 g3 g4 o wf nf bf bs mc ff og wf1 nf1 cf kf fw mx th) H := hP
  have hD : va_D A (lwW cI cZ cL h a1 a2 a3 a4 g g1 g2 g3 g4 o wf nf bf bs mc ff og wf1 nf1 cf kf fw mx th) := hD
  have hP := hP.sub (ws' := (lwM cI cZ cL h a1 a2 a3 a4 g g1 g2 g3 g4 o wf nf bf bs mc ff og wf1 nf1 cf kf fw mx th)) [6, 7, 8, 9, 10, 0, 1, 2, 3, 4, 5] rfl
  have hD := hD.sub (ws' := (lwM cI cZ cL h a1 a2 a3 a4 g g1 g2 g3 g4 o wf nf bf bs mc ff og wf1 nf1 cf kf fw mx th)) [6, 7, 8, 9, 10, 0, 1, 2, 3, 4, 5] (by decide) rfl
  refine lv_istore (lv' := [(5, .int rr), (4, .int (nI (4 * k))), (3, .ref o), (2, .ref g), (1, .ref h), (0, .ref b)]) hx hb dL_law_221 hl (by decide) rfl (fun ls hl => ?_)
  refine lv_aload_n hx hb dL_law_223 rfl (lv_at hl 3 rfl) ?_
  refine lv_aload_n hx hb dL_law_224 rfl (lv_at hl 5 rfl) ?_
  refine lv_iload hx hb dL_law_225 (lv_at hl 1 rfl) ?_
  refine lv_iconst (v := nI 1) hx hb dL_law_227 (by decide +kernel) ?_
  refine zn_add hx hb dL_law_228 ?_
  refine zn_sld (k := (4 * k) + 1) hx hb hX hbl hbA hS (by omega) (by omega) dL_law_229 ?_
  refine lv_aload_n hx hb dL_law_230 rfl (lv_at hl 5 rfl) ?_
  refine lv_iload hx hb dL_law_231 (lv_at hl 1 rfl) ?_
  refine lv_iconst (v := nI 2) hx hb dL_law_233 (by decide +kernel) ?_
  refine zn_add hx hb dL_law_234 ?_
  refine zn_sld (k := (4 * k) + 2) hx hb hX hbl hbA hS (by omega) (by omega) dL_law_235 ?_
  refine zz_callVi (As := [.int (xs ((4 * k) + 1)), .int (xs ((4 * k) + 2))]) (rest := []) F hK hP hD hS hA (c1_part l D tys cI cZ hI hZ g g1 g2 g3 g4 (nmW cI h a1 a2 a3 a4 wf nf bf bs mc ff [(o, .inl (cL, 1, .inr (.inl og)))]) _ wf1 nf1 cf kf fw mx th w n ok1 (xs ((4 * k) + 1)) (xs ((4 * k) + 2))) (cwV 2 hts gT_part rfl rfl rfl (by decide +kernel) ⟨Nat.le_of_ble_eq_true rfl, Nat.le_of_ble_eq_true rfl⟩) 0 rfl rfl rfl hl.1 rfl (Nat.le_of_ble_eq_true rfl) dL_law_236 ⟨hc, hs⟩ (fun bb u H locs hM hP hD hS => ?_)
  obtain ⟨cf, fw, mx, th⟩ := u
  have hP : va_P D vwCl (lwM cI cZ cL h a1 a2 a3 a4 g g1 g2 g3 g4 o wf nf bf bs mc ff og wf1 nf1 cf kf fw mx th) H := hP
  have hD : va_D A (lwM cI cZ cL h a1 a2 a3 a4 g g1 g2 g3 g4 o wf nf bf bs mc ff og wf1 nf1 cf kf fw mx th) := hD
  refine lv_istore (lv' := [(6, .int bb), (5, .int rr), (4, .int (nI (4 * k))), (3, .ref o), (2, .ref g), (1, .ref h), (0, .ref b)]) hx hb dL_law_239 hl (by decide) rfl (fun ls hl => ?_)
  refine lv_aload_n hx hb dL_law_241 rfl (lv_at hl 4 rfl) ?_
  refine zz_callVi (As := []) (rest := []) F hK hP hD hS hA (c1_thrown l D tys cI cZ hI hZ g g1 g2 g3 g4 (nmW cI h a1 a2 a3 a4 wf nf bf bs mc ff [(o, .inl (cL, 1, .inr (.inl og)))]) _ wf1 nf1 cf kf fw mx th w n ok1 ) (cwV 0 hts gT_thrown rfl rfl rfl (by decide +kernel) ⟨Nat.le_of_ble_eq_true rfl, Nat.le_of_ble_eq_true rfl⟩) 0 rfl rfl rfl hl.1 rfl (Nat.le_of_ble_eq_true rfl) dL_law_242 ⟨hc, hs⟩ (fun tt u H locs hT hP hD hS => ?_)
  have hP : va_P D vwCl (lwM cI cZ cL h a1 a2 a3 a4 g g1 g2 g3 g4 o wf nf bf bs mc ff og wf1 nf1 cf kf fw mx th) H := hP
  have hD : va_D A (lwM cI cZ cL h a1 a2 a3 a4 g g1 g2 g3 g4 o wf nf bf bs mc ff og wf1 nf1 cf kf fw mx th) := hD
  refine zn_as hT ?_
  have ag := (ag_part (z := 0) hu hM : th = rr ∧ (rr = 0 → og 0 = bb.toInt64))
  have hP := hP.sub (ws' := (lwW cI cZ cL h a1 a2 a3 a4 g g1 g2 g3 g4 o wf nf bf bs mc ff og wf1 nf1 cf kf fw mx th)) [5, 6, 7, 8, 9, 10, 0, 1, 2, 3, 4] rfl
  have hD := hD.sub (ws' := (lwW cI cZ cL h a1 a2 a3 a4 g g1 g2 g3 g4 o wf nf bf bs mc ff og wf1 nf1 cf kf fw mx th)) [5, 6, 7, 8, 9, 10, 0, 1, 2, 3, 4] (by decide) rfl
  refine lv_iload hx hb dL_law_245 (lv_at hl 1 rfl) ?_
  refine lv_icmp_eq hx hb dL_law_247 rfl (fun _ => ?_) (fun h9 => absurd ag.1 h9)
  refine lv_iload hx hb dL_law_252 (lv_at hl 1 rfl) ?_
  refine lv_if_ne hx hb dL_law_254 rfl (fun _ => ?_) (fun hq => ?_)
  · refine lv_goto hx hb dL_law_269 rfl ?_
    have hl : lv_has ls 7 [(4, .int (nI (4 * k))), (3, .ref o), (2, .ref g), (1, .ref h), (0, .ref b)] := lv_sub hl [2, 3, 4, 5, 6] rfl
    exact kk _ _ _ ⟨wf, nf, bf, bs, mc, ff, og, wf1, nf1, cf, kf, fw, mx, th, w, n, hl, hP, hD, hS, ok, ok1⟩
  · refine lv_aload_n hx hb dL_law_257 rfl (lv_at hl 3 rfl) ?_
    refine lv_iconst (v := nI 0) hx hb dL_law_258 (by decide +kernel) ?_
    refine zn_lald (k := 0) hx hb hK hP 5 _ rfl hLg (by decide) (by decide) dL_law_259 ?_
    refine zn_asl (ag.2 hq) ?_
    refine lv_iload hx hb dL_law_260 (lv_at hl 0 rfl) ?_
    refine lv_i2l (v := bb.toInt64) hx hb dL_law_262 rfl ?_
    refine W.lcmp hx hb dL_law_263 ?_
    refine zn_as (zz_cmp _) ?_
    refine lv_if_eq hx hb dL_law_264 rfl (fun _ => ?_) (fun h9 => absurd rfl h9)
    refine lv_goto hx hb dL_law_269 rfl ?_
    have hl : lv_has ls 7 [(4, .int (nI (4 * k))), (3, .ref o), (2, .ref g), (1, .ref h), (0, .ref b)] := lv_sub hl [2, 3, 4, 5, 6] rfl
    exact kk _ _ _ ⟨wf, nf, bf, bs, mc, ff, og, wf1, nf1, cf, kf, fw, mx, th, w, n, hl, hP, hD, hS, ok, ok1⟩
set_option maxRecDepth 100000 in
set_option maxHeartbeats 4000000 in
theorem lw_case3 {p : Program} {l : Launch} {e : Env} {s : State} {m : MethodId} {below : List Frame} {meth : Method} {c : Code} {Q : State → Prop} {D : va_G} {tys : List (ClassId × FieldType)} {cI cZ cL : ClassId} {A : Nat → Prop} {b L : Nat} {xs : Nat → Int32} {h a1 a2 a3 a4 g g1 g2 g3 g4 o k : Nat} {ls : Array Slot} {H : Heap} {locs : List Loc} {cells slots : Nat} (C : lwC p l s m c D tys cI cZ cL A b L xs) (hL : L ≤ 2048) (hk : 4 * k + 4 ≤ L) (hc : cells + 1 ≤ 1037) (hs : slots + 6 ≤ 12244) (S0 : lwS D cI cZ cL h a1 a2 a3 a4 g g1 g2 g3 g4 o A s b (4 * k) ls H locs) (kk : ∀ (ls' : Array Slot) (H' : Heap) (locs' : List Loc), lwS D cI cZ cL h a1 a2 a3 a4 g g1 g2 g3 g4 o A s b (4 * k) ls' H' locs' → W p l e room_1 s m #[Value.ref b] below meth c H' locs' (cells + 1) (slots + 6) Q (F0 m 562 ls' [])) : W p l e room_1 s m #[Value.ref b] below meth c H locs cells slots Q (F0 m 272 ls []) := by
  obtain ⟨F, hl0, hX, hbl, hbA, hst, hnc, hK, hI, hZ, hLg, hA⟩ := C
  obtain ⟨hx, hb, hml, hown, hts⟩ := id F
  have FL : CallFix p m c cL_law 7 s #[Value.ref b] wsL_law RL := ⟨hx, hb, hml, hown, fun w hw => hts w (wsL_law_in w hw)⟩
  obtain ⟨wf, nf, bf, bs, mc, ff, og, wf1, nf1, cf, kf, fw, mx, th, w, n, hl, hP, hD, hS, ok, ok1⟩ := S0
  refine lv_aload_n hx hb dL_law_272 rfl (lv_at hl 3 rfl) ?_
  refine lv_aload_n hx hb dL_law_273 rfl (lv_at hl 4 rfl) ?_
  refine lv_iload hx hb dL_law_274 (lv_at hl 0 rfl) ?_
  refine lv_iconst (v := nI 1) hx hb dL_law_276 (by decide +kernel) ?_
  refine zn_add hx hb dL_law_277 ?_
  refine zn_sld (k := (4 * k) + 1) hx hb hX hbl hbA hS (by omega) (by omega) dL_law_278 ?_
  refine lv_aload_n hx hb dL_law_279 rfl (lv_at hl 1 rfl) ?_
  refine zy_callSi (As := [.ref h, .int (xs ((4 * k) + 1)), .ref o]) (rest := []) FL hK hP hD hS hA hst hnc (h_ways l hl0 D tys cI cL hI hLg h a1 a2 a3 a4 o (mdW cI cZ g g1 g2 g3 g4 wf1 nf1 cf kf fw mx th []) _ wf nf bf bs mc ff og w n ok (xs ((4 * k) + 1))) (vx_cwSW 3 FL.2.2.2.2 gL_law_L_ways rfl rfl rfl (by decide +kernel) ⟨Nat.le_of_ble_eq_true rfl, Nat.le_of_ble_eq_true rfl⟩) rfl hl.1 rfl (Nat.le_of_ble_eq_true rfl) dL_law_280 ⟨hc, hs⟩ (fun rr u H locs hu hP hD hS => ?_)
  obtain ⟨⟨bf, bs, mc⟩, og⟩ := u
  have hP : va_P D vwCl (lwW cI cZ cL h a1 a2 a3 a4 g g1 g2 g3 g4 o wf nf bf bs mc ff og wf1 nf1 cf kf fw mx th) H := hP
  have hD : va_D A (lwW cI cZ cL h a1 a2 a3 a4 g g1 g2 g3 g4 o wf nf bf bs mc ff og wf1 nf1 cf kf fw mx th) := hD
  have hP := hP.sub (ws' := (lwM cI cZ cL h a1 a2 a3 a4 g g1 g2 g3 g4 o wf nf bf bs mc ff og wf1 nf1 cf kf fw mx th)) [6, 7, 8, 9, 10, 0, 1, 2, 3, 4, 5] rfl
  have hD := hD.sub (ws' := (lwM cI cZ cL h a1 a2 a3 a4 g g1 g2 g3 g4 o wf nf bf bs mc ff og wf1 nf1 cf kf fw mx th)) [6, 7, 8, 9, 10, 0, 1, 2, 3, 4, 5] (by decide) rfl
  refine lv_istore (lv' := [(5, .int rr), (4, .int (nI (4 * k))), (3, .ref o), (2, .ref g), (1, .ref h), (0, .ref b)]) hx hb dL_law_283 hl (by decide) rfl (fun ls hl => ?_)
  refine lv_aload_n hx hb dL_law_285 rfl (lv_at hl 3 rfl) ?_
  refine lv_aload_n hx hb dL_law_286 rfl (lv_at hl 5 rfl) ?_
  refine lv_iload hx hb dL_law_287 (lv_at hl 1 rfl) ?_
  refine lv_iconst (v := nI 1) hx hb dL_law_289 (by decide +kernel) ?_
  refine zn_add hx hb dL_law_290 ?_
  refine zn_sld (k := (4 * k) + 1) hx hb hX hbl hbA hS (by omega) (by omega) dL_law_291 ?_
  refine zz_callVi (As := [.int (xs ((4 * k) + 1))]) (rest := []) F hK hP hD hS hA (c1_ways l D tys cI cZ hI hZ g g1 g2 g3 g4 (nmW cI h a1 a2 a3 a4 wf nf bf bs mc ff [(o, .inl (cL, 1, .inr (.inl og)))]) _ wf1 nf1 cf kf fw mx th w n ok1 (xs ((4 * k) + 1))) (cwV 1 hts gT_ways rfl rfl rfl (by decide +kernel) ⟨Nat.le_of_ble_eq_true rfl, Nat.le_of_ble_eq_true rfl⟩) 0 rfl rfl rfl hl.1 rfl (Nat.le_of_ble_eq_true rfl) dL_law_292 ⟨hc, hs⟩ (fun bb u H locs hM hP hD hS => ?_)
  obtain ⟨cf, fw, mx, th⟩ := u
  have hP : va_P D vwCl (lwM cI cZ cL h a1 a2 a3 a4 g g1 g2 g3 g4 o wf nf bf bs mc ff og wf1 nf1 cf kf fw mx th) H := hP
  have hD : va_D A (lwM cI cZ cL h a1 a2 a3 a4 g g1 g2 g3 g4 o wf nf bf bs mc ff og wf1 nf1 cf kf fw mx th) := hD
  refine lv_istore (lv' := [(6, .int bb), (5, .int rr), (4, .int (nI (4 * k))), (3, .ref o), (2, .ref g), (1, .ref h), (0, .ref b)]) hx hb dL_law_295 hl (by decide) rfl (fun ls hl => ?_)
  refine lv_aload_n hx hb dL_law_297 rfl (lv_at hl 4 rfl) ?_
  refine zz_callVi (As := []) (rest := []) F hK hP hD hS hA (c1_thrown l D tys cI cZ hI hZ g g1 g2 g3 g4 (nmW cI h a1 a2 a3 a4 wf nf bf bs mc ff [(o, .inl (cL, 1, .inr (.inl og)))]) _ wf1 nf1 cf kf fw mx th w n ok1 ) (cwV 0 hts gT_thrown rfl rfl rfl (by decide +kernel) ⟨Nat.le_of_ble_eq_true rfl, Nat.le_of_ble_eq_true rfl⟩) 0 rfl rfl rfl hl.1 rfl (Nat.le_of_ble_eq_true rfl) dL_law_298 ⟨hc, hs⟩ (fun tt u H locs hT hP hD hS => ?_)
  have hP : va_P D vwCl (lwM cI cZ cL h a1 a2 a3 a4 g g1 g2 g3 g4 o wf nf bf bs mc ff og wf1 nf1 cf kf fw mx th) H := hP
  have hD : va_D A (lwM cI cZ cL h a1 a2 a3 a4 g g1 g2 g3 g4 o wf nf bf bs mc ff og wf1 nf1 cf kf fw mx th) := hD
  refine zn_as hT ?_
  have ag := (ag_ways (y := 0) (z := 0) hu hM : th = rr ∧ (rr = 0 → og 0 = bb.toInt64))
  have hP := hP.sub (ws' := (lwW cI cZ cL h a1 a2 a3 a4 g g1 g2 g3 g4 o wf nf bf bs mc ff og wf1 nf1 cf kf fw mx th)) [5, 6, 7, 8, 9, 10, 0, 1, 2, 3, 4] rfl
  have hD := hD.sub (ws' := (lwW cI cZ cL h a1 a2 a3 a4 g g1 g2 g3 g4 o wf nf bf bs mc ff og wf1 nf1 cf kf fw mx th)) [5, 6, 7, 8, 9, 10, 0, 1, 2, 3, 4] (by decide) rfl
  refine lv_iload hx hb dL_law_301 (lv_at hl 1 rfl) ?_
  refine lv_icmp_eq hx hb dL_law_303 rfl (fun _ => ?_) (fun h9 => absurd ag.1 h9)
  refine lv_iload hx hb dL_law_308 (lv_at hl 1 rfl) ?_
  refine lv_if_ne hx hb dL_law_310 rfl (fun _ => ?_) (fun hq => ?_)
  · refine lv_goto hx hb dL_law_325 rfl ?_
    have hl : lv_has ls 7 [(4, .int (nI (4 * k))), (3, .ref o), (2, .ref g), (1, .ref h), (0, .ref b)] := lv_sub hl [2, 3, 4, 5, 6] rfl
    exact kk _ _ _ ⟨wf, nf, bf, bs, mc, ff, og, wf1, nf1, cf, kf, fw, mx, th, w, n, hl, hP, hD, hS, ok, ok1⟩
  · refine lv_aload_n hx hb dL_law_313 rfl (lv_at hl 3 rfl) ?_
    refine lv_iconst (v := nI 0) hx hb dL_law_314 (by decide +kernel) ?_
    refine zn_lald (k := 0) hx hb hK hP 5 _ rfl hLg (by decide) (by decide) dL_law_315 ?_
    refine zn_asl (ag.2 hq) ?_
    refine lv_iload hx hb dL_law_316 (lv_at hl 0 rfl) ?_
    refine lv_i2l (v := bb.toInt64) hx hb dL_law_318 rfl ?_
    refine W.lcmp hx hb dL_law_319 ?_
    refine zn_as (zz_cmp _) ?_
    refine lv_if_eq hx hb dL_law_320 rfl (fun _ => ?_) (fun h9 => absurd rfl h9)
    refine lv_goto hx hb dL_law_325 rfl ?_
    have hl : lv_has ls 7 [(4, .int (nI (4 * k))), (3, .ref o), (2, .ref g), (1, .ref h), (0, .ref b)] := lv_sub hl [2, 3, 4, 5, 6] rfl
    exact kk _ _ _ ⟨wf, nf, bf, bs, mc, ff, og, wf1, nf1, cf, kf, fw, mx, th, w, n, hl, hP, hD, hS, ok, ok1⟩
