set_option maxRecDepth 100000 in
set_option maxHeartbeats 4000000 in
theorem lw_case4 {p : Program} {l : Launch} {e : Env} {s : State} {m : MethodId} {below : List Frame} {meth : Method} {c : Code} {Q : State → Prop} {D : va_G} {tys : List (ClassId × FieldType)} {cI cZ cL : ClassId} {A : Nat → Prop} {b L : Nat} {xs : Nat → Int32} {h a1 a2 a3 a4 g g1 g2 g3 g4 o k : Nat} {ls : Array Slot} {H : Heap} {locs : List Loc} {cells slots : Nat} (C : lwC p l s m c D tys cI cZ cL A b L xs) (hL : L ≤ 2048) (hk : 4 * k + 4 ≤ L) (hc : cells + 1 ≤ 1037) (hs : slots + 6 ≤ 12244) (S0 : lwS D cI cZ cL h a1 a2 a3 a4 g g1 g2 g3 g4 o A s b (4 * k) ls H locs) (kk : ∀ (ls' : Array Slot) (H' : Heap) (locs' : List Loc), lwS D cI cZ cL h a1 a2 a3 a4 g g1 g2 g3 g4 o A s b (4 * k) ls' H' locs' → W p l e room_1 s m #[Value.ref b] below meth c H' locs' (cells + 1) (slots + 6) Q (F0 m 562 ls' [])) : W p l e room_1 s m #[Value.ref b] below meth c H locs cells slots Q (F0 m 328 ls []) := by
  obtain ⟨F, hl0, hX, hbl, hbA, hst, hnc, hK, hI, hZ, hLg, hA⟩ := C
  obtain ⟨hx, hb, hml, hown, hts⟩ := id F
  have FL : CallFix p m c cL_law 7 s #[Value.ref b] wsL_law RL := ⟨hx, hb, hml, hown, fun w hw => hts w (wsL_law_in w hw)⟩
  obtain ⟨wf, nf, bf, bs, mc, ff, og, wf1, nf1, cf, kf, fw, mx, th, w, n, hl, hP, hD, hS, ok, ok1⟩ := S0
  refine lv_aload_n hx hb dL_law_328 rfl (lv_at hl 3 rfl) ?_
  refine lv_aload_n hx hb dL_law_329 rfl (lv_at hl 4 rfl) ?_
  refine lv_iload hx hb dL_law_330 (lv_at hl 0 rfl) ?_
  refine lv_iconst (v := nI 1) hx hb dL_law_332 (by decide +kernel) ?_
  refine zn_add hx hb dL_law_333 ?_
  refine zn_sld (k := (4 * k) + 1) hx hb hX hbl hbA hS (by omega) (by omega) dL_law_334 ?_
  refine lv_aload_n hx hb dL_law_335 rfl (lv_at hl 4 rfl) ?_
  refine lv_iload hx hb dL_law_336 (lv_at hl 0 rfl) ?_
  refine lv_iconst (v := nI 2) hx hb dL_law_338 (by decide +kernel) ?_
  refine zn_add hx hb dL_law_339 ?_
  refine zn_sld (k := (4 * k) + 2) hx hb hX hbl hbA hS (by omega) (by omega) dL_law_340 ?_
  refine lv_aload_n hx hb dL_law_341 rfl (lv_at hl 1 rfl) ?_
  refine zy_callSi (As := [.ref h, .int (xs ((4 * k) + 1)), .int (xs ((4 * k) + 2)), .ref o]) (rest := []) FL hK hP hD hS hA hst hnc (h_pay l hl0 D tys cI cL hI hLg h a1 a2 a3 a4 o (mdW cI cZ g g1 g2 g3 g4 wf1 nf1 cf kf fw mx th []) _ wf nf bf bs mc ff og w n ok (xs ((4 * k) + 1)) (xs ((4 * k) + 2))) (vx_cwSW 4 FL.2.2.2.2 gL_law_L_pay rfl rfl rfl (by decide +kernel) ⟨Nat.le_of_ble_eq_true rfl, Nat.le_of_ble_eq_true rfl⟩) rfl hl.1 rfl (Nat.le_of_ble_eq_true rfl) dL_law_342 ⟨hc, hs⟩ (fun rr u H locs hu hP hD hS => ?_)
  obtain ⟨⟨nf', bf, bs, mc⟩, og⟩ := u
  have hP : va_P D vwCl (lwW cI cZ cL h a1 a2 a3 a4 g g1 g2 g3 g4 o wf nf' bf bs mc ff og wf1 nf1 cf kf fw mx th) H := hP
  have hD : va_D A (lwW cI cZ cL h a1 a2 a3 a4 g g1 g2 g3 g4 o wf nf' bf bs mc ff og wf1 nf1 cf kf fw mx th) := hD
  have hP := hP.sub (ws' := (lwM cI cZ cL h a1 a2 a3 a4 g g1 g2 g3 g4 o wf nf' bf bs mc ff og wf1 nf1 cf kf fw mx th)) [6, 7, 8, 9, 10, 0, 1, 2, 3, 4, 5] rfl
  have hD := hD.sub (ws' := (lwM cI cZ cL h a1 a2 a3 a4 g g1 g2 g3 g4 o wf nf' bf bs mc ff og wf1 nf1 cf kf fw mx th)) [6, 7, 8, 9, 10, 0, 1, 2, 3, 4, 5] (by decide) rfl
  refine lv_istore (lv' := [(5, .int rr), (4, .int (nI (4 * k))), (3, .ref o), (2, .ref g), (1, .ref h), (0, .ref b)]) hx hb dL_law_345 hl (by decide) rfl (fun ls hl => ?_)
  refine lv_aload_n hx hb dL_law_347 rfl (lv_at hl 3 rfl) ?_
  refine lv_aload_n hx hb dL_law_348 rfl (lv_at hl 5 rfl) ?_
  refine lv_iload hx hb dL_law_349 (lv_at hl 1 rfl) ?_
  refine lv_iconst (v := nI 1) hx hb dL_law_351 (by decide +kernel) ?_
  refine zn_add hx hb dL_law_352 ?_
  refine zn_sld (k := (4 * k) + 1) hx hb hX hbl hbA hS (by omega) (by omega) dL_law_353 ?_
  refine lv_aload_n hx hb dL_law_354 rfl (lv_at hl 5 rfl) ?_
  refine lv_iload hx hb dL_law_355 (lv_at hl 1 rfl) ?_
  refine lv_iconst (v := nI 2) hx hb dL_law_357 (by decide +kernel) ?_
  refine zn_add hx hb dL_law_358 ?_
  refine zn_sld (k := (4 * k) + 2) hx hb hX hbl hbA hS (by omega) (by omega) dL_law_359 ?_
  refine zz_callVi (As := [.int (xs ((4 * k) + 1)), .int (xs ((4 * k) + 2))]) (rest := []) F hK hP hD hS hA (c1_pay l D tys cI cZ hI hZ g g1 g2 g3 g4 (nmW cI h a1 a2 a3 a4 wf nf' bf bs mc ff [(o, .inl (cL, 1, .inr (.inl og)))]) _ wf1 nf1 cf kf fw mx th w n ok1 (xs ((4 * k) + 1)) (xs ((4 * k) + 2))) (cwV 2 hts gT_pay rfl rfl rfl (by decide +kernel) ⟨Nat.le_of_ble_eq_true rfl, Nat.le_of_ble_eq_true rfl⟩) 0 rfl rfl rfl hl.1 rfl (Nat.le_of_ble_eq_true rfl) dL_law_360 ⟨hc, hs⟩ (fun bb u H locs hM hP hD hS => ?_)
  obtain ⟨nf1', cf, fw, mx, th⟩ := u
  have hP : va_P D vwCl (lwM cI cZ cL h a1 a2 a3 a4 g g1 g2 g3 g4 o wf nf' bf bs mc ff og wf1 nf1' cf kf fw mx th) H := hP
  have hD : va_D A (lwM cI cZ cL h a1 a2 a3 a4 g g1 g2 g3 g4 o wf nf' bf bs mc ff og wf1 nf1' cf kf fw mx th) := hD
  refine lv_istore (lv' := [(6, .int bb), (5, .int rr), (4, .int (nI (4 * k))), (3, .ref o), (2, .ref g), (1, .ref h), (0, .ref b)]) hx hb dL_law_363 hl (by decide) rfl (fun ls hl => ?_)
  have ag0 := ag_pay (z := 0) (og0 := og 0) ok ok1 hu hM
  obtain ⟨agE, n', ok, ok1⟩ := ag0
  obtain ⟨n, rfl⟩ : ∃ z, z = n' := ⟨_, rfl⟩
  refine lv_aload_n hx hb dL_law_365 rfl (lv_at hl 4 rfl) ?_
  refine zz_callVi (As := []) (rest := []) F hK hP hD hS hA (c1_thrown l D tys cI cZ hI hZ g g1 g2 g3 g4 (nmW cI h a1 a2 a3 a4 wf nf' bf bs mc ff [(o, .inl (cL, 1, .inr (.inl og)))]) _ wf1 nf1' cf kf fw mx th w n ok1 ) (cwV 0 hts gT_thrown rfl rfl rfl (by decide +kernel) ⟨Nat.le_of_ble_eq_true rfl, Nat.le_of_ble_eq_true rfl⟩) 0 rfl rfl rfl hl.1 rfl (Nat.le_of_ble_eq_true rfl) dL_law_366 ⟨hc, hs⟩ (fun tt u H locs hT hP hD hS => ?_)
  have hP : va_P D vwCl (lwM cI cZ cL h a1 a2 a3 a4 g g1 g2 g3 g4 o wf nf' bf bs mc ff og wf1 nf1' cf kf fw mx th) H := hP
  have hD : va_D A (lwM cI cZ cL h a1 a2 a3 a4 g g1 g2 g3 g4 o wf nf' bf bs mc ff og wf1 nf1' cf kf fw mx th) := hD
  refine zn_as hT ?_
  have ag := (agE : th = rr ∧ (rr = 0 → og 0 = bb.toInt64))
  have hP := hP.sub (ws' := (lwW cI cZ cL h a1 a2 a3 a4 g g1 g2 g3 g4 o wf nf' bf bs mc ff og wf1 nf1' cf kf fw mx th)) [5, 6, 7, 8, 9, 10, 0, 1, 2, 3, 4] rfl
  have hD := hD.sub (ws' := (lwW cI cZ cL h a1 a2 a3 a4 g g1 g2 g3 g4 o wf nf' bf bs mc ff og wf1 nf1' cf kf fw mx th)) [5, 6, 7, 8, 9, 10, 0, 1, 2, 3, 4] (by decide) rfl
  refine lv_iload hx hb dL_law_369 (lv_at hl 1 rfl) ?_
  refine lv_icmp_eq hx hb dL_law_371 rfl (fun _ => ?_) (fun h9 => absurd ag.1 h9)
  refine lv_iload hx hb dL_law_376 (lv_at hl 1 rfl) ?_
  refine lv_if_ne hx hb dL_law_378 rfl (fun _ => ?_) (fun hq => ?_)
  · refine lv_goto hx hb dL_law_393 rfl ?_
    have hl : lv_has ls 7 [(4, .int (nI (4 * k))), (3, .ref o), (2, .ref g), (1, .ref h), (0, .ref b)] := lv_sub hl [2, 3, 4, 5, 6] rfl
    exact kk _ _ _ ⟨wf, nf', bf, bs, mc, ff, og, wf1, nf1', cf, kf, fw, mx, th, w, n, hl, hP, hD, hS, ok, ok1⟩
  · refine lv_aload_n hx hb dL_law_381 rfl (lv_at hl 3 rfl) ?_
    refine lv_iconst (v := nI 0) hx hb dL_law_382 (by decide +kernel) ?_
    refine zn_lald (k := 0) hx hb hK hP 5 _ rfl hLg (by decide) (by decide) dL_law_383 ?_
    refine zn_asl (ag.2 hq) ?_
    refine lv_iload hx hb dL_law_384 (lv_at hl 0 rfl) ?_
    refine lv_i2l (v := bb.toInt64) hx hb dL_law_386 rfl ?_
    refine W.lcmp hx hb dL_law_387 ?_
    refine zn_as (zz_cmp _) ?_
    refine lv_if_eq hx hb dL_law_388 rfl (fun _ => ?_) (fun h9 => absurd rfl h9)
    refine lv_goto hx hb dL_law_393 rfl ?_
    have hl : lv_has ls 7 [(4, .int (nI (4 * k))), (3, .ref o), (2, .ref g), (1, .ref h), (0, .ref b)] := lv_sub hl [2, 3, 4, 5, 6] rfl
    exact kk _ _ _ ⟨wf, nf', bf, bs, mc, ff, og, wf1, nf1', cf, kf, fw, mx, th, w, n, hl, hP, hD, hS, ok, ok1⟩
set_option maxRecDepth 100000 in
set_option maxHeartbeats 4000000 in
theorem lw_case5 {p : Program} {l : Launch} {e : Env} {s : State} {m : MethodId} {below : List Frame} {meth : Method} {c : Code} {Q : State → Prop} {D : va_G} {tys : List (ClassId × FieldType)} {cI cZ cL : ClassId} {A : Nat → Prop} {b L : Nat} {xs : Nat → Int32} {h a1 a2 a3 a4 g g1 g2 g3 g4 o k : Nat} {ls : Array Slot} {H : Heap} {locs : List Loc} {cells slots : Nat} (C : lwC p l s m c D tys cI cZ cL A b L xs) (hL : L ≤ 2048) (hk : 4 * k + 4 ≤ L) (hc : cells + 1 ≤ 1037) (hs : slots + 6 ≤ 12244) (S0 : lwS D cI cZ cL h a1 a2 a3 a4 g g1 g2 g3 g4 o A s b (4 * k) ls H locs) (kk : ∀ (ls' : Array Slot) (H' : Heap) (locs' : List Loc), lwS D cI cZ cL h a1 a2 a3 a4 g g1 g2 g3 g4 o A s b (4 * k) ls' H' locs' → W p l e room_1 s m #[Value.ref b] below meth c H' locs' (cells + 1) (slots + 6) Q (F0 m 562 ls' [])) : W p l e room_1 s m #[Value.ref b] below meth c H locs cells slots Q (F0 m 396 ls []) := by
  obtain ⟨F, hl0, hX, hbl, hbA, hst, hnc, hK, hI, hZ, hLg, hA⟩ := C
  obtain ⟨hx, hb, hml, hown, hts⟩ := id F
  have FL : CallFix p m c cL_law 7 s #[Value.ref b] wsL_law RL := ⟨hx, hb, hml, hown, fun w hw => hts w (wsL_law_in w hw)⟩
  obtain ⟨wf, nf, bf, bs, mc, ff, og, wf1, nf1, cf, kf, fw, mx, th, w, n, hl, hP, hD, hS, ok, ok1⟩ := S0
  refine lv_aload_n hx hb dL_law_396 rfl (lv_at hl 3 rfl) ?_
  refine lv_aload_n hx hb dL_law_397 rfl (lv_at hl 4 rfl) ?_
  refine lv_iload hx hb dL_law_398 (lv_at hl 0 rfl) ?_
  refine lv_iconst (v := nI 1) hx hb dL_law_400 (by decide +kernel) ?_
  refine zn_add hx hb dL_law_401 ?_
  refine zn_sld (k := (4 * k) + 1) hx hb hX hbl hbA hS (by omega) (by omega) dL_law_402 ?_
  refine lv_aload_n hx hb dL_law_403 rfl (lv_at hl 1 rfl) ?_
  refine zy_callSi (As := [.ref h, .int (xs ((4 * k) + 1)), .ref o]) (rest := []) FL hK hP hD hS hA hst hnc (h_next l hl0 D tys cI cL hI hLg h a1 a2 a3 a4 o (mdW cI cZ g g1 g2 g3 g4 wf1 nf1 cf kf fw mx th []) _ wf nf bf bs mc ff og w n ok (xs ((4 * k) + 1))) (vx_cwSW 3 FL.2.2.2.2 gL_law_L_next rfl rfl rfl (by decide +kernel) ⟨Nat.le_of_ble_eq_true rfl, Nat.le_of_ble_eq_true rfl⟩) rfl hl.1 rfl (Nat.le_of_ble_eq_true rfl) dL_law_404 ⟨hc, hs⟩ (fun rr u H locs hu hP hD hS => ?_)
  obtain ⟨ff, og⟩ := u
  have hP : va_P D vwCl (lwW cI cZ cL h a1 a2 a3 a4 g g1 g2 g3 g4 o wf nf bf bs mc ff og wf1 nf1 cf kf fw mx th) H := hP
  have hD : va_D A (lwW cI cZ cL h a1 a2 a3 a4 g g1 g2 g3 g4 o wf nf bf bs mc ff og wf1 nf1 cf kf fw mx th) := hD
  have hP := hP.sub (ws' := (lwM cI cZ cL h a1 a2 a3 a4 g g1 g2 g3 g4 o wf nf bf bs mc ff og wf1 nf1 cf kf fw mx th)) [6, 7, 8, 9, 10, 0, 1, 2, 3, 4, 5] rfl
  have hD := hD.sub (ws' := (lwM cI cZ cL h a1 a2 a3 a4 g g1 g2 g3 g4 o wf nf bf bs mc ff og wf1 nf1 cf kf fw mx th)) [6, 7, 8, 9, 10, 0, 1, 2, 3, 4, 5] (by decide) rfl
  refine lv_istore (lv' := [(5, .int rr), (4, .int (nI (4 * k))), (3, .ref o), (2, .ref g), (1, .ref h), (0, .ref b)]) hx hb dL_law_407 hl (by decide) rfl (fun ls hl => ?_)
  refine lv_aload_n hx hb dL_law_409 rfl (lv_at hl 3 rfl) ?_
  refine lv_aload_n hx hb dL_law_410 rfl (lv_at hl 5 rfl) ?_
  refine lv_iload hx hb dL_law_411 (lv_at hl 1 rfl) ?_
  refine lv_iconst (v := nI 1) hx hb dL_law_413 (by decide +kernel) ?_
  refine zn_add hx hb dL_law_414 ?_
  refine zn_sld (k := (4 * k) + 1) hx hb hX hbl hbA hS (by omega) (by omega) dL_law_415 ?_
  refine zz_callVi (As := [.int (xs ((4 * k) + 1))]) (rest := []) F hK hP hD hS hA (c1_next l D tys cI cZ hI hZ g g1 g2 g3 g4 (nmW cI h a1 a2 a3 a4 wf nf bf bs mc ff [(o, .inl (cL, 1, .inr (.inl og)))]) _ wf1 nf1 cf kf fw mx th w n ok1 (xs ((4 * k) + 1))) (cwV 1 hts gT_next rfl rfl rfl (by decide +kernel) ⟨Nat.le_of_ble_eq_true rfl, Nat.le_of_ble_eq_true rfl⟩) 0 rfl rfl rfl hl.1 rfl (Nat.le_of_ble_eq_true rfl) dL_law_416 ⟨hc, hs⟩ (fun bb u H locs hM hP hD hS => ?_)
  obtain ⟨kf, th⟩ := u
  have hP : va_P D vwCl (lwM cI cZ cL h a1 a2 a3 a4 g g1 g2 g3 g4 o wf nf bf bs mc ff og wf1 nf1 cf kf fw mx th) H := hP
  have hD : va_D A (lwM cI cZ cL h a1 a2 a3 a4 g g1 g2 g3 g4 o wf nf bf bs mc ff og wf1 nf1 cf kf fw mx th) := hD
  refine lv_istore (lv' := [(6, .int bb), (5, .int rr), (4, .int (nI (4 * k))), (3, .ref o), (2, .ref g), (1, .ref h), (0, .ref b)]) hx hb dL_law_419 hl (by decide) rfl (fun ls hl => ?_)
  refine lv_aload_n hx hb dL_law_421 rfl (lv_at hl 4 rfl) ?_
  refine zz_callVi (As := []) (rest := []) F hK hP hD hS hA (c1_thrown l D tys cI cZ hI hZ g g1 g2 g3 g4 (nmW cI h a1 a2 a3 a4 wf nf bf bs mc ff [(o, .inl (cL, 1, .inr (.inl og)))]) _ wf1 nf1 cf kf fw mx th w n ok1 ) (cwV 0 hts gT_thrown rfl rfl rfl (by decide +kernel) ⟨Nat.le_of_ble_eq_true rfl, Nat.le_of_ble_eq_true rfl⟩) 0 rfl rfl rfl hl.1 rfl (Nat.le_of_ble_eq_true rfl) dL_law_422 ⟨hc, hs⟩ (fun tt u H locs hT hP hD hS => ?_)
  have hP : va_P D vwCl (lwM cI cZ cL h a1 a2 a3 a4 g g1 g2 g3 g4 o wf nf bf bs mc ff og wf1 nf1 cf kf fw mx th) H := hP
  have hD : va_D A (lwM cI cZ cL h a1 a2 a3 a4 g g1 g2 g3 g4 o wf nf bf bs mc ff og wf1 nf1 cf kf fw mx th) := hD
  refine zn_as hT ?_
  have ag := (ag_next (y := 0) (z := 0) hu hM : th = rr ∧ (rr = 0 → og 0 = bb.toInt64))
  have hP := hP.sub (ws' := (lwW cI cZ cL h a1 a2 a3 a4 g g1 g2 g3 g4 o wf nf bf bs mc ff og wf1 nf1 cf kf fw mx th)) [5, 6, 7, 8, 9, 10, 0, 1, 2, 3, 4] rfl
  have hD := hD.sub (ws' := (lwW cI cZ cL h a1 a2 a3 a4 g g1 g2 g3 g4 o wf nf bf bs mc ff og wf1 nf1 cf kf fw mx th)) [5, 6, 7, 8, 9, 10, 0, 1, 2, 3, 4] (by decide) rfl
  refine lv_iload hx hb dL_law_425 (lv_at hl 1 rfl) ?_
  refine lv_icmp_eq hx hb dL_law_427 rfl (fun _ => ?_) (fun h9 => absurd ag.1 h9)
  refine lv_iload hx hb dL_law_432 (lv_at hl 1 rfl) ?_
  refine lv_if_ne hx hb dL_law_434 rfl (fun _ => ?_) (fun hq => ?_)
  · refine lv_goto hx hb dL_law_449 rfl ?_
    have hl : lv_has ls 7 [(4, .int (nI (4 * k))), (3, .ref o), (2, .ref g), (1, .ref h), (0, .ref b)] := lv_sub hl [2, 3, 4, 5, 6] rfl
    exact kk _ _ _ ⟨wf, nf, bf, bs, mc, ff, og, wf1, nf1, cf, kf, fw, mx, th, w, n, hl, hP, hD, hS, ok, ok1⟩
  · refine lv_aload_n hx hb dL_law_437 rfl (lv_at hl 3 rfl) ?_
    refine lv_iconst (v := nI 0) hx hb dL_law_438 (by decide +kernel) ?_
    refine zn_lald (k := 0) hx hb hK hP 5 _ rfl hLg (by decide) (by decide) dL_law_439 ?_
    refine zn_asl (ag.2 hq) ?_
    refine lv_iload hx hb dL_law_440 (lv_at hl 0 rfl) ?_
    refine lv_i2l (v := bb.toInt64) hx hb dL_law_442 rfl ?_
    refine W.lcmp hx hb dL_law_443 ?_
    refine zn_as (zz_cmp _) ?_
    refine lv_if_eq hx hb dL_law_444 rfl (fun _ => ?_) (fun h9 => absurd rfl h9)
    refine lv_goto hx hb dL_law_449 rfl ?_
    have hl : lv_has ls 7 [(4, .int (nI (4 * k))), (3, .ref o), (2, .ref g), (1, .ref h), (0, .ref b)] := lv_sub hl [2, 3, 4, 5, 6] rfl
    exact kk _ _ _ ⟨wf, nf, bf, bs, mc, ff, og, wf1, nf1, cf, kf, fw, mx, th, w, n, hl, hP, hD, hS, ok, ok1⟩
set_option maxRecDepth 100000 in
set_option maxHeartbeats 4000000 in
theorem lw_case6 {p : Program} {l : Launch} {e : Env} {s : State} {m : MethodId} {below : List Frame} {meth : Method} {c : Code} {Q : State → Prop} {D : va_G} {tys : List (ClassId × FieldType)} {cI cZ cL : ClassId} {A : Nat → Prop} {b L : Nat} {xs : Nat → Int32} {h a1 a2 a3 a4 g g1 g2 g3 g4 o k : Nat} {ls : Array Slot} {H : Heap} {locs : List Loc} {cells slots : Nat} (C : lwC p l s m c D tys cI cZ cL A b L xs) (hL : L ≤ 2048) (hk : 4 * k + 4 ≤ L) (hc : cells + 1 ≤ 1037) (hs : slots + 6 ≤ 12244) (S0 : lwS D cI cZ cL h a1 a2 a3 a4 g g1 g2 g3 g4 o A s b (4 * k) ls H locs) (kk : ∀ (ls' : Array Slot) (H' : Heap) (locs' : List Loc), lwS D cI cZ cL h a1 a2 a3 a4 g g1 g2 g3 g4 o A s b (4 * k) ls' H' locs' → W p l e room_1 s m #[Value.ref b] below meth c H' locs' (cells + 1) (slots + 6) Q (F0 m 562 ls' [])) : W p l e room_1 s m #[Value.ref b] below meth c H locs cells slots Q (F0 m 452 ls []) := by
  obtain ⟨F, hl0, hX, hbl, hbA, hst, hnc, hK, hI, hZ, hLg, hA⟩ := C
  obtain ⟨hx, hb, hml, hown, hts⟩ := id F
  have FL : CallFix p m c cL_law 7 s #[Value.ref b] wsL_law RL := ⟨hx, hb, hml, hown, fun w hw => hts w (wsL_law_in w hw)⟩
  obtain ⟨wf, nf, bf, bs, mc, ff, og, wf1, nf1, cf, kf, fw, mx, th, w, n, hl, hP, hD, hS, ok, ok1⟩ := S0
  refine lv_aload_n hx hb dL_law_452 rfl (lv_at hl 3 rfl) ?_
  refine zz_callVi (As := []) (rest := []) FL hK hP hD hS hA (c_reach l D tys cI hI h a1 a2 a3 a4 ((o, .inl (cL, 1, .inr (.inl og))) :: (mdW cI cZ g g1 g2 g3 g4 wf1 nf1 cf kf fw mx th [])) _ wf nf bf bs mc ff w n ok) (cwV 0 FL.2.2.2.2 gL_law_X0_reach rfl rfl rfl (by decide +kernel) ⟨Nat.le_of_ble_eq_true rfl, Nat.le_of_ble_eq_true rfl⟩) 0 rfl rfl rfl hl.1 rfl (Nat.le_of_ble_eq_true rfl) dL_law_453 ⟨by show cells + 0 ≤ 1037; omega, by show slots + 0 ≤ 12244; omega⟩ (fun rr u H locs hu hP hD hS => ?_)
  have hP : va_P D vwCl (lwW cI cZ cL h a1 a2 a3 a4 g g1 g2 g3 g4 o wf nf bf bs mc u og wf1 nf1 cf kf fw mx th) H := hP
  have hD : va_D A (lwW cI cZ cL h a1 a2 a3 a4 g g1 g2 g3 g4 o wf nf bf bs mc u og wf1 nf1 cf kf fw mx th) := hD
  have hP := hP.sub (ws' := (lwM cI cZ cL h a1 a2 a3 a4 g g1 g2 g3 g4 o wf nf bf bs mc u og wf1 nf1 cf kf fw mx th)) [6, 7, 8, 9, 10, 0, 1, 2, 3, 4, 5] rfl
  have hD := hD.sub (ws' := (lwM cI cZ cL h a1 a2 a3 a4 g g1 g2 g3 g4 o wf nf bf bs mc u og wf1 nf1 cf kf fw mx th)) [6, 7, 8, 9, 10, 0, 1, 2, 3, 4, 5] (by decide) rfl
  refine lv_aload_n hx hb dL_law_456 rfl (lv_at hl 2 rfl) ?_
  obtain ⟨u1, rfl⟩ : ∃ z, z = u := ⟨_, rfl⟩
  refine zz_callVi (As := []) (rest := [.int rr]) F hK hP hD hS hA (c1_reach l D tys cI cZ hI hZ g g1 g2 g3 g4 (nmW cI h a1 a2 a3 a4 wf nf bf bs mc u1 [(o, .inl (cL, 1, .inr (.inl og)))]) _ wf1 nf1 cf kf fw mx th w n ok1 ) (cwV 0 hts gT_reach rfl rfl rfl (by decide +kernel) ⟨Nat.le_of_ble_eq_true rfl, Nat.le_of_ble_eq_true rfl⟩) 0 rfl rfl rfl hl.1 rfl (Nat.le_of_ble_eq_true rfl) dL_law_457 ⟨by show cells + 0 + 0 ≤ 1037; omega, by show slots + 0 + 0 ≤ 12244; omega⟩ (fun bb u H locs hM hP hD hS => ?_)
  have hP : va_P D vwCl (lwM cI cZ cL h a1 a2 a3 a4 g g1 g2 g3 g4 o wf nf bf bs mc u1 og wf1 nf1 cf u fw mx (nI 0)) H := hP
  have hD : va_D A (lwM cI cZ cL h a1 a2 a3 a4 g g1 g2 g3 g4 o wf nf bf bs mc u1 og wf1 nf1 cf u fw mx (nI 0)) := hD
  have hP := hP.sub (ws' := (lwW cI cZ cL h a1 a2 a3 a4 g g1 g2 g3 g4 o wf nf bf bs mc u1 og wf1 nf1 cf u fw mx (nI 0))) [5, 6, 7, 8, 9, 10, 0, 1, 2, 3, 4] rfl
  have hD := hD.sub (ws' := (lwW cI cZ cL h a1 a2 a3 a4 g g1 g2 g3 g4 o wf nf bf bs mc u1 og wf1 nf1 cf u fw mx (nI 0))) [5, 6, 7, 8, 9, 10, 0, 1, 2, 3, 4] (by decide) rfl
  refine lv_icmp_eq hx hb dL_law_460 rfl (fun _ => ?_) (fun h9 => absurd (hu.trans hM.symm) h9)
  refine W.widen (k := cells + 1) (n := slots + 6) (by omega) (by omega) ?_
  have hl : lv_has ls 7 [(4, .int (nI (4 * k))), (3, .ref o), (2, .ref g), (1, .ref h), (0, .ref b)] := lv_sub hl [0, 1, 2, 3, 4] rfl
  exact kk _ _ _ ⟨wf, nf, bf, bs, mc, u1, og, wf1, nf1, cf, u, fw, mx, (nI 0), w, n, hl, hP, hD, hS, ok, ok1⟩
set_option maxRecDepth 100000 in
set_option maxHeartbeats 4000000 in
theorem lw_case7 {p : Program} {l : Launch} {e : Env} {s : State} {m : MethodId} {below : List Frame} {meth : Method} {c : Code} {Q : State → Prop} {D : va_G} {tys : List (ClassId × FieldType)} {cI cZ cL : ClassId} {A : Nat → Prop} {b L : Nat} {xs : Nat → Int32} {h a1 a2 a3 a4 g g1 g2 g3 g4 o k : Nat} {ls : Array Slot} {H : Heap} {locs : List Loc} {cells slots : Nat} (C : lwC p l s m c D tys cI cZ cL A b L xs) (hL : L ≤ 2048) (hk : 4 * k + 4 ≤ L) (hc : cells + 1 ≤ 1037) (hs : slots + 6 ≤ 12244) (S0 : lwS D cI cZ cL h a1 a2 a3 a4 g g1 g2 g3 g4 o A s b (4 * k) ls H locs) (kk : ∀ (ls' : Array Slot) (H' : Heap) (locs' : List Loc), lwS D cI cZ cL h a1 a2 a3 a4 g g1 g2 g3 g4 o A s b (4 * k) ls' H' locs' → W p l e room_1 s m #[Value.ref b] below meth c H' locs' (cells + 1) (slots + 6) Q (F0 m 562 ls' [])) : W p l e room_1 s m #[Value.ref b] below meth c H locs cells slots Q (F0 m 465 ls []) := by
  obtain ⟨F, hl0, hX, hbl, hbA, hst, hnc, hK, hI, hZ, hLg, hA⟩ := C
  obtain ⟨hx, hb, hml, hown, hts⟩ := id F
  have FL : CallFix p m c cL_law 7 s #[Value.ref b] wsL_law RL := ⟨hx, hb, hml, hown, fun w hw => hts w (wsL_law_in w hw)⟩
  obtain ⟨wf, nf, bf, bs, mc, ff, og, wf1, nf1, cf, kf, fw, mx, th, w, n, hl, hP, hD, hS, ok, ok1⟩ := S0
  by_cases hq0 : xs (4 * k + 2) = 0
  · refine lv_aload_n hx hb dL_law_465 rfl (lv_at hl 3 rfl) ?_
    refine lv_aload_n hx hb dL_law_466 rfl (lv_at hl 4 rfl) ?_
    refine lv_iload hx hb dL_law_467 (lv_at hl 0 rfl) ?_
    refine lv_iconst (v := nI 1) hx hb dL_law_469 (by decide +kernel) ?_
    refine zn_add hx hb dL_law_470 ?_
    refine zn_sld (k := (4 * k) + 1) hx hb hX hbl hbA hS (by omega) (by omega) dL_law_471 ?_
    refine lv_aload_n hx hb dL_law_472 rfl (lv_at hl 4 rfl) ?_
    refine lv_iload hx hb dL_law_473 (lv_at hl 0 rfl) ?_
    refine lv_iconst (v := nI 2) hx hb dL_law_475 (by decide +kernel) ?_
    refine zn_add hx hb dL_law_476 ?_
    refine zn_sld (k := (4 * k) + 2) hx hb hX hbl hbA hS (by omega) (by omega) dL_law_477 ?_
    refine lv_if_eq hx hb dL_law_478 rfl (fun _ => ?_) (fun h9 => absurd hq0 h9)
    refine lv_iconst (v := nI 0) hx hb dL_law_485 (by decide +kernel) ?_
    refine lv_aload_n hx hb dL_law_486 rfl (lv_at hl 1 rfl) ?_
    refine zy_callSi (As := [.ref h, .int (xs ((4 * k) + 1)), .int (nI 0), .ref o]) (rest := []) FL hK hP hD hS hA hst hnc (h_cassette l hl0 D tys cI cL hI hLg h a1 a2 a3 a4 o (mdW cI cZ g g1 g2 g3 g4 wf1 nf1 cf kf fw mx th []) _ wf nf bf bs mc ff og w n ok (xs ((4 * k) + 1)) (nI 0)) (vx_cwSW 4 FL.2.2.2.2 gL_law_L_cassette rfl rfl rfl (by decide +kernel) ⟨Nat.le_of_ble_eq_true rfl, Nat.le_of_ble_eq_true rfl⟩) rfl hl.1 rfl (Nat.le_of_ble_eq_true rfl) dL_law_487 ⟨hc, hs⟩ (fun rr u H locs hu hP hD hS => ?_)
    obtain ⟨⟨⟩, og⟩ := u
    have hP : va_P D vwCl (lwW cI cZ cL h a1 a2 a3 a4 g g1 g2 g3 g4 o wf nf bf bs mc ff og wf1 nf1 cf kf fw mx th) H := hP
    have hD : va_D A (lwW cI cZ cL h a1 a2 a3 a4 g g1 g2 g3 g4 o wf nf bf bs mc ff og wf1 nf1 cf kf fw mx th) := hD
    have hP := hP.sub (ws' := (lwM cI cZ cL h a1 a2 a3 a4 g g1 g2 g3 g4 o wf nf bf bs mc ff og wf1 nf1 cf kf fw mx th)) [6, 7, 8, 9, 10, 0, 1, 2, 3, 4, 5] rfl
    have hD := hD.sub (ws' := (lwM cI cZ cL h a1 a2 a3 a4 g g1 g2 g3 g4 o wf nf bf bs mc ff og wf1 nf1 cf kf fw mx th)) [6, 7, 8, 9, 10, 0, 1, 2, 3, 4, 5] (by decide) rfl
    refine lv_istore (lv' := [(5, .int rr), (4, .int (nI (4 * k))), (3, .ref o), (2, .ref g), (1, .ref h), (0, .ref b)]) hx hb dL_law_490 hl (by decide) rfl (fun ls hl => ?_)
    refine lv_aload_n hx hb dL_law_492 rfl (lv_at hl 3 rfl) ?_
    refine lv_aload_n hx hb dL_law_493 rfl (lv_at hl 5 rfl) ?_
    refine lv_iload hx hb dL_law_494 (lv_at hl 1 rfl) ?_
    refine lv_iconst (v := nI 1) hx hb dL_law_496 (by decide +kernel) ?_
    refine zn_add hx hb dL_law_497 ?_
    refine zn_sld (k := (4 * k) + 1) hx hb hX hbl hbA hS (by omega) (by omega) dL_law_498 ?_
    refine lv_aload_n hx hb dL_law_499 rfl (lv_at hl 5 rfl) ?_
    refine lv_iload hx hb dL_law_500 (lv_at hl 1 rfl) ?_
    refine lv_iconst (v := nI 2) hx hb dL_law_502 (by decide +kernel) ?_
    refine zn_add hx hb dL_law_503 ?_
    refine zn_sld (k := (4 * k) + 2) hx hb hX hbl hbA hS (by omega) (by omega) dL_law_504 ?_
    refine lv_if_eq hx hb dL_law_505 rfl (fun _ => ?_) (fun h9 => absurd hq0 h9)
    refine lv_iconst (v := nI 0) hx hb dL_law_512 (by decide +kernel) ?_
    refine zz_callVi (As := [.int (xs ((4 * k) + 1)), .int (nI 0)]) (rest := []) F hK hP hD hS hA (c1_cassette l D tys cI cZ hI hZ g g1 g2 g3 g4 (nmW cI h a1 a2 a3 a4 wf nf bf bs mc ff [(o, .inl (cL, 1, .inr (.inl og)))]) _ wf1 nf1 cf kf fw mx th w n ok1 (xs ((4 * k) + 1)) (nI 0)) (cwV 2 hts gT_cassette rfl rfl rfl (by decide +kernel) ⟨Nat.le_of_ble_eq_true rfl, Nat.le_of_ble_eq_true rfl⟩) 0 rfl rfl rfl hl.1 rfl (Nat.le_of_ble_eq_true rfl) dL_law_513 ⟨hc, hs⟩ (fun bb th H locs hM hP hD hS => ?_)
    have hP : va_P D vwCl (lwM cI cZ cL h a1 a2 a3 a4 g g1 g2 g3 g4 o wf nf bf bs mc ff og wf1 nf1 cf kf fw mx th) H := hP
    have hD : va_D A (lwM cI cZ cL h a1 a2 a3 a4 g g1 g2 g3 g4 o wf nf bf bs mc ff og wf1 nf1 cf kf fw mx th) := hD
    refine lv_istore (lv' := [(6, .int bb), (5, .int rr), (4, .int (nI (4 * k))), (3, .ref o), (2, .ref g), (1, .ref h), (0, .ref b)]) hx hb dL_law_516 hl (by decide) rfl (fun ls hl => ?_)
    refine lv_aload_n hx hb dL_law_518 rfl (lv_at hl 4 rfl) ?_
    refine zz_callVi (As := []) (rest := []) F hK hP hD hS hA (c1_thrown l D tys cI cZ hI hZ g g1 g2 g3 g4 (nmW cI h a1 a2 a3 a4 wf nf bf bs mc ff [(o, .inl (cL, 1, .inr (.inl og)))]) _ wf1 nf1 cf kf fw mx th w n ok1 ) (cwV 0 hts gT_thrown rfl rfl rfl (by decide +kernel) ⟨Nat.le_of_ble_eq_true rfl, Nat.le_of_ble_eq_true rfl⟩) 0 rfl rfl rfl hl.1 rfl (Nat.le_of_ble_eq_true rfl) dL_law_519 ⟨hc, hs⟩ (fun tt u H locs hT hP hD hS => ?_)
    have hP : va_P D vwCl (lwM cI cZ cL h a1 a2 a3 a4 g g1 g2 g3 g4 o wf nf bf bs mc ff og wf1 nf1 cf kf fw mx th) H := hP
    have hD : va_D A (lwM cI cZ cL h a1 a2 a3 a4 g g1 g2 g3 g4 o wf nf bf bs mc ff og wf1 nf1 cf kf fw mx th) := hD
    refine zn_as hT ?_
    have ag := (ag_cassette (z := 0) hu hM : th = rr ∧ (rr = 0 → og 0 = bb.toInt64))
    have hP := hP.sub (ws' := (lwW cI cZ cL h a1 a2 a3 a4 g g1 g2 g3 g4 o wf nf bf bs mc ff og wf1 nf1 cf kf fw mx th)) [5, 6, 7, 8, 9, 10, 0, 1, 2, 3, 4] rfl
    have hD := hD.sub (ws' := (lwW cI cZ cL h a1 a2 a3 a4 g g1 g2 g3 g4 o wf nf bf bs mc ff og wf1 nf1 cf kf fw mx th)) [5, 6, 7, 8, 9, 10, 0, 1, 2, 3, 4] (by decide) rfl
    refine lv_iload hx hb dL_law_522 (lv_at hl 1 rfl) ?_
    refine lv_icmp_eq hx hb dL_law_524 rfl (fun _ => ?_) (fun h9 => absurd ag.1 h9)
    refine lv_iload hx hb dL_law_529 (lv_at hl 1 rfl) ?_
    refine lv_if_ne hx hb dL_law_531 rfl (fun _ => ?_) (fun hq => ?_)
    · refine lv_goto hx hb dL_law_546 rfl ?_
      have hl : lv_has ls 7 [(4, .int (nI (4 * k))), (3, .ref o), (2, .ref g), (1, .ref h), (0, .ref b)] := lv_sub hl [2, 3, 4, 5, 6] rfl
      exact kk _ _ _ ⟨wf, nf, bf, bs, mc, ff, og, wf1, nf1, cf, kf, fw, mx, th, w, n, hl, hP, hD, hS, ok, ok1⟩
    · refine lv_aload_n hx hb dL_law_534 rfl (lv_at hl 3 rfl) ?_
      refine lv_iconst (v := nI 0) hx hb dL_law_535 (by decide +kernel) ?_
      refine zn_lald (k := 0) hx hb hK hP 5 _ rfl hLg (by decide) (by decide) dL_law_536 ?_
      refine zn_asl (ag.2 hq) ?_
      refine lv_iload hx hb dL_law_537 (lv_at hl 0 rfl) ?_
      refine lv_i2l (v := bb.toInt64) hx hb dL_law_539 rfl ?_
      refine W.lcmp hx hb dL_law_540 ?_
      refine zn_as (zz_cmp _) ?_
      refine lv_if_eq hx hb dL_law_541 rfl (fun _ => ?_) (fun h9 => absurd rfl h9)
      refine lv_goto hx hb dL_law_546 rfl ?_
      have hl : lv_has ls 7 [(4, .int (nI (4 * k))), (3, .ref o), (2, .ref g), (1, .ref h), (0, .ref b)] := lv_sub hl [2, 3, 4, 5, 6] rfl
      exact kk _ _ _ ⟨wf, nf, bf, bs, mc, ff, og, wf1, nf1, cf, kf, fw, mx, th, w, n, hl, hP, hD, hS, ok, ok1⟩
  · refine lv_aload_n hx hb dL_law_465 rfl (lv_at hl 3 rfl) ?_
    refine lv_aload_n hx hb dL_law_466 rfl (lv_at hl 4 rfl) ?_
    refine lv_iload hx hb dL_law_467 (lv_at hl 0 rfl) ?_
    refine lv_iconst (v := nI 1) hx hb dL_law_469 (by decide +kernel) ?_
    refine zn_add hx hb dL_law_470 ?_
    refine zn_sld (k := (4 * k) + 1) hx hb hX hbl hbA hS (by omega) (by omega) dL_law_471 ?_
    refine lv_aload_n hx hb dL_law_472 rfl (lv_at hl 4 rfl) ?_
    refine lv_iload hx hb dL_law_473 (lv_at hl 0 rfl) ?_
    refine lv_iconst (v := nI 2) hx hb dL_law_475 (by decide +kernel) ?_
    refine zn_add hx hb dL_law_476 ?_
    refine zn_sld (k := (4 * k) + 2) hx hb hX hbl hbA hS (by omega) (by omega) dL_law_477 ?_
    refine lv_if_eq hx hb dL_law_478 rfl (fun h9 => absurd h9 hq0) (fun _ => ?_)
    refine lv_iconst (v := nI 1) hx hb dL_law_481 (by decide +kernel) ?_
    refine lv_goto hx hb dL_law_482 rfl ?_
    refine lv_aload_n hx hb dL_law_486 rfl (lv_at hl 1 rfl) ?_
    refine zy_callSi (As := [.ref h, .int (xs ((4 * k) + 1)), .int (nI 1), .ref o]) (rest := []) FL hK hP hD hS hA hst hnc (h_cassette l hl0 D tys cI cL hI hLg h a1 a2 a3 a4 o (mdW cI cZ g g1 g2 g3 g4 wf1 nf1 cf kf fw mx th []) _ wf nf bf bs mc ff og w n ok (xs ((4 * k) + 1)) (nI 1)) (vx_cwSW 4 FL.2.2.2.2 gL_law_L_cassette rfl rfl rfl (by decide +kernel) ⟨Nat.le_of_ble_eq_true rfl, Nat.le_of_ble_eq_true rfl⟩) rfl hl.1 rfl (Nat.le_of_ble_eq_true rfl) dL_law_487 ⟨hc, hs⟩ (fun rr u H locs hu hP hD hS => ?_)
    obtain ⟨⟨⟩, og⟩ := u
    have hP : va_P D vwCl (lwW cI cZ cL h a1 a2 a3 a4 g g1 g2 g3 g4 o wf nf bf bs mc ff og wf1 nf1 cf kf fw mx th) H := hP
    have hD : va_D A (lwW cI cZ cL h a1 a2 a3 a4 g g1 g2 g3 g4 o wf nf bf bs mc ff og wf1 nf1 cf kf fw mx th) := hD
    have hP := hP.sub (ws' := (lwM cI cZ cL h a1 a2 a3 a4 g g1 g2 g3 g4 o wf nf bf bs mc ff og wf1 nf1 cf kf fw mx th)) [6, 7, 8, 9, 10, 0, 1, 2, 3, 4, 5] rfl
    have hD := hD.sub (ws' := (lwM cI cZ cL h a1 a2 a3 a4 g g1 g2 g3 g4 o wf nf bf bs mc ff og wf1 nf1 cf kf fw mx th)) [6, 7, 8, 9, 10, 0, 1, 2, 3, 4, 5] (by decide) rfl
    refine lv_istore (lv' := [(5, .int rr), (4, .int (nI (4 * k))), (3, .ref o), (2, .ref g), (1, .ref h), (0, .ref b)]) hx hb dL_law_490 hl (by decide) rfl (fun ls hl => ?_)
    refine lv_aload_n hx hb dL_law_492 rfl (lv_at hl 3 rfl) ?_
    refine lv_aload_n hx hb dL_law_493 rfl (lv_at hl 5 rfl) ?_
    refine lv_iload hx hb dL_law_494 (lv_at hl 1 rfl) ?_
    refine lv_iconst (v := nI 1) hx hb dL_law_496 (by decide +kernel) ?_
    refine zn_add hx hb dL_law_497 ?_
    refine zn_sld (k := (4 * k) + 1) hx hb hX hbl hbA hS (by omega) (by omega) dL_law_498 ?_
    refine lv_aload_n hx hb dL_law_499 rfl (lv_at hl 5 rfl) ?_
    refine lv_iload hx hb dL_law_500 (lv_at hl 1 rfl) ?_
    refine lv_iconst (v := nI 2) hx hb dL_law_502 (by decide +kernel) ?_
    refine zn_add hx hb dL_law_503 ?_
    refine zn_sld (k := (4 * k) + 2) hx hb hX hbl hbA hS (by omega) (by omega) dL_law_504 ?_
    refine lv_if_eq hx hb dL_law_505 rfl (fun h9 => absurd h9 hq0) (fun _ => ?_)
    refine lv_iconst (v := nI 1) hx hb dL_law_508 (by decide +kernel) ?_
    refine lv_goto hx hb dL_law_509 rfl ?_
    refine zz_callVi (As := [.int (xs ((4 * k) + 1)), .int (nI 1)]) (rest := []) F hK hP hD hS hA (c1_cassette l D tys cI cZ hI hZ g g1 g2 g3 g4 (nmW cI h a1 a2 a3 a4 wf nf bf bs mc ff [(o, .inl (cL, 1, .inr (.inl og)))]) _ wf1 nf1 cf kf fw mx th w n ok1 (xs ((4 * k) + 1)) (nI 1)) (cwV 2 hts gT_cassette rfl rfl rfl (by decide +kernel) ⟨Nat.le_of_ble_eq_true rfl, Nat.le_of_ble_eq_true rfl⟩) 0 rfl rfl rfl hl.1 rfl (Nat.le_of_ble_eq_true rfl) dL_law_513 ⟨hc, hs⟩ (fun bb th H locs hM hP hD hS => ?_)
    have hP : va_P D vwCl (lwM cI cZ cL h a1 a2 a3 a4 g g1 g2 g3 g4 o wf nf bf bs mc ff og wf1 nf1 cf kf fw mx th) H := hP
    have hD : va_D A (lwM cI cZ cL h a1 a2 a3 a4 g g1 g2 g3 g4 o wf nf bf bs mc ff og wf1 nf1 cf kf fw mx th) := hD
    refine lv_istore (lv' := [(6, .int bb), (5, .int rr), (4, .int (nI (4 * k))), (3, .ref o), (2, .ref g), (1, .ref h), (0, .ref b)]) hx hb dL_law_516 hl (by decide) rfl (fun ls hl => ?_)
    refine lv_aload_n hx hb dL_law_518 rfl (lv_at hl 4 rfl) ?_
    refine zz_callVi (As := []) (rest := []) F hK hP hD hS hA (c1_thrown l D tys cI cZ hI hZ g g1 g2 g3 g4 (nmW cI h a1 a2 a3 a4 wf nf bf bs mc ff [(o, .inl (cL, 1, .inr (.inl og)))]) _ wf1 nf1 cf kf fw mx th w n ok1 ) (cwV 0 hts gT_thrown rfl rfl rfl (by decide +kernel) ⟨Nat.le_of_ble_eq_true rfl, Nat.le_of_ble_eq_true rfl⟩) 0 rfl rfl rfl hl.1 rfl (Nat.le_of_ble_eq_true rfl) dL_law_519 ⟨hc, hs⟩ (fun tt u H locs hT hP hD hS => ?_)
    have hP : va_P D vwCl (lwM cI cZ cL h a1 a2 a3 a4 g g1 g2 g3 g4 o wf nf bf bs mc ff og wf1 nf1 cf kf fw mx th) H := hP
    have hD : va_D A (lwM cI cZ cL h a1 a2 a3 a4 g g1 g2 g3 g4 o wf nf bf bs mc ff og wf1 nf1 cf kf fw mx th) := hD
    refine zn_as hT ?_
    have ag := (ag_cassette (z := 0) hu hM : th = rr ∧ (rr = 0 → og 0 = bb.toInt64))
    have hP := hP.sub (ws' := (lwW cI cZ cL h a1 a2 a3 a4 g g1 g2 g3 g4 o wf nf bf bs mc ff og wf1 nf1 cf kf fw mx th)) [5, 6, 7, 8, 9, 10, 0, 1, 2, 3, 4] rfl
    have hD := hD.sub (ws' := (lwW cI cZ cL h a1 a2 a3 a4 g g1 g2 g3 g4 o wf nf bf bs mc ff og wf1 nf1 cf kf fw mx th)) [5, 6, 7, 8, 9, 10, 0, 1, 2, 3, 4] (by decide) rfl
    refine lv_iload hx hb dL_law_522 (lv_at hl 1 rfl) ?_
    refine lv_icmp_eq hx hb dL_law_524 rfl (fun _ => ?_) (fun h9 => absurd ag.1 h9)
    refine lv_iload hx hb dL_law_529 (lv_at hl 1 rfl) ?_
    refine lv_if_ne hx hb dL_law_531 rfl (fun _ => ?_) (fun hq => ?_)
    · refine lv_goto hx hb dL_law_546 rfl ?_
      have hl : lv_has ls 7 [(4, .int (nI (4 * k))), (3, .ref o), (2, .ref g), (1, .ref h), (0, .ref b)] := lv_sub hl [2, 3, 4, 5, 6] rfl
      exact kk _ _ _ ⟨wf, nf, bf, bs, mc, ff, og, wf1, nf1, cf, kf, fw, mx, th, w, n, hl, hP, hD, hS, ok, ok1⟩
    · refine lv_aload_n hx hb dL_law_534 rfl (lv_at hl 3 rfl) ?_
      refine lv_iconst (v := nI 0) hx hb dL_law_535 (by decide +kernel) ?_
      refine zn_lald (k := 0) hx hb hK hP 5 _ rfl hLg (by decide) (by decide) dL_law_536 ?_
      refine zn_asl (ag.2 hq) ?_
      refine lv_iload hx hb dL_law_537 (lv_at hl 0 rfl) ?_
      refine lv_i2l (v := bb.toInt64) hx hb dL_law_539 rfl ?_
      refine W.lcmp hx hb dL_law_540 ?_
      refine zn_as (zz_cmp _) ?_
      refine lv_if_eq hx hb dL_law_541 rfl (fun _ => ?_) (fun h9 => absurd rfl h9)
      refine lv_goto hx hb dL_law_546 rfl ?_
      have hl : lv_has ls 7 [(4, .int (nI (4 * k))), (3, .ref o), (2, .ref g), (1, .ref h), (0, .ref b)] := lv_sub hl [2, 3, 4, 5, 6] rfl
      exact kk _ _ _ ⟨wf, nf, bf, bs, mc, ff, og, wf1, nf1, cf, kf, fw, mx, th, w, n, hl, hP, hD, hS, ok, ok1⟩
set_option maxRecDepth 100000 in
set_option maxHeartbeats 4000000 in
theorem lw_case8 {p : Program} {l : Launch} {e : Env} {s : State} {m : MethodId} {below : List Frame} {meth : Method} {c : Code} {Q : State → Prop} {D : va_G} {tys : List (ClassId × FieldType)} {cI cZ cL : ClassId} {A : Nat → Prop} {b L : Nat} {xs : Nat → Int32} {h a1 a2 a3 a4 g g1 g2 g3 g4 o k : Nat} {ls : Array Slot} {H : Heap} {locs : List Loc} {cells slots : Nat} (C : lwC p l s m c D tys cI cZ cL A b L xs) (hL : L ≤ 2048) (hk : 4 * k + 4 ≤ L) (hc : cells + 1 ≤ 1037) (hs : slots + 6 ≤ 12244) (S0 : lwS D cI cZ cL h a1 a2 a3 a4 g g1 g2 g3 g4 o A s b (4 * k) ls H locs) (kk : ∀ (ls' : Array Slot) (H' : Heap) (locs' : List Loc), lwS D cI cZ cL h a1 a2 a3 a4 g g1 g2 g3 g4 o A s b (4 * k) ls' H' locs' → W p l e room_1 s m #[Value.ref b] below meth c H' locs' (cells + 1) (slots + 6) Q (F0 m 562 ls' [])) : W p l e room_1 s m #[Value.ref b] below meth c H locs cells slots Q (F0 m 549 ls []) := by
  obtain ⟨F, hl0, hX, hbl, hbA, hst, hnc, hK, hI, hZ, hLg, hA⟩ := C
  obtain ⟨hx, hb, hml, hown, hts⟩ := id F
  have FL : CallFix p m c cL_law 7 s #[Value.ref b] wsL_law RL := ⟨hx, hb, hml, hown, fun w hw => hts w (wsL_law_in w hw)⟩
  obtain ⟨wf, nf, bf, bs, mc, ff, og, wf1, nf1, cf, kf, fw, mx, th, w, n, hl, hP, hD, hS, ok, ok1⟩ := S0
  refine lv_aload_n hx hb dL_law_549 rfl (lv_at hl 3 rfl) ?_
  refine zz_callVi (As := []) (rest := []) FL hK hP hD hS hA (c_value l D tys cI hI h a1 a2 a3 a4 ((o, .inl (cL, 1, .inr (.inl og))) :: (mdW cI cZ g g1 g2 g3 g4 wf1 nf1 cf kf fw mx th [])) _ wf nf bf bs mc ff w n ok) (cwV 0 FL.2.2.2.2 gL_law_X0_value rfl rfl rfl (by decide +kernel) ⟨Nat.le_of_ble_eq_true rfl, Nat.le_of_ble_eq_true rfl⟩) 0 rfl rfl rfl hl.1 rfl (Nat.le_of_ble_eq_true rfl) dL_law_550 ⟨by show cells + 0 ≤ 1037; omega, by show slots + 0 ≤ 12244; omega⟩ (fun rr u H locs hu hP hD hS => ?_)
  have hP : va_P D vwCl (lwW cI cZ cL h a1 a2 a3 a4 g g1 g2 g3 g4 o wf nf bf bs mc ff og wf1 nf1 cf kf fw mx th) H := hP
  have hD : va_D A (lwW cI cZ cL h a1 a2 a3 a4 g g1 g2 g3 g4 o wf nf bf bs mc ff og wf1 nf1 cf kf fw mx th) := hD
  have hP := hP.sub (ws' := (lwM cI cZ cL h a1 a2 a3 a4 g g1 g2 g3 g4 o wf nf bf bs mc ff og wf1 nf1 cf kf fw mx th)) [6, 7, 8, 9, 10, 0, 1, 2, 3, 4, 5] rfl
  have hD := hD.sub (ws' := (lwM cI cZ cL h a1 a2 a3 a4 g g1 g2 g3 g4 o wf nf bf bs mc ff og wf1 nf1 cf kf fw mx th)) [6, 7, 8, 9, 10, 0, 1, 2, 3, 4, 5] (by decide) rfl
  refine lv_aload_n hx hb dL_law_553 rfl (lv_at hl 2 rfl) ?_
  refine zz_callVi (As := []) (rest := [.int rr]) F hK hP hD hS hA (c1_value l D tys cI cZ hI hZ g g1 g2 g3 g4 (nmW cI h a1 a2 a3 a4 wf nf bf bs mc ff [(o, .inl (cL, 1, .inr (.inl og)))]) _ wf1 nf1 cf kf fw mx th w n ok1 ) (cwV 0 hts gT_value rfl rfl rfl (by decide +kernel) ⟨Nat.le_of_ble_eq_true rfl, Nat.le_of_ble_eq_true rfl⟩) 0 rfl rfl rfl hl.1 rfl (Nat.le_of_ble_eq_true rfl) dL_law_554 ⟨by show cells + 0 + 0 ≤ 1037; omega, by show slots + 0 + 0 ≤ 12244; omega⟩ (fun bb u H locs hM hP hD hS => ?_)
  have hP : va_P D vwCl (lwM cI cZ cL h a1 a2 a3 a4 g g1 g2 g3 g4 o wf nf bf bs mc ff og wf1 nf1 cf kf fw mx (nI 0)) H := hP
  have hD : va_D A (lwM cI cZ cL h a1 a2 a3 a4 g g1 g2 g3 g4 o wf nf bf bs mc ff og wf1 nf1 cf kf fw mx (nI 0)) := hD
  have hP := hP.sub (ws' := (lwW cI cZ cL h a1 a2 a3 a4 g g1 g2 g3 g4 o wf nf bf bs mc ff og wf1 nf1 cf kf fw mx (nI 0))) [5, 6, 7, 8, 9, 10, 0, 1, 2, 3, 4] rfl
  have hD := hD.sub (ws' := (lwW cI cZ cL h a1 a2 a3 a4 g g1 g2 g3 g4 o wf nf bf bs mc ff og wf1 nf1 cf kf fw mx (nI 0))) [5, 6, 7, 8, 9, 10, 0, 1, 2, 3, 4] (by decide) rfl
  refine lv_icmp_eq hx hb dL_law_557 rfl (fun _ => ?_) (fun h9 => absurd (hu.trans hM.symm) h9)
  refine W.widen (k := cells + 1) (n := slots + 6) (by omega) (by omega) ?_
  have hl : lv_has ls 7 [(4, .int (nI (4 * k))), (3, .ref o), (2, .ref g), (1, .ref h), (0, .ref b)] := lv_sub hl [0, 1, 2, 3, 4] rfl
  exact kk _ _ _ ⟨wf, nf, bf, bs, mc, ff, og, wf1, nf1, cf, kf, fw, mx, (nI 0), w, n, hl, hP, hD, hS, ok, ok1⟩
