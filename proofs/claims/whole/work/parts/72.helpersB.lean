set_option maxRecDepth 100000 in
set_option maxHeartbeats 4000000 in
theorem h_ways (l : Launch) (hl0 : l.stackTraces = false) (D : va_G) (tys : List (ClassId × FieldType)) (cI cL : ClassId) (hI : tys[0]? = some (cI, .int)) (hL : tys[2]? = some (cL, .long)) (h a1 a2 a3 a4 o : Nat) (fr : va_W) (sz : Nat) (wf nf bf : Nat → Int32) (bs mc : Int32) (ff : Nat → Int32) (og : Nat → Int64) (w n : Nat → Nat) (ok : nmOk wf nf w n) (x : Int32) : Met l yL_ways wsL_ways ({ frames := 10, cells := 1, slots := 6, locals := 230 }) (va_Pc [.ref h, .int x, .ref o] (zy_pre D tys (nmW cI h a1 a2 a3 a4 wf nf bf bs mc ff ((o, .inl (cL, 1, .inr (.inl og))) :: fr)) sz)) (va_Qi (fun r (u : ((Nat → Int32) × Int32 × Int32) × (Nat → Int64)) => (r = nI 0 ∧ ∃ rv : Int32, (∃ v : Nat, v ≤ 2000 ∧ x = nI v ∧ rv = nI (mx_c w n v 68921)) ∧ u.2 0 = rv.toInt64) ∨ (r = nI 1 ∧ ¬ zr x 0 2000)) (zz_B D tys (va_A (nmW cI h a1 a2 a3 a4 wf nf bf bs mc ff ((o, .inl (cL, 1, .inr (.inl og))) :: fr)) sz) (fun u => nmW cI h a1 a2 a3 a4 wf nf u.1.1 u.1.2.1 u.1.2.2 ff ((o, .inl (cL, 1, .inr (.inl u.2))) :: fr))) (va_A (nmW cI h a1 a2 a3 a4 wf nf bf bs mc ff ((o, .inl (cL, 1, .inr (.inl og))) :: fr)) sz)) 1 6 (va_A (nmW cI h a1 a2 a3 a4 wf nf bf bs mc ff ((o, .inl (cL, 1, .inr (.inl og))) :: fr)) sz) := by
  refine zy_headI (cc := cL_ways) (by decide) rfl (Nat.le_of_ble_eq_true rfl) ?_
  intro p e s m below meth cd A ls F hr hlocks htab hP hK hD hA hS hst hnc hl
  obtain ⟨hx, hb, hml, hown, hts⟩ := id F
  have hl : lv_has ls 4 [(0, .ref h), (1, .int x), (2, .ref o)] := hl
  refine lv_aload_n hx hb dL_ways_0 rfl (lv_at hl 2 rfl) ?_
  refine lv_iconst (v := nI 0) hx hb dL_ways_1 (by decide +kernel) ?_
  refine lv_aload_n hx hb dL_ways_2 rfl (lv_at hl 0 rfl) ?_
  refine lv_iload_n hx hb dL_ways_3 rfl (lv_at hl 1 rfl) ?_
  refine zx_callVi (As := [.int x]) (rest := [.int (nI 0), .ref o]) F hK hP hD hS hA hst (c_ways l hl0 D tys cI hI h a1 a2 a3 a4 ((o, .inl (cL, 1, .inr (.inl og))) :: fr) _ wf nf bf bs mc ff w n ok x) (cwV 1 hts gL_ways_X0_ways rfl rfl rfl (by decide +kernel) ⟨Nat.le_of_ble_eq_true rfl, Nat.le_of_ble_eq_true rfl⟩) 0 rfl rfl rfl hl.1 rfl (Nat.le_of_ble_eq_true rfl) dL_ways_4 ⟨Nat.le_of_ble_eq_true rfl, Nat.le_of_ble_eq_true rfl⟩ (fun E ce q9 u H locs hE hP hD hS g1 g2 g3 => ?_) (fun rv u H locs hu hP hD hS => ?_)
  · obtain ⟨rfl, hz⟩ := hE
    refine vx_catch hown [] ⟨0, 9, 12, 13⟩ [] htab (fun z9 h9 => nomatch h9) (by decide) (by decide) (hts (.classLink RL 13 "java/lang/IllegalArgumentException") (by decide +kernel)) (va_Nw.use rfl hst.2.2.1) g1 g2 g3 ?_
    refine lv_astore_n (lv' := [(3, .ref q9), (0, .ref h), (1, .int x), (2, .ref o)]) hx hb dL_ways_12 rfl hl (by decide) rfl (fun ls hl => ?_)
    refine lv_iconst (v := nI 1) hx hb dL_ways_13 (by decide +kernel) ?_
    exact zz_iret F hr hlocks hK hS dL_ways_14 (Nat.le_of_ble_eq_true rfl) (Nat.le_of_ble_eq_true rfl) (u, og) (Or.inr ⟨rfl, hz⟩) hP hD
  · refine lv_i2l (v := rv.toInt64) hx hb dL_ways_7 rfl ?_
    refine zn_last (k := 0) hx hb hK hP hD hS 5 _ rfl hL (by decide) (by decide) dL_ways_8 (fun H locs og1 oge hP hD hS => ?_)
    refine lv_goto hx hb dL_ways_9 rfl ?_
    refine lv_iconst (v := nI 0) hx hb dL_ways_15 (by decide +kernel) ?_
    exact zz_iret F hr hlocks hK hS dL_ways_16 (Nat.le_of_ble_eq_true rfl) (Nat.le_of_ble_eq_true rfl) (u, og1) (Or.inl ⟨rfl, rv, hu, oge⟩) hP hD
set_option maxRecDepth 100000 in
set_option maxHeartbeats 4000000 in
theorem h_next (l : Launch) (hl0 : l.stackTraces = false) (D : va_G) (tys : List (ClassId × FieldType)) (cI cL : ClassId) (hI : tys[0]? = some (cI, .int)) (hL : tys[2]? = some (cL, .long)) (h a1 a2 a3 a4 o : Nat) (fr : va_W) (sz : Nat) (wf nf bf : Nat → Int32) (bs mc : Int32) (ff : Nat → Int32) (og : Nat → Int64) (w n : Nat → Nat) (ok : nmOk wf nf w n) (x : Int32) : Met l yL_next wsL_next ({ frames := 10, cells := 1, slots := 6, locals := 230 }) (va_Pc [.ref h, .int x, .ref o] (zy_pre D tys (nmW cI h a1 a2 a3 a4 wf nf bf bs mc ff ((o, .inl (cL, 1, .inr (.inl og))) :: fr)) sz)) (va_Qi (fun r (u : (Nat → Int32) × (Nat → Int64)) => (r = nI 0 ∧ ∃ rv : Int32, (∃ v : Nat, v ≤ 2000 ∧ x = nI v ∧ mx_N w n v rv) ∧ u.2 0 = rv.toInt64) ∨ (r = nI 1 ∧ ¬ zr x 0 2000)) (zz_B D tys (va_A (nmW cI h a1 a2 a3 a4 wf nf bf bs mc ff ((o, .inl (cL, 1, .inr (.inl og))) :: fr)) sz) (fun u => nmW cI h a1 a2 a3 a4 wf nf bf bs mc u.1 ((o, .inl (cL, 1, .inr (.inl u.2))) :: fr))) (va_A (nmW cI h a1 a2 a3 a4 wf nf bf bs mc ff ((o, .inl (cL, 1, .inr (.inl og))) :: fr)) sz)) 1 6 (va_A (nmW cI h a1 a2 a3 a4 wf nf bf bs mc ff ((o, .inl (cL, 1, .inr (.inl og))) :: fr)) sz) := by
  refine zy_headI (cc := cL_next) (by decide) rfl (Nat.le_of_ble_eq_true rfl) ?_
  intro p e s m below meth cd A ls F hr hlocks htab hP hK hD hA hS hst hnc hl
  obtain ⟨hx, hb, hml, hown, hts⟩ := id F
  have hl : lv_has ls 4 [(0, .ref h), (1, .int x), (2, .ref o)] := hl
  refine lv_aload_n hx hb dL_next_0 rfl (lv_at hl 2 rfl) ?_
  refine lv_iconst (v := nI 0) hx hb dL_next_1 (by decide +kernel) ?_
  refine lv_aload_n hx hb dL_next_2 rfl (lv_at hl 0 rfl) ?_
  refine lv_iload_n hx hb dL_next_3 rfl (lv_at hl 1 rfl) ?_
  refine zx_callVi (As := [.int x]) (rest := [.int (nI 0), .ref o]) F hK hP hD hS hA hst (c_next l hl0 D tys cI hI h a1 a2 a3 a4 ((o, .inl (cL, 1, .inr (.inl og))) :: fr) _ wf nf bf bs mc ff w n ok x) (cwV 1 hts gL_next_X0_next rfl rfl rfl (by decide +kernel) ⟨Nat.le_of_ble_eq_true rfl, Nat.le_of_ble_eq_true rfl⟩) 0 rfl rfl rfl hl.1 rfl (Nat.le_of_ble_eq_true rfl) dL_next_4 ⟨Nat.le_of_ble_eq_true rfl, Nat.le_of_ble_eq_true rfl⟩ (fun E ce q9 u H locs hE hP hD hS g1 g2 g3 => ?_) (fun rv u H locs hu hP hD hS => ?_)
  · obtain ⟨rfl, hz⟩ := hE
    refine vx_catch hown [] ⟨0, 9, 12, 13⟩ [] htab (fun z9 h9 => nomatch h9) (by decide) (by decide) (hts (.classLink RL 13 "java/lang/IllegalArgumentException") (by decide +kernel)) (va_Nw.use rfl hst.2.2.1) g1 g2 g3 ?_
    refine lv_astore_n (lv' := [(3, .ref q9), (0, .ref h), (1, .int x), (2, .ref o)]) hx hb dL_next_12 rfl hl (by decide) rfl (fun ls hl => ?_)
    refine lv_iconst (v := nI 1) hx hb dL_next_13 (by decide +kernel) ?_
    exact zz_iret F hr hlocks hK hS dL_next_14 (Nat.le_of_ble_eq_true rfl) (Nat.le_of_ble_eq_true rfl) (u, og) (Or.inr ⟨rfl, hz⟩) hP hD
  · refine lv_i2l (v := rv.toInt64) hx hb dL_next_7 rfl ?_
    refine zn_last (k := 0) hx hb hK hP hD hS 5 _ rfl hL (by decide) (by decide) dL_next_8 (fun H locs og1 oge hP hD hS => ?_)
    refine lv_goto hx hb dL_next_9 rfl ?_
    refine lv_iconst (v := nI 0) hx hb dL_next_15 (by decide +kernel) ?_
    exact zz_iret F hr hlocks hK hS dL_next_16 (Nat.le_of_ble_eq_true rfl) (Nat.le_of_ble_eq_true rfl) (u, og1) (Or.inl ⟨rfl, rv, hu, oge⟩) hP hD
set_option maxRecDepth 100000 in
set_option maxHeartbeats 4000000 in
theorem h_cassette (l : Launch) (hl0 : l.stackTraces = false) (D : va_G) (tys : List (ClassId × FieldType)) (cI cL : ClassId) (hI : tys[0]? = some (cI, .int)) (hL : tys[2]? = some (cL, .long)) (h a1 a2 a3 a4 o : Nat) (fr : va_W) (sz : Nat) (wf nf bf : Nat → Int32) (bs mc : Int32) (ff : Nat → Int32) (og : Nat → Int64) (w n : Nat → Nat) (ok : nmOk wf nf w n) (x y : Int32) : Met l yL_cassette wsL_cassette ({ frames := 10, cells := 1, slots := 6, locals := 230 }) (va_Pc [.ref h, .int x, .int y, .ref o] (zy_pre D tys (nmW cI h a1 a2 a3 a4 wf nf bf bs mc ff ((o, .inl (cL, 1, .inr (.inl og))) :: fr)) sz)) (va_Qi (fun r (u : Unit × (Nat → Int64)) => (r = nI 0 ∧ ∃ rv : Int32, (∃ c : Nat, c < 4 ∧ x = nI c ∧ rv = if y = 0 then nI (n c) else nI (w c)) ∧ u.2 0 = rv.toInt64) ∨ (r = nI 1 ∧ ¬ zr x 0 3)) (zz_B D tys (va_A (nmW cI h a1 a2 a3 a4 wf nf bf bs mc ff ((o, .inl (cL, 1, .inr (.inl og))) :: fr)) sz) (fun u => nmW cI h a1 a2 a3 a4 wf nf bf bs mc ff ((o, .inl (cL, 1, .inr (.inl u.2))) :: fr))) (va_A (nmW cI h a1 a2 a3 a4 wf nf bf bs mc ff ((o, .inl (cL, 1, .inr (.inl og))) :: fr)) sz)) 1 6 (va_A (nmW cI h a1 a2 a3 a4 wf nf bf bs mc ff ((o, .inl (cL, 1, .inr (.inl og))) :: fr)) sz) := by
  refine zy_headI (cc := cL_cassette) (by decide) rfl (Nat.le_of_ble_eq_true rfl) ?_
  intro p e s m below meth cd A ls F hr hlocks htab hP hK hD hA hS hst hnc hl
  obtain ⟨hx, hb, hml, hown, hts⟩ := id F
  have hl : lv_has ls 5 [(0, .ref h), (1, .int x), (2, .int y), (3, .ref o)] := hl
  refine lv_aload_n hx hb dL_cassette_0 rfl (lv_at hl 3 rfl) ?_
  refine lv_iconst (v := nI 0) hx hb dL_cassette_1 (by decide +kernel) ?_
  refine lv_aload_n hx hb dL_cassette_2 rfl (lv_at hl 0 rfl) ?_
  refine lv_iload_n hx hb dL_cassette_3 rfl (lv_at hl 1 rfl) ?_
  refine lv_iload_n hx hb dL_cassette_4 rfl (lv_at hl 2 rfl) ?_
  refine zx_callVi (As := [.int x, .int y]) (rest := [.int (nI 0), .ref o]) F hK hP hD hS hA hst (c_cassette l hl0 D tys cI hI h a1 a2 a3 a4 ((o, .inl (cL, 1, .inr (.inl og))) :: fr) _ wf nf bf bs mc ff w n ok x y) (cwV 2 hts gL_cassette_X0_cassette rfl rfl rfl (by decide +kernel) ⟨Nat.le_of_ble_eq_true rfl, Nat.le_of_ble_eq_true rfl⟩) 0 rfl rfl rfl hl.1 rfl (Nat.le_of_ble_eq_true rfl) dL_cassette_5 ⟨Nat.le_of_ble_eq_true rfl, Nat.le_of_ble_eq_true rfl⟩ (fun E ce q9 u H locs hE hP hD hS g1 g2 g3 => ?_) (fun rv u H locs hu hP hD hS => ?_)
  · obtain ⟨rfl, hz⟩ := hE
    refine vx_catch hown [] ⟨0, 10, 13, 13⟩ [] htab (fun z9 h9 => nomatch h9) (by decide) (by decide) (hts (.classLink RL 13 "java/lang/IllegalArgumentException") (by decide +kernel)) (va_Nw.use rfl hst.2.2.1) g1 g2 g3 ?_
    refine lv_astore (lv' := [(4, .ref q9), (0, .ref h), (1, .int x), (2, .int y), (3, .ref o)]) hx hb dL_cassette_13 hl (by decide) rfl (fun ls hl => ?_)
    refine lv_iconst (v := nI 1) hx hb dL_cassette_15 (by decide +kernel) ?_
    exact zz_iret F hr hlocks hK hS dL_cassette_16 (Nat.le_of_ble_eq_true rfl) (Nat.le_of_ble_eq_true rfl) (u, og) (Or.inr ⟨rfl, hz⟩) hP hD
  · refine lv_i2l (v := rv.toInt64) hx hb dL_cassette_8 rfl ?_
    refine zn_last (k := 0) hx hb hK hP hD hS 5 _ rfl hL (by decide) (by decide) dL_cassette_9 (fun H locs og1 oge hP hD hS => ?_)
    refine lv_goto hx hb dL_cassette_10 rfl ?_
    refine lv_iconst (v := nI 0) hx hb dL_cassette_17 (by decide +kernel) ?_
    exact zz_iret F hr hlocks hK hS dL_cassette_18 (Nat.le_of_ble_eq_true rfl) (Nat.le_of_ble_eq_true rfl) (u, og1) (Or.inl ⟨rfl, rv, hu, oge⟩) hP hD
set_option maxRecDepth 100000 in
set_option maxHeartbeats 4000000 in
theorem h_pay (l : Launch) (hl0 : l.stackTraces = false) (D : va_G) (tys : List (ClassId × FieldType)) (cI cL : ClassId) (hI : tys[0]? = some (cI, .int)) (hL : tys[2]? = some (cL, .long)) (h a1 a2 a3 a4 o : Nat) (fr : va_W) (sz : Nat) (wf nf bf : Nat → Int32) (bs mc : Int32) (ff : Nat → Int32) (og : Nat → Int64) (w n : Nat → Nat) (ok : nmOk wf nf w n) (x y : Int32) : Met l yL_pay wsL_pay ({ frames := 10, cells := 1, slots := 6, locals := 230 }) (va_Pc [.ref h, .int x, .int y, .ref o] (zy_pre D tys (nmW cI h a1 a2 a3 a4 wf nf bf bs mc ff ((o, .inl (cL, 1, .inr (.inl og))) :: fr)) sz)) (va_Qi (fun r (u : ((Nat → Int32) × (Nat → Int32) × Int32 × Int32) × (Nat → Int64)) => (r = nI 0 ∧ ∃ rv : Int32, (∃ v jam : Nat, v ≤ 2000 ∧ jam ≤ 40 ∧ x = nI v ∧ y = nI jam ∧ ∃ (bm : Nat → Nat) (o3 o2 o1 o0 : Nat), mx_B w n v (bm 0) (bm 1) (bm 2) (bm 3) ∧ o3 = min (bm 3) jam ∧ o2 = min (bm 2) (jam - o3) ∧ o1 = min (bm 1) (jam - o3 - o2) ∧ o0 = min (bm 0) (jam - o3 - o2 - o1) ∧ rv = nI (0 + o3 * w 3 + o2 * w 2 + o1 * w 1 + o0 * w 0) ∧ u.1.1 0 = nI (n 0 - o0) ∧ u.1.1 1 = nI (n 1 - o1) ∧ u.1.1 2 = nI (n 2 - o2) ∧ u.1.1 3 = nI (n 3 - o3)) ∧ u.2 0 = rv.toInt64) ∨ (r = nI 1 ∧ ¬ (zr y 0 40 ∧ zr x 0 2000) ∧ u.1.1 = nf) ∨ (r = nI 2 ∧ u.1.1 = nf ∧ zr y 0 40 ∧ ∃ v : Nat, v ≤ 2000 ∧ x = nI v ∧ ¬ mx_has w n v)) (zz_B D tys (va_A (nmW cI h a1 a2 a3 a4 wf nf bf bs mc ff ((o, .inl (cL, 1, .inr (.inl og))) :: fr)) sz) (fun u => nmW cI h a1 a2 a3 a4 wf u.1.1 u.1.2.1 u.1.2.2.1 u.1.2.2.2 ff ((o, .inl (cL, 1, .inr (.inl u.2))) :: fr))) (va_A (nmW cI h a1 a2 a3 a4 wf nf bf bs mc ff ((o, .inl (cL, 1, .inr (.inl og))) :: fr)) sz)) 1 6 (va_A (nmW cI h a1 a2 a3 a4 wf nf bf bs mc ff ((o, .inl (cL, 1, .inr (.inl og))) :: fr)) sz) := by
  refine zy_headI (cc := cL_pay) (by decide) rfl (Nat.le_of_ble_eq_true rfl) ?_
  intro p e s m below meth cd A ls F hr hlocks htab hP hK hD hA hS hst hnc hl
  obtain ⟨hx, hb, hml, hown, hts⟩ := id F
  have hl : lv_has ls 5 [(0, .ref h), (1, .int x), (2, .int y), (3, .ref o)] := hl
  refine lv_aload_n hx hb dL_pay_0 rfl (lv_at hl 3 rfl) ?_
  refine lv_iconst (v := nI 0) hx hb dL_pay_1 (by decide +kernel) ?_
  refine lv_aload_n hx hb dL_pay_2 rfl (lv_at hl 0 rfl) ?_
  refine lv_iload_n hx hb dL_pay_3 rfl (lv_at hl 1 rfl) ?_
  refine lv_iload_n hx hb dL_pay_4 rfl (lv_at hl 2 rfl) ?_
  refine zx_callVi (As := [.int x, .int y]) (rest := [.int (nI 0), .ref o]) F hK hP hD hS hA hst (c_pay l hl0 D tys cI hI h a1 a2 a3 a4 ((o, .inl (cL, 1, .inr (.inl og))) :: fr) _ wf nf bf bs mc ff w n ok x y) (cwV 2 hts gL_pay_X0_pay rfl rfl rfl (by decide +kernel) ⟨Nat.le_of_ble_eq_true rfl, Nat.le_of_ble_eq_true rfl⟩) 0 rfl rfl rfl hl.1 rfl (Nat.le_of_ble_eq_true rfl) dL_pay_5 ⟨Nat.le_of_ble_eq_true rfl, Nat.le_of_ble_eq_true rfl⟩ (fun E ce q9 u H locs hE hP hD hS g1 g2 g3 => ?_) (fun rv u H locs hu hP hD hS => ?_)
  · obtain ⟨hf, ⟨rfl, hz⟩ | ⟨rfl, hz⟩⟩ := hE
    · refine vx_catch hown [] ⟨0, 10, 13, 13⟩ [⟨0, 10, 17, 19⟩] htab (fun z9 h9 => nomatch h9) (by decide) (by decide) (hts (.classLink RL 13 "java/lang/IllegalArgumentException") (by decide +kernel)) (va_Nw.use rfl hst.2.2.1) g1 g2 g3 ?_
      refine lv_astore (lv' := [(4, .ref q9), (0, .ref h), (1, .int x), (2, .int y), (3, .ref o)]) hx hb dL_pay_13 hl (by decide) rfl (fun ls hl => ?_)
      refine lv_iconst (v := nI 1) hx hb dL_pay_15 (by decide +kernel) ?_
      exact zz_iret F hr hlocks hK hS dL_pay_16 (Nat.le_of_ble_eq_true rfl) (Nat.le_of_ble_eq_true rfl) (u, og) (Or.inr (Or.inl ⟨rfl, hz, hf⟩)) hP hD
    · refine vx_catch hown [⟨0, 10, 13, 13⟩] ⟨0, 10, 17, 19⟩ [] htab (fun z9 h9 => by rw [List.mem_singleton] at h9; subst h9; exact Or.inr ⟨by decide, _, hts (.classLink RL 13 "java/lang/IllegalArgumentException") (by decide +kernel), hnc⟩) (by decide) (by decide) (hts (.classLink RL 19 "java/util/NoSuchElementException") (by decide +kernel)) (va_Nw.use rfl hst.2.2.2.1) g1 g2 g3 ?_
      refine lv_astore (lv' := [(4, .ref q9), (0, .ref h), (1, .int x), (2, .int y), (3, .ref o)]) hx hb dL_pay_17 hl (by decide) rfl (fun ls hl => ?_)
      refine lv_iconst (v := nI 2) hx hb dL_pay_19 (by decide +kernel) ?_
      exact zz_iret F hr hlocks hK hS dL_pay_20 (Nat.le_of_ble_eq_true rfl) (Nat.le_of_ble_eq_true rfl) (u, og) (Or.inr (Or.inr ⟨rfl, hf, hz⟩)) hP hD
  · refine lv_i2l (v := rv.toInt64) hx hb dL_pay_8 rfl ?_
    refine zn_last (k := 0) hx hb hK hP hD hS 5 _ rfl hL (by decide) (by decide) dL_pay_9 (fun H locs og1 oge hP hD hS => ?_)
    refine lv_goto hx hb dL_pay_10 rfl ?_
    refine lv_iconst (v := nI 0) hx hb dL_pay_21 (by decide +kernel) ?_
    exact zz_iret F hr hlocks hK hS dL_pay_22 (Nat.le_of_ble_eq_true rfl) (Nat.le_of_ble_eq_true rfl) (u, og1) (Or.inl ⟨rfl, rv, hu, oge⟩) hP hD
