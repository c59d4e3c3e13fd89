set_option maxRecDepth 100000 in
set_option maxHeartbeats 4000000 in
theorem h_load (l : Launch) (hl0 : l.stackTraces = false) (D : va_G) (tys : List (ClassId × FieldType)) (cI cL : ClassId) (hI : tys[0]? = some (cI, .int)) (hL : tys[2]? = some (cL, .long)) (h a1 a2 a3 a4 o : Nat) (fr : va_W) (sz : Nat) (wf nf bf : Nat → Int32) (bs mc : Int32) (ff : Nat → Int32) (og : Nat → Int64) (w n : Nat → Nat) (ok : nmOk wf nf w n) (x y z : Int32) : Met l yL_load wsL_load ({ frames := 10, cells := 1, slots := 6, locals := 230 }) (va_Pc [.ref h, .int x, .int y, .int z] (zy_pre D tys (nmW cI h a1 a2 a3 a4 wf nf bf bs mc ff ((o, .inl (cL, 1, .inr (.inl og))) :: fr)) sz)) (va_Qi (fun r (u : (Nat → Int32) × (Nat → Int32)) => (r = nI 0 ∧ ∃ c a b : Nat, c < 4 ∧ 1 ≤ a ∧ a ≤ 500 ∧ b ≤ 500 ∧ x = nI c ∧ y = nI a ∧ z = nI b ∧ nmOk u.1 u.2 (fun j => if j = c then a else w j) (fun j => if j = c then b else n j)) ∨ (r = nI 1 ∧ ¬ (zr x 0 3 ∧ zr y 1 500 ∧ zr z 0 500) ∧ u.1 = wf ∧ u.2 = nf)) (zz_B D tys (va_A (nmW cI h a1 a2 a3 a4 wf nf bf bs mc ff ((o, .inl (cL, 1, .inr (.inl og))) :: fr)) sz) (fun u => nmW cI h a1 a2 a3 a4 u.1 u.2 bf bs mc ff ((o, .inl (cL, 1, .inr (.inl og))) :: fr))) (va_A (nmW cI h a1 a2 a3 a4 wf nf bf bs mc ff ((o, .inl (cL, 1, .inr (.inl og))) :: fr)) sz)) 1 6 (va_A (nmW cI h a1 a2 a3 a4 wf nf bf bs mc ff ((o, .inl (cL, 1, .inr (.inl og))) :: fr)) sz) := by
  refine zy_headI (cc := cL_load) (by decide) rfl (Nat.le_of_ble_eq_true rfl) ?_
  intro p e s m below meth cd A ls F hr hlocks htab hP hK hD hA hS hst hnc hl
  obtain ⟨hx, hb, hml, hown, hts⟩ := id F
  have hl : lv_has ls 5 [(0, .ref h), (1, .int x), (2, .int y), (3, .int z)] := hl
  refine lv_aload_n hx hb dL_load_0 rfl (lv_at hl 0 rfl) ?_
  refine lv_iload_n hx hb dL_load_1 rfl (lv_at hl 1 rfl) ?_
  refine lv_iload_n hx hb dL_load_2 rfl (lv_at hl 2 rfl) ?_
  refine lv_iload_n hx hb dL_load_3 rfl (lv_at hl 3 rfl) ?_
  refine zx_callVv (As := [.int x, .int y, .int z]) (rest := []) F hK hP hD hS hA hst (c_load l hl0 D tys cI hI h a1 a2 a3 a4 ((o, .inl (cL, 1, .inr (.inl og))) :: fr) _ wf nf bf bs mc ff w n ok x y z) (cwV 3 hts gL_load_X0_load rfl rfl rfl (by decide +kernel) ⟨Nat.le_of_ble_eq_true rfl, Nat.le_of_ble_eq_true rfl⟩) 0 rfl rfl rfl hl.1 rfl (Nat.le_of_ble_eq_true rfl) dL_load_4 ⟨Nat.le_of_ble_eq_true rfl, Nat.le_of_ble_eq_true rfl⟩ (fun E ce q9 u H locs hE hP hD hS g1 g2 g3 => ?_) (fun u H locs hu hP hD hS => ?_)
  · obtain ⟨rfl, hz, hu⟩ := hE
    refine vx_catch hown [] ⟨0, 7, 10, 13⟩ [] htab (fun z9 h9 => nomatch h9) (by decide) (by decide) (hts (.classLink RL 13 "java/lang/IllegalArgumentException") (by decide +kernel)) (va_Nw.use rfl hst.2.2.1) g1 g2 g3 ?_
    refine lv_astore (lv' := [(4, .ref q9), (0, .ref h), (1, .int x), (2, .int y), (3, .int z)]) hx hb dL_load_10 hl (by decide) rfl (fun ls hl => ?_)
    refine lv_iconst (v := nI 1) hx hb dL_load_12 (by decide +kernel) ?_
    exact zz_iret F hr hlocks hK hS dL_load_13 (Nat.le_of_ble_eq_true rfl) (Nat.le_of_ble_eq_true rfl) u (Or.inr ⟨rfl, hz, by rw [hu], by rw [hu]⟩) hP hD
  · refine lv_goto hx hb dL_load_7 rfl ?_
    refine lv_iconst (v := nI 0) hx hb dL_load_14 (by decide +kernel) ?_
    exact zz_iret F hr hlocks hK hS dL_load_15 (Nat.le_of_ble_eq_true rfl) (Nat.le_of_ble_eq_true rfl) u (Or.inl ⟨rfl, hu⟩) hP hD
set_option maxRecDepth 100000 in
set_option maxHeartbeats 4000000 in
theorem h_best (l : Launch) (hl0 : l.stackTraces = false) (D : va_G) (tys : List (ClassId × FieldType)) (cI cL : ClassId) (hI : tys[0]? = some (cI, .int)) (hL : tys[2]? = some (cL, .long)) (h a1 a2 a3 a4 o : Nat) (fr : va_W) (sz : Nat) (wf nf bf : Nat → Int32) (bs mc : Int32) (ff : Nat → Int32) (og : Nat → Int64) (w n : Nat → Nat) (ok : nmOk wf nf w n) (x : Int32) : Met l yL_best wsL_best ({ frames := 10, cells := 1, slots := 6, locals := 230 }) (va_Pc [.ref h, .int x, .ref o] (zy_pre D tys (nmW cI h a1 a2 a3 a4 wf nf bf bs mc ff ((o, .inl (cL, 1, .inr (.inl og))) :: fr)) sz)) (va_Qi (fun r (u : ((Nat → Int32) × Int32 × Int32) × (Nat → Int64)) => (r = nI 0 ∧ ∃ rv : Int32, (∃ v : Nat, v ≤ 2000 ∧ x = nI v ∧ ∃ bm : Nat → Nat, mx_B w n v (bm 0) (bm 1) (bm 2) (bm 3) ∧ rv = nI (bm 0 + bm 1 + bm 2 + bm 3)) ∧ u.2 0 = rv.toInt64) ∨ (r = nI 1 ∧ ¬ zr x 0 2000) ∨ (r = nI 2 ∧ ∃ v : Nat, v ≤ 2000 ∧ x = nI v ∧ ¬ mx_has w n v)) (zz_B D tys (va_A (nmW cI h a1 a2 a3 a4 wf nf bf bs mc ff ((o, .inl (cL, 1, .inr (.inl og))) :: fr)) sz) (fun u => nmW cI h a1 a2 a3 a4 wf nf u.1.1 u.1.2.1 u.1.2.2 ff ((o, .inl (cL, 1, .inr (.inl u.2))) :: fr))) (va_A (nmW cI h a1 a2 a3 a4 wf nf bf bs mc ff ((o, .inl (cL, 1, .inr (.inl og))) :: fr)) sz)) 1 6 (va_A (nmW cI h a1 a2 a3 a4 wf nf bf bs mc ff ((o, .inl (cL, 1, .inr (.inl og))) :: fr)) sz) := by
  refine zy_headI (cc := cL_best) (by decide) rfl (Nat.le_of_ble_eq_true rfl) ?_
  intro p e s m below meth cd A ls F hr hlocks htab hP hK hD hA hS hst hnc hl
  obtain ⟨hx, hb, hml, hown, hts⟩ := id F
  have hl : lv_has ls 4 [(0, .ref h), (1, .int x), (2, .ref o)] := hl
  refine lv_aload_n hx hb dL_best_0 rfl (lv_at hl 2 rfl) ?_
  refine lv_iconst (v := nI 0) hx hb dL_best_1 (by decide +kernel) ?_
  refine lv_aload_n hx hb dL_best_2 rfl (lv_at hl 0 rfl) ?_
  refine lv_iload_n hx hb dL_best_3 rfl (lv_at hl 1 rfl) ?_
  refine zx_callVi (As := [.int x]) (rest := [.int (nI 0), .ref o]) F hK hP hD hS hA hst (c_best l hl0 D tys cI hI h a1 a2 a3 a4 ((o, .inl (cL, 1, .inr (.inl og))) :: fr) _ wf nf bf bs mc ff w n ok x) (cwV 1 hts gL_best_X0_best rfl rfl rfl (by decide +kernel) ⟨Nat.le_of_ble_eq_true rfl, Nat.le_of_ble_eq_true rfl⟩) 0 rfl rfl rfl hl.1 rfl (Nat.le_of_ble_eq_true rfl) dL_best_4 ⟨Nat.le_of_ble_eq_true rfl, Nat.le_of_ble_eq_true rfl⟩ (fun E ce q9 u H locs hE hP hD hS g1 g2 g3 => ?_) (fun rv u H locs hu hP hD hS => ?_)
  · rcases hE with ⟨rfl, hz⟩ | ⟨rfl, hz⟩
    · refine vx_catch hown [] ⟨0, 9, 12, 13⟩ [⟨0, 9, 15, 19⟩] htab (fun z9 h9 => nomatch h9) (by decide) (by decide) (hts (.classLink RL 13 "java/lang/IllegalArgumentException") (by decide +kernel)) (va_Nw.use rfl hst.2.2.1) g1 g2 g3 ?_
      refine lv_astore_n (lv' := [(3, .ref q9), (0, .ref h), (1, .int x), (2, .ref o)]) hx hb dL_best_12 rfl hl (by decide) rfl (fun ls hl => ?_)
      refine lv_iconst (v := nI 1) hx hb dL_best_13 (by decide +kernel) ?_
      exact zz_iret F hr hlocks hK hS dL_best_14 (Nat.le_of_ble_eq_true rfl) (Nat.le_of_ble_eq_true rfl) (u, og) (Or.inr (Or.inl ⟨rfl, hz⟩)) hP hD
    · refine vx_catch hown [⟨0, 9, 12, 13⟩] ⟨0, 9, 15, 19⟩ [] htab (fun z9 h9 => by rw [List.mem_singleton] at h9; subst h9; exact Or.inr ⟨by decide, _, hts (.classLink RL 13 "java/lang/IllegalArgumentException") (by decide +kernel), hnc⟩) (by decide) (by decide) (hts (.classLink RL 19 "java/util/NoSuchElementException") (by decide +kernel)) (va_Nw.use rfl hst.2.2.2.1) g1 g2 g3 ?_
      refine lv_astore_n (lv' := [(3, .ref q9), (0, .ref h), (1, .int x), (2, .ref o)]) hx hb dL_best_15 rfl hl (by decide) rfl (fun ls hl => ?_)
      refine lv_iconst (v := nI 2) hx hb dL_best_16 (by decide +kernel) ?_
      exact zz_iret F hr hlocks hK hS dL_best_17 (Nat.le_of_ble_eq_true rfl) (Nat.le_of_ble_eq_true rfl) (u, og) (Or.inr (Or.inr ⟨rfl, hz⟩)) hP hD
  · refine lv_i2l (v := rv.toInt64) hx hb dL_best_7 rfl ?_
    refine zn_last (k := 0) hx hb hK hP hD hS 5 _ rfl hL (by decide) (by decide) dL_best_8 (fun H locs og1 oge hP hD hS => ?_)
    refine lv_goto hx hb dL_best_9 rfl ?_
    refine lv_iconst (v := nI 0) hx hb dL_best_18 (by decide +kernel) ?_
    exact zz_iret F hr hlocks hK hS dL_best_19 (Nat.le_of_ble_eq_true rfl) (Nat.le_of_ble_eq_true rfl) (u, og1) (Or.inl ⟨rfl, rv, hu, oge⟩) hP hD
set_option maxRecDepth 100000 in
set_option maxHeartbeats 4000000 in
theorem h_part (l : Launch) (hl0 : l.stackTraces = false) (D : va_G) (tys : List (ClassId × FieldType)) (cI cL : ClassId) (hI : tys[0]? = some (cI, .int)) (hL : tys[2]? = some (cL, .long)) (h a1 a2 a3 a4 o : Nat) (fr : va_W) (sz : Nat) (wf nf bf : Nat → Int32) (bs mc : Int32) (ff : Nat → Int32) (og : Nat → Int64) (w n : Nat → Nat) (ok : nmOk wf nf w n) (x y : Int32) : Met l yL_part wsL_part ({ frames := 10, cells := 1, slots := 6, locals := 230 }) (va_Pc [.ref h, .int x, .int y, .ref o] (zy_pre D tys (nmW cI h a1 a2 a3 a4 wf nf bf bs mc ff ((o, .inl (cL, 1, .inr (.inl og))) :: fr)) sz)) (va_Qi (fun r (u : ((Nat → Int32) × Int32 × Int32) × (Nat → Int64)) => (r = nI 0 ∧ ∃ rv : Int32, (∃ v c : Nat, v ≤ 2000 ∧ c < 4 ∧ x = nI v ∧ y = nI c ∧ ∃ bm : Nat → Nat, mx_B w n v (bm 0) (bm 1) (bm 2) (bm 3) ∧ rv = nI (bm c)) ∧ u.2 0 = rv.toInt64) ∨ (r = nI 1 ∧ ¬ (zr y 0 3 ∧ zr x 0 2000)) ∨ (r = nI 2 ∧ zr y 0 3 ∧ ∃ v : Nat, v ≤ 2000 ∧ x = nI v ∧ ¬ mx_has w n v)) (zz_B D tys (va_A (nmW cI h a1 a2 a3 a4 wf nf bf bs mc ff ((o, .inl (cL, 1, .inr (.inl og))) :: fr)) sz) (fun u => nmW cI h a1 a2 a3 a4 wf nf u.1.1 u.1.2.1 u.1.2.2 ff ((o, .inl (cL, 1, .inr (.inl u.2))) :: fr))) (va_A (nmW cI h a1 a2 a3 a4 wf nf bf bs mc ff ((o, .inl (cL, 1, .inr (.inl og))) :: fr)) sz)) 1 6 (va_A (nmW cI h a1 a2 a3 a4 wf nf bf bs mc ff ((o, .inl (cL, 1, .inr (.inl og))) :: fr)) sz) := by
  refine zy_headI (cc := cL_part) (by decide) rfl (Nat.le_of_ble_eq_true rfl) ?_
  intro p e s m below meth cd A ls F hr hlocks htab hP hK hD hA hS hst hnc hl
  obtain ⟨hx, hb, hml, hown, hts⟩ := id F
  have hl : lv_has ls 5 [(0, .ref h), (1, .int x), (2, .int y), (3, .ref o)] := hl
  refine lv_aload_n hx hb dL_part_0 rfl (lv_at hl 3 rfl) ?_
  refine lv_iconst (v := nI 0) hx hb dL_part_1 (by decide +kernel) ?_
  refine lv_aload_n hx hb dL_part_2 rfl (lv_at hl 0 rfl) ?_
  refine lv_iload_n hx hb dL_part_3 rfl (lv_at hl 1 rfl) ?_
  refine lv_iload_n hx hb dL_part_4 rfl (lv_at hl 2 rfl) ?_
  refine zx_callVi (As := [.int x, .int y]) (rest := [.int (nI 0), .ref o]) F hK hP hD hS hA hst (c_part l hl0 D tys cI hI h a1 a2 a3 a4 ((o, .inl (cL, 1, .inr (.inl og))) :: fr) _ wf nf bf bs mc ff w n ok x y) (cwV 2 hts gL_part_X0_part rfl rfl rfl (by decide +kernel) ⟨Nat.le_of_ble_eq_true rfl, Nat.le_of_ble_eq_true rfl⟩) 0 rfl rfl rfl hl.1 rfl (Nat.le_of_ble_eq_true rfl) dL_part_5 ⟨Nat.le_of_ble_eq_true rfl, Nat.le_of_ble_eq_true rfl⟩ (fun E ce q9 u H locs hE hP hD hS g1 g2 g3 => ?_) (fun rv u H locs hu hP hD hS => ?_)
  · rcases hE with ⟨rfl, hz⟩ | ⟨rfl, hz⟩
    · refine vx_catch hown [] ⟨0, 10, 13, 13⟩ [⟨0, 10, 17, 19⟩] htab (fun z9 h9 => nomatch h9) (by decide) (by decide) (hts (.classLink RL 13 "java/lang/IllegalArgumentException") (by decide +kernel)) (va_Nw.use rfl hst.2.2.1) g1 g2 g3 ?_
      refine lv_astore (lv' := [(4, .ref q9), (0, .ref h), (1, .int x), (2, .int y), (3, .ref o)]) hx hb dL_part_13 hl (by decide) rfl (fun ls hl => ?_)
      refine lv_iconst (v := nI 1) hx hb dL_part_15 (by decide +kernel) ?_
      exact zz_iret F hr hlocks hK hS dL_part_16 (Nat.le_of_ble_eq_true rfl) (Nat.le_of_ble_eq_true rfl) (u, og) (Or.inr (Or.inl ⟨rfl, hz⟩)) hP hD
    · refine vx_catch hown [⟨0, 10, 13, 13⟩] ⟨0, 10, 17, 19⟩ [] htab (fun z9 h9 => by rw [List.mem_singleton] at h9; subst h9; exact Or.inr ⟨by decide, _, hts (.classLink RL 13 "java/lang/IllegalArgumentException") (by decide +kernel), hnc⟩) (by decide) (by decide) (hts (.classLink RL 19 "java/util/NoSuchElementException") (by decide +kernel)) (va_Nw.use rfl hst.2.2.2.1) g1 g2 g3 ?_
      refine lv_astore (lv' := [(4, .ref q9), (0, .ref h), (1, .int x), (2, .int y), (3, .ref o)]) hx hb dL_part_17 hl (by decide) rfl (fun ls hl => ?_)
      refine lv_iconst (v := nI 2) hx hb dL_part_19 (by decide +kernel) ?_
      exact zz_iret F hr hlocks hK hS dL_part_20 (Nat.le_of_ble_eq_true rfl) (Nat.le_of_ble_eq_true rfl) (u, og) (Or.inr (Or.inr ⟨rfl, hz⟩)) hP hD
  · refine lv_i2l (v := rv.toInt64) hx hb dL_part_8 rfl ?_
    refine zn_last (k := 0) hx hb hK hP hD hS 5 _ rfl hL (by decide) (by decide) dL_part_9 (fun H locs og1 oge hP hD hS => ?_)
    refine lv_goto hx hb dL_part_10 rfl ?_
    refine lv_iconst (v := nI 0) hx hb dL_part_21 (by decide +kernel) ?_
    exact zz_iret F hr hlocks hK hS dL_part_22 (Nat.le_of_ble_eq_true rfl) (Nat.le_of_ble_eq_true rfl) (u, og1) (Or.inl ⟨rfl, rv, hu, oge⟩) hP hD
