set_option maxRecDepth 100000 in
set_option maxHeartbeats 4000000 in
theorem c1_part (l : Launch) (D : va_G) (tys : List (ClassId × FieldType)) (cI cZ : ClassId) (hI : tys[0]? = some (cI, .int)) (hZ : tys[1]? = some (cZ, .boolean)) (g g1 g2 g3 g4 : Nat) (fr : va_W) (sz : Nat) (wf nf cf kf : Nat → Int32) (fw mx th : Int32) (w n : Nat → Nat) (ok : nmOk wf nf w n) (x y : Int32) : Met l yX1_part wsX1_part ({ frames := 3, cells := 0, slots := 0, locals := 90 }) (va_Pc [.ref g, .int x, .int y] (zz_pre D tys (mdW cI cZ g g1 g2 g3 g4 wf nf cf kf fw mx th fr) sz)) (va_Qi (fun r (u : (Nat → Int32) × Int32 × Int32 × Int32) => (u.2.2.2 = nI 0 ∧ ∃ v c : Nat, v ≤ 2000 ∧ c < 4 ∧ x = nI v ∧ y = nI c ∧ ∃ bm : Nat → Nat, mx_B w n v (bm 0) (bm 1) (bm 2) (bm 3) ∧ r = nI (bm c)) ∨ (u.2.2.2 = nI 1 ∧ ¬ (zr y 0 3 ∧ zr x 0 2000)) ∨ (u.2.2.2 = nI 2 ∧ zr y 0 3 ∧ ∃ v : Nat, v ≤ 2000 ∧ x = nI v ∧ ¬ mx_has w n v)) (zz_B D tys (va_A (mdW cI cZ g g1 g2 g3 g4 wf nf cf kf fw mx th fr) sz) (fun u => mdW cI cZ g g1 g2 g3 g4 wf nf u.1 kf u.2.1 u.2.2.1 u.2.2.2 fr)) (va_A (mdW cI cZ g g1 g2 g3 g4 wf nf cf kf fw mx th fr) sz)) 0 0 (va_A (mdW cI cZ g g1 g2 g3 g4 wf nf cf kf fw mx th fr) sz) := by
  refine zz_headI (cc := cX1_part) (by decide) rfl (Nat.le_of_ble_eq_true rfl) ?_
  intro p e s m below meth cd A ls F hr hlocks hP hK hD hA hS hl
  obtain ⟨hx, hb, hml, hown, hts⟩ := id F
  have hl : lv_has ls 3 [(0, .ref g), (1, .int x), (2, .int y)] := hl
  by_cases hz : zr y 0 3
  · have hz0 := hz
    obtain ⟨c, hc0, hc, rfl⟩ := hz
    refine lv_aload_n hx hb dX1_part_0 rfl (lv_at hl 0 rfl) ?_
    refine lv_iload_n hx hb dX1_part_1 rfl (lv_at hl 2 rfl) ?_
    refine lv_iconst (v := nI 0) hx hb dX1_part_2 (by decide +kernel) ?_
    refine lv_iconst (v := nI 3) hx hb dX1_part_3 (by decide +kernel) ?_
    refine zz_callSi (As := [.int (nI c), .int (nI 0), .int (nI 3)]) (rest := [.ref g]) F hK hP hD hS hA (c1_in_ok l D tys _ _ c 0 3 hc0 hc (by decide)) (va_cwS 3 hts gX1_part_X1_in_ rfl rfl rfl (by decide +kernel) ⟨Nat.le_of_ble_eq_true rfl, Nat.le_of_ble_eq_true rfl⟩) rfl hl.1 rfl (Nat.le_of_ble_eq_true rfl) dX1_part_4 ⟨Nat.le_of_ble_eq_true rfl, Nat.le_of_ble_eq_true rfl⟩ (fun rr _ H locs er hP hD hS => ?_)
    try dsimp only at er
    subst er
    have hP : va_P D vwCl (mdW cI cZ g g1 g2 g3 g4 wf nf cf kf fw mx th fr) H := hP
    have hD : va_D A (mdW cI cZ g g1 g2 g3 g4 wf nf cf kf fw mx th fr) := hD
    refine zn_if_eq hx hb (by decide) dX1_part_7 rfl (fun hc => absurd hc (by decide)) (fun _ => ?_)
    refine lv_iconst (v := nI 0) hx hb dX1_part_10 (by decide +kernel) ?_
    refine lv_goto hx hb dX1_part_11 rfl ?_
    refine va_put (D := D) (ci := 1) (v := .int (nI 0)) (ty := .int) (C := RX1) (T := TX1) (N := 7) hx hb hts (inX1_part) tyX1 tyX1_ok nmX1 hown hK hP hD hS 0 rfl rfl 6 (by decide) (hts (.fieldLink RX1 23 "NoteMixModel" "thrown" "I") (by decide +kernel)) (fun _ h9 => h9) rfl (by decide +kernel) rfl rfl (Nat.le_of_ble_eq_true rfl) dX1_part_15 (fun H locs hP hD hS => ?_)
    have hP : va_P D vwCl (mdW cI cZ g g1 g2 g3 g4 wf nf cf kf fw mx (nI 0) fr) H := hP
    have hD : va_D A (mdW cI cZ g g1 g2 g3 g4 wf nf cf kf fw mx (nI 0) fr) := hD
    refine lv_aload_n hx hb dX1_part_18 rfl (lv_at hl 0 rfl) ?_
    refine va_get (D := D) (ci := 1) (v := .int (nI 0)) (C := RX1) (T := TX1) (N := 7) hx hb hts (inX1_part) hown hK hP 0 rfl rfl 6 (by decide) (hts (.fieldLink RX1 23 "NoteMixModel" "thrown" "I") (by decide +kernel)) (fun _ h9 => h9) rfl dX1_part_19 ?_
    refine zn_if_ne hx hb (by decide) dX1_part_22 rfl (fun hc => absurd hc (by decide)) (fun _ => ?_)
    refine lv_aload_n hx hb dX1_part_25 rfl (lv_at hl 0 rfl) ?_
    refine lv_iload_n hx hb dX1_part_26 rfl (lv_at hl 1 rfl) ?_
    refine zz_callVi (As := [.int x]) (rest := []) F hK hP hD hS hA (c1_isBest l D tys cI cZ hI hZ g g1 g2 g3 g4 fr _ wf nf cf kf fw mx (nI 0) w n ok x) (cwV 1 hts gX1_part_X1_isBest rfl rfl rfl (by decide +kernel) ⟨Nat.le_of_ble_eq_true rfl, Nat.le_of_ble_eq_true rfl⟩) 0 rfl rfl rfl hl.1 rfl (Nat.le_of_ble_eq_true rfl) dX1_part_27 ⟨Nat.le_of_ble_eq_true rfl, Nat.le_of_ble_eq_true rfl⟩ (fun rr u H locs hu hP hD hS => ?_)
    obtain ⟨cf, fw, mx, th⟩ := u
    dsimp only at hu
    have hP : va_P D vwCl (mdW cI cZ g g1 g2 g3 g4 wf nf cf kf fw mx th fr) H := hP
    have hD : va_D A (mdW cI cZ g g1 g2 g3 g4 wf nf cf kf fw mx th fr) := hD
    rcases hu with ⟨rfl, rfl, v, hv, hx9, bm, hB, e1, hbm⟩ | ⟨rfl, rfl, hz⟩ | ⟨rfl, rfl, v, hv, hx9, hno⟩
    · refine zn_if_eq hx hb (by decide) dX1_part_30 rfl (fun hc => absurd hc (by decide)) (fun _ => ?_)
      refine lv_aload_n hx hb dX1_part_33 rfl (lv_at hl 0 rfl) ?_
      refine va_get (D := D) (ci := 1) (v := .ref g3) (C := RX1) (T := TX1) (N := 7) hx hb hts (inX1_part) hown hK hP 0 rfl rfl 2 (by decide) (hts (.fieldLink RX1 16 "NoteMixModel" "chosen" "[I") (by decide +kernel)) (fun _ h9 => h9) rfl dX1_part_34 ?_
      refine lv_iload_n hx hb dX1_part_37 rfl (lv_at hl 2 rfl) ?_
      refine zn_iald (k := c) hx hb hK hP 3 _ rfl hI (by omega) (by decide) (hbm c (by omega)) dX1_part_38 ?_
      refine lv_goto hx hb dX1_part_39 rfl ?_
      exact zz_iret F hr hlocks hK hS dX1_part_43 (by decide) (by decide) (cf, fw, mx, nI 0) (Or.inl ⟨rfl, v, c, hv, by omega, hx9, rfl, bm, hB, rfl⟩) hP hD
    · refine zn_if_eq hx hb (by decide) dX1_part_30 rfl (fun _ => ?_) (fun hc => absurd hc (by decide))
      refine lv_iconst (v := nI 0) hx hb dX1_part_42 (by decide +kernel) ?_
      exact zz_iret F hr hlocks hK hS dX1_part_43 (by decide) (by decide) (cf, fw, mx, nI 1) (Or.inr (Or.inl ⟨rfl, fun q => hz q.2⟩)) hP hD
    · refine zn_if_eq hx hb (by decide) dX1_part_30 rfl (fun _ => ?_) (fun hc => absurd hc (by decide))
      refine lv_iconst (v := nI 0) hx hb dX1_part_42 (by decide +kernel) ?_
      exact zz_iret F hr hlocks hK hS dX1_part_43 (by decide) (by decide) (cf, fw, mx, nI 2) (Or.inr (Or.inr ⟨rfl, hz0, v, hv, hx9, hno⟩)) hP hD
  · refine lv_aload_n hx hb dX1_part_0 rfl (lv_at hl 0 rfl) ?_
    refine lv_iload_n hx hb dX1_part_1 rfl (lv_at hl 2 rfl) ?_
    refine lv_iconst (v := nI 0) hx hb dX1_part_2 (by decide +kernel) ?_
    refine lv_iconst (v := nI 3) hx hb dX1_part_3 (by decide +kernel) ?_
    refine zz_callSi (As := [.int y, .int (nI 0), .int (nI 3)]) (rest := [.ref g]) F hK hP hD hS hA (c1_in_bad l D tys _ _ y 0 3 hz (by decide) (by decide)) (va_cwS 3 hts gX1_part_X1_in_ rfl rfl rfl (by decide +kernel) ⟨Nat.le_of_ble_eq_true rfl, Nat.le_of_ble_eq_true rfl⟩) rfl hl.1 rfl (Nat.le_of_ble_eq_true rfl) dX1_part_4 ⟨Nat.le_of_ble_eq_true rfl, Nat.le_of_ble_eq_true rfl⟩ (fun rr _ H locs er hP hD hS => ?_)
    try dsimp only at er
    subst er
    have hP : va_P D vwCl (mdW cI cZ g g1 g2 g3 g4 wf nf cf kf fw mx th fr) H := hP
    have hD : va_D A (mdW cI cZ g g1 g2 g3 g4 wf nf cf kf fw mx th fr) := hD
    refine zn_if_eq hx hb (by decide) dX1_part_7 rfl (fun _ => ?_) (fun hc => absurd hc (by decide))
    refine lv_iconst (v := nI 1) hx hb dX1_part_14 (by decide +kernel) ?_
    refine va_put (D := D) (ci := 1) (v := .int (nI 1)) (ty := .int) (C := RX1) (T := TX1) (N := 7) hx hb hts (inX1_part) tyX1 tyX1_ok nmX1 hown hK hP hD hS 0 rfl rfl 6 (by decide) (hts (.fieldLink RX1 23 "NoteMixModel" "thrown" "I") (by decide +kernel)) (fun _ h9 => h9) rfl (by decide +kernel) rfl rfl (Nat.le_of_ble_eq_true rfl) dX1_part_15 (fun H locs hP hD hS => ?_)
    have hP : va_P D vwCl (mdW cI cZ g g1 g2 g3 g4 wf nf cf kf fw mx (nI 1) fr) H := hP
    have hD : va_D A (mdW cI cZ g g1 g2 g3 g4 wf nf cf kf fw mx (nI 1) fr) := hD
    refine lv_aload_n hx hb dX1_part_18 rfl (lv_at hl 0 rfl) ?_
    refine va_get (D := D) (ci := 1) (v := .int (nI 1)) (C := RX1) (T := TX1) (N := 7) hx hb hts (inX1_part) hown hK hP 0 rfl rfl 6 (by decide) (hts (.fieldLink RX1 23 "NoteMixModel" "thrown" "I") (by decide +kernel)) (fun _ h9 => h9) rfl dX1_part_19 ?_
    refine zn_if_ne hx hb (by decide) dX1_part_22 rfl (fun _ => ?_) (fun hc => absurd hc (by decide))
    refine lv_iconst (v := nI 0) hx hb dX1_part_42 (by decide +kernel) ?_
    exact zz_iret F hr hlocks hK hS dX1_part_43 (by decide) (by decide) (cf, fw, mx, nI 1) (Or.inr (Or.inl ⟨rfl, fun q => hz q.1⟩)) hP hD
