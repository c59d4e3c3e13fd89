set_option maxRecDepth 100000 in
set_option maxHeartbeats 4000000 in
theorem c1_cassette (l : Launch) (D : va_G) (tys : List (ClassId × FieldType)) (cI cZ : ClassId) (hI : tys[0]? = some (cI, .int)) (hZ : tys[1]? = some (cZ, .boolean)) (g g1 g2 g3 g4 : Nat) (fr : va_W) (sz : Nat) (wf nf cf kf : Nat → Int32) (fw mx th : Int32) (w n : Nat → Nat) (ok : nmOk wf nf w n) (x y : Int32) : Met l yX1_cassette wsX1_cassette ({ frames := 1, cells := 0, slots := 0, locals := 30 }) (va_Pc [.ref g, .int x, .int y] (zz_pre D tys (mdW cI cZ g g1 g2 g3 g4 wf nf cf kf fw mx th fr) sz)) (va_Qi (fun r (u : Int32) => (u = nI 0 ∧ ∃ c : Nat, c < 4 ∧ x = nI c ∧ r = if y = 0 then nI (n c) else nI (w c)) ∨ (u = nI 1 ∧ ¬ zr x 0 3)) (zz_B D tys (va_A (mdW cI cZ g g1 g2 g3 g4 wf nf cf kf fw mx th fr) sz) (fun u => mdW cI cZ g g1 g2 g3 g4 wf nf cf kf fw mx u fr)) (va_A (mdW cI cZ g g1 g2 g3 g4 wf nf cf kf fw mx th fr) sz)) 0 0 (va_A (mdW cI cZ g g1 g2 g3 g4 wf nf cf kf fw mx th fr) sz) := by
  refine zz_headI (cc := cX1_cassette) (by decide) rfl (Nat.le_of_ble_eq_true rfl) ?_
  intro p e s m below meth cd A ls F hr hlocks hP hK hD hA hS hl
  obtain ⟨hx, hb, hml, hown, hts⟩ := id F
  have hl : lv_has ls 3 [(0, .ref g), (1, .int x), (2, .int y)] := hl
  by_cases hz : zr x 0 3
  · obtain ⟨c, hc0, hc, rfl⟩ := hz
    refine lv_aload_n hx hb dX1_cassette_0 rfl (lv_at hl 0 rfl) ?_
    refine lv_iload_n hx hb dX1_cassette_1 rfl (lv_at hl 1 rfl) ?_
    refine lv_iconst (v := nI 0) hx hb dX1_cassette_2 (by decide +kernel) ?_
    refine lv_iconst (v := nI 3) hx hb dX1_cassette_3 (by decide +kernel) ?_
    refine zz_callSi (As := [.int (nI c), .int (nI 0), .int (nI 3)]) (rest := [.ref g]) F hK hP hD hS hA (c1_in_ok l D tys _ _ c 0 3 hc0 hc (by decide)) (va_cwS 3 hts gX1_cassette_X1_in_ rfl rfl rfl (by decide +kernel) ⟨Nat.le_of_ble_eq_true rfl, Nat.le_of_ble_eq_true rfl⟩) rfl hl.1 rfl (Nat.le_of_ble_eq_true rfl) dX1_cassette_4 ⟨Nat.le_of_ble_eq_true rfl, Nat.le_of_ble_eq_true rfl⟩ (fun rr _ H locs er hP hD hS => ?_)
    try dsimp only at er
    subst er
    have hP : va_P D vwCl (mdW cI cZ g g1 g2 g3 g4 wf nf cf kf fw mx th fr) H := hP
    have hD : va_D A (mdW cI cZ g g1 g2 g3 g4 wf nf cf kf fw mx th fr) := hD
    refine zn_if_eq hx hb (by decide) dX1_cassette_7 rfl (fun hc => absurd hc (by decide)) (fun _ => ?_)
    refine lv_iconst (v := nI 0) hx hb dX1_cassette_10 (by decide +kernel) ?_
    refine lv_goto hx hb dX1_cassette_11 rfl ?_
    refine va_put (D := D) (ci := 1) (v := .int (nI 0)) (ty := .int) (C := RX1) (T := TX1) (N := 7) hx hb hts (inX1_cassette) tyX1 tyX1_ok nmX1 hown hK hP hD hS 0 rfl rfl 6 (by decide) (hts (.fieldLink RX1 23 "NoteMixModel" "thrown" "I") (by decide +kernel)) (fun _ h9 => h9) rfl (by decide +kernel) rfl rfl (Nat.le_of_ble_eq_true rfl) dX1_cassette_15 (fun H locs hP hD hS => ?_)
    have hP : va_P D vwCl (mdW cI cZ g g1 g2 g3 g4 wf nf cf kf fw mx (nI 0) fr) H := hP
    have hD : va_D A (mdW cI cZ g g1 g2 g3 g4 wf nf cf kf fw mx (nI 0) fr) := hD
    refine lv_aload_n hx hb dX1_cassette_18 rfl (lv_at hl 0 rfl) ?_
    refine va_get (D := D) (ci := 1) (v := .int (nI 0)) (C := RX1) (T := TX1) (N := 7) hx hb hts (inX1_cassette) hown hK hP 0 rfl rfl 6 (by decide) (hts (.fieldLink RX1 23 "NoteMixModel" "thrown" "I") (by decide +kernel)) (fun _ h9 => h9) rfl dX1_cassette_19 ?_
    refine zn_if_le hx hb (by decide) dX1_cassette_22 rfl (fun _ => ?_) (fun hc => absurd hc (by decide))
    refine lv_iload_n hx hb dX1_cassette_27 rfl (lv_at hl 2 rfl) ?_
    refine lv_if_eq hx hb dX1_cassette_28 rfl (fun hq => ?_) (fun hq => ?_)
    · refine lv_aload_n hx hb dX1_cassette_40 rfl (lv_at hl 0 rfl) ?_
      refine va_get (D := D) (ci := 1) (v := .ref g2) (C := RX1) (T := TX1) (N := 7) hx hb hts (inX1_cassette) hown hK hP 0 rfl rfl 1 (by decide) (hts (.fieldLink RX1 13 "NoteMixModel" "notes" "[I") (by decide +kernel)) (fun _ h9 => h9) rfl dX1_cassette_41 ?_
      refine lv_iload_n hx hb dX1_cassette_44 rfl (lv_at hl 1 rfl) ?_
      refine zn_iald (k := c) hx hb hK hP 2 _ rfl hI (by omega) (by decide) (ok.2.1 c (by omega)) dX1_cassette_45 ?_
      exact zz_iret F hr hlocks hK hS dX1_cassette_46 (by decide) (by decide) (nI 0) (Or.inl ⟨rfl, c, by omega, rfl, by rw [if_pos hq]⟩) hP hD
    · refine lv_aload_n hx hb dX1_cassette_31 rfl (lv_at hl 0 rfl) ?_
      refine va_get (D := D) (ci := 1) (v := .ref g1) (C := RX1) (T := TX1) (N := 7) hx hb hts (inX1_cassette) hown hK hP 0 rfl rfl 0 (by decide) (hts (.fieldLink RX1 7 "NoteMixModel" "worth" "[I") (by decide +kernel)) (fun _ h9 => h9) rfl dX1_cassette_32 ?_
      refine lv_iload_n hx hb dX1_cassette_35 rfl (lv_at hl 1 rfl) ?_
      refine zn_iald (k := c) hx hb hK hP 1 _ rfl hI (by omega) (by decide) (ok.1 c (by omega)) dX1_cassette_36 ?_
      refine lv_goto hx hb dX1_cassette_37 rfl ?_
      exact zz_iret F hr hlocks hK hS dX1_cassette_46 (by decide) (by decide) (nI 0) (Or.inl ⟨rfl, c, by omega, rfl, by rw [if_neg hq]⟩) hP hD
  · refine lv_aload_n hx hb dX1_cassette_0 rfl (lv_at hl 0 rfl) ?_
    refine lv_iload_n hx hb dX1_cassette_1 rfl (lv_at hl 1 rfl) ?_
    refine lv_iconst (v := nI 0) hx hb dX1_cassette_2 (by decide +kernel) ?_
    refine lv_iconst (v := nI 3) hx hb dX1_cassette_3 (by decide +kernel) ?_
    refine zz_callSi (As := [.int x, .int (nI 0), .int (nI 3)]) (rest := [.ref g]) F hK hP hD hS hA (c1_in_bad l D tys _ _ x 0 3 hz (by decide) (by decide)) (va_cwS 3 hts gX1_cassette_X1_in_ rfl rfl rfl (by decide +kernel) ⟨Nat.le_of_ble_eq_true rfl, Nat.le_of_ble_eq_true rfl⟩) rfl hl.1 rfl (Nat.le_of_ble_eq_true rfl) dX1_cassette_4 ⟨Nat.le_of_ble_eq_true rfl, Nat.le_of_ble_eq_true rfl⟩ (fun rr _ H locs er hP hD hS => ?_)
    try dsimp only at er
    subst er
    have hP : va_P D vwCl (mdW cI cZ g g1 g2 g3 g4 wf nf cf kf fw mx th fr) H := hP
    have hD : va_D A (mdW cI cZ g g1 g2 g3 g4 wf nf cf kf fw mx th fr) := hD
    refine zn_if_eq hx hb (by decide) dX1_cassette_7 rfl (fun _ => ?_) (fun hc => absurd hc (by decide))
    refine lv_iconst (v := nI 1) hx hb dX1_cassette_14 (by decide +kernel) ?_
    refine va_put (D := D) (ci := 1) (v := .int (nI 1)) (ty := .int) (C := RX1) (T := TX1) (N := 7) hx hb hts (inX1_cassette) tyX1 tyX1_ok nmX1 hown hK hP hD hS 0 rfl rfl 6 (by decide) (hts (.fieldLink RX1 23 "NoteMixModel" "thrown" "I") (by decide +kernel)) (fun _ h9 => h9) rfl (by decide +kernel) rfl rfl (Nat.le_of_ble_eq_true rfl) dX1_cassette_15 (fun H locs hP hD hS => ?_)
    have hP : va_P D vwCl (mdW cI cZ g g1 g2 g3 g4 wf nf cf kf fw mx (nI 1) fr) H := hP
    have hD : va_D A (mdW cI cZ g g1 g2 g3 g4 wf nf cf kf fw mx (nI 1) fr) := hD
    refine lv_aload_n hx hb dX1_cassette_18 rfl (lv_at hl 0 rfl) ?_
    refine va_get (D := D) (ci := 1) (v := .int (nI 1)) (C := RX1) (T := TX1) (N := 7) hx hb hts (inX1_cassette) hown hK hP 0 rfl rfl 6 (by decide) (hts (.fieldLink RX1 23 "NoteMixModel" "thrown" "I") (by decide +kernel)) (fun _ h9 => h9) rfl dX1_cassette_19 ?_
    refine zn_if_le hx hb (by decide) dX1_cassette_22 rfl (fun hc => absurd hc (by decide)) (fun _ => ?_)
    refine lv_iconst (v := nI 0) hx hb dX1_cassette_25 (by decide +kernel) ?_
    exact zz_iret F hr hlocks hK hS dX1_cassette_26 (by decide) (by decide) (nI 1) (Or.inr ⟨rfl, hz⟩) hP hD
