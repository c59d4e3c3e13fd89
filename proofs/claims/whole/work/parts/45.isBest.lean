set_option maxRecDepth 100000 in
set_option maxHeartbeats 4000000 in
theorem c1_isBest (l : Launch) (D : va_G) (tys : List (ClassId × FieldType)) (cI cZ : ClassId) (hI : tys[0]? = some (cI, .int)) (hZ : tys[1]? = some (cZ, .boolean)) (g g1 g2 g3 g4 : Nat) (fr : va_W) (sz : Nat) (wf nf cf kf : Nat → Int32) (fw mx th : Int32) (w n : Nat → Nat) (ok : nmOk wf nf w n) (x : Int32) : Met l yX1_isBest wsX1_isBest ({ frames := 2, cells := 0, slots := 0, locals := 60 }) (va_Pc [.ref g, .int x] (zz_pre D tys (mdW cI cZ g g1 g2 g3 g4 wf nf cf kf fw mx th fr) sz)) (va_Qi (fun r (u : (Nat → Int32) × Int32 × Int32 × Int32) => (r = nI 1 ∧ u.2.2.2 = nI 0 ∧ ∃ v : Nat, v ≤ 2000 ∧ x = nI v ∧ ∃ bm : Nat → Nat, mx_B w n v (bm 0) (bm 1) (bm 2) (bm 3) ∧ u.2.1 = nI (bm 0 + bm 1 + bm 2 + bm 3) ∧ ∀ j, j < 4 → u.1 j = nI (bm j)) ∨ (r = nI 0 ∧ u.2.2.2 = nI 1 ∧ ¬ zr x 0 2000) ∨ (r = nI 0 ∧ u.2.2.2 = nI 2 ∧ ∃ v : Nat, v ≤ 2000 ∧ x = nI v ∧ ¬ mx_has w n v)) (zz_B D tys (va_A (mdW cI cZ g g1 g2 g3 g4 wf nf cf kf fw mx th fr) sz) (fun u => mdW cI cZ g g1 g2 g3 g4 wf nf u.1 kf u.2.1 u.2.2.1 u.2.2.2 fr)) (va_A (mdW cI cZ g g1 g2 g3 g4 wf nf cf kf fw mx th fr) sz)) 0 0 (va_A (mdW cI cZ g g1 g2 g3 g4 wf nf cf kf fw mx th fr) sz) := by
  refine zz_headZ (cc := cX1_isBest) (by decide) rfl (Nat.le_of_ble_eq_true rfl) ?_
  intro p e s m below meth cd A ls F hr hlocks hP hK hD hA hS hl
  obtain ⟨hx, hb, hml, hown, hts⟩ := id F
  have hl : lv_has ls 2 [(0, .ref g), (1, .int x)] := hl
  by_cases hz : zr x 0 2000
  · obtain ⟨v, hv0, hv, rfl⟩ := hz
    refine lv_aload_n hx hb dX1_isBest_0 rfl (lv_at hl 0 rfl) ?_
    refine lv_iload_n hx hb dX1_isBest_1 rfl (lv_at hl 1 rfl) ?_
    refine lv_iconst (v := nI 0) hx hb dX1_isBest_2 (by decide +kernel) ?_
    refine lv_sipush (v := nI 2000) hx hb dX1_isBest_3 (by decide +kernel) ?_
    refine zz_callSi (As := [.int (nI v), .int (nI 0), .int (nI 2000)]) (rest := [.ref g]) F hK hP hD hS hA (c1_in_ok l D tys _ _ v 0 2000 hv0 hv (by decide)) (va_cwS 3 hts gX1_isBest_X1_in_ rfl rfl rfl (by decide +kernel) ⟨Nat.le_of_ble_eq_true rfl, Nat.le_of_ble_eq_true rfl⟩) rfl hl.1 rfl (Nat.le_of_ble_eq_true rfl) dX1_isBest_6 ⟨Nat.le_of_ble_eq_true rfl, Nat.le_of_ble_eq_true rfl⟩ (fun rr _ H locs er hP hD hS => ?_)
    try dsimp only at er
    subst er
    have hP : va_P D vwCl (mdW cI cZ g g1 g2 g3 g4 wf nf cf kf fw mx th fr) H := hP
    have hD : va_D A (mdW cI cZ g g1 g2 g3 g4 wf nf cf kf fw mx th fr) := hD
    refine zn_if_eq hx hb (by decide) dX1_isBest_9 rfl (fun hc => absurd hc (by decide)) (fun _ => ?_)
    refine lv_iconst (v := nI 0) hx hb dX1_isBest_12 (by decide +kernel) ?_
    refine lv_goto hx hb dX1_isBest_13 rfl ?_
    refine va_put (D := D) (ci := 1) (v := .int (nI 0)) (ty := .int) (C := RX1) (T := TX1) (N := 7) hx hb hts (inX1_isBest) tyX1 tyX1_ok nmX1 hown hK hP hD hS 0 rfl rfl 6 (by decide) (hts (.fieldLink RX1 23 "NoteMixModel" "thrown" "I") (by decide +kernel)) (fun _ h9 => h9) rfl (by decide +kernel) rfl rfl (Nat.le_of_ble_eq_true rfl) dX1_isBest_17 (fun H locs hP hD hS => ?_)
    have hP : va_P D vwCl (mdW cI cZ g g1 g2 g3 g4 wf nf cf kf fw mx (nI 0) fr) H := hP
    have hD : va_D A (mdW cI cZ g g1 g2 g3 g4 wf nf cf kf fw mx (nI 0) fr) := hD
    refine lv_aload_n hx hb dX1_isBest_20 rfl (lv_at hl 0 rfl) ?_
    refine va_get (D := D) (ci := 1) (v := .int (nI 0)) (C := RX1) (T := TX1) (N := 7) hx hb hts (inX1_isBest) hown hK hP 0 rfl rfl 6 (by decide) (hts (.fieldLink RX1 23 "NoteMixModel" "thrown" "I") (by decide +kernel)) (fun _ h9 => h9) rfl dX1_isBest_21 ?_
    refine zn_if_le hx hb (by decide) dX1_isBest_24 rfl (fun _ => ?_) (fun hc => absurd hc (by decide))
    refine lv_aload_n hx hb dX1_isBest_29 rfl (lv_at hl 0 rfl) ?_
    refine lv_iload_n hx hb dX1_isBest_30 rfl (lv_at hl 1 rfl) ?_
    refine zz_callVv (As := [.int (nI v)]) (rest := []) F hK hP hD hS hA (c1_look l D tys cI cZ hI hZ g g1 g2 g3 g4 fr _ wf nf cf kf fw mx (nI 0) w n ok v hv) (cwV 1 hts gX1_isBest_X1_look rfl rfl rfl (by decide +kernel) ⟨Nat.le_of_ble_eq_true rfl, Nat.le_of_ble_eq_true rfl⟩) 0 rfl rfl rfl hl.1 rfl (Nat.le_of_ble_eq_true rfl) dX1_isBest_31 ⟨Nat.le_of_ble_eq_true rfl, Nat.le_of_ble_eq_true rfl⟩ (fun u H locs hu hP hD hS => ?_)
    obtain ⟨cf, fw, mx⟩ := u
    obtain ⟨cnt, b, bm, e1, e2, hbm, hc1, hc2, hc3, hE⟩ := hu
    dsimp only at e1 e2 hbm
    subst e1 e2
    have hP : va_P D vwCl (mdW cI cZ g g1 g2 g3 g4 wf nf cf kf (nI b) (nI cnt) (nI 0) fr) H := hP
    have hD : va_D A (mdW cI cZ g g1 g2 g3 g4 wf nf cf kf (nI b) (nI cnt) (nI 0) fr) := hD
    refine lv_aload_n hx hb dX1_isBest_34 rfl (lv_at hl 0 rfl) ?_
    refine lv_aload_n hx hb dX1_isBest_35 rfl (lv_at hl 0 rfl) ?_
    refine va_get (D := D) (ci := 1) (v := .int (nI cnt)) (C := RX1) (T := TX1) (N := 7) hx hb hts (inX1_isBest) hown hK hP 0 rfl rfl 5 (by decide) (hts (.fieldLink RX1 31 "NoteMixModel" "mixes" "I") (by decide +kernel)) (fun _ h9 => h9) rfl dX1_isBest_36 ?_
    refine zn_if_ne hx hb (by omega) dX1_isBest_39 rfl (fun hq => ?_) (fun hq => ?_)
    · rcases hE with ⟨h9, _⟩ | ⟨_, _, e3, hB⟩
      · omega
      · refine lv_iconst (v := nI 0) hx hb dX1_isBest_46 (by decide +kernel) ?_
        refine va_put (D := D) (ci := 1) (v := .int (nI 0)) (ty := .int) (C := RX1) (T := TX1) (N := 7) hx hb hts (inX1_isBest) tyX1 tyX1_ok nmX1 hown hK hP hD hS 0 rfl rfl 6 (by decide) (hts (.fieldLink RX1 23 "NoteMixModel" "thrown" "I") (by decide +kernel)) (fun _ h9 => h9) rfl (by decide +kernel) rfl rfl (Nat.le_of_ble_eq_true rfl) dX1_isBest_47 (fun H locs hP hD hS => ?_)
        have hP : va_P D vwCl (mdW cI cZ g g1 g2 g3 g4 wf nf cf kf (nI b) (nI cnt) (nI 0) fr) H := hP
        have hD : va_D A (mdW cI cZ g g1 g2 g3 g4 wf nf cf kf (nI b) (nI cnt) (nI 0) fr) := hD
        refine lv_aload_n hx hb dX1_isBest_50 rfl (lv_at hl 0 rfl) ?_
        refine va_get (D := D) (ci := 1) (v := .int (nI 0)) (C := RX1) (T := TX1) (N := 7) hx hb hts (inX1_isBest) hown hK hP 0 rfl rfl 6 (by decide) (hts (.fieldLink RX1 23 "NoteMixModel" "thrown" "I") (by decide +kernel)) (fun _ h9 => h9) rfl dX1_isBest_51 ?_
        refine zn_if_ne hx hb (by decide) dX1_isBest_54 rfl (fun hc => absurd hc (by decide)) (fun _ => ?_)
        refine lv_iconst (v := nI 1) hx hb dX1_isBest_57 (by decide +kernel) ?_
        refine lv_goto hx hb dX1_isBest_58 rfl ?_
        exact zz_zret F hr hlocks (by decide +kernel) hK hS dX1_isBest_62 (by decide) (by decide) (cf, nI b, nI cnt, nI 0) (Or.inl ⟨rfl, rfl, v, hv, rfl, bm, hB, by show nI b = _; rw [e3], hbm hq⟩) hP hD
    · rcases hE with ⟨_, h9⟩ | ⟨h8, _⟩
      · refine lv_iconst (v := nI 2) hx hb dX1_isBest_42 (by decide +kernel) ?_
        refine lv_goto hx hb dX1_isBest_43 rfl ?_
        refine va_put (D := D) (ci := 1) (v := .int (nI 2)) (ty := .int) (C := RX1) (T := TX1) (N := 7) hx hb hts (inX1_isBest) tyX1 tyX1_ok nmX1 hown hK hP hD hS 0 rfl rfl 6 (by decide) (hts (.fieldLink RX1 23 "NoteMixModel" "thrown" "I") (by decide +kernel)) (fun _ h9 => h9) rfl (by decide +kernel) rfl rfl (Nat.le_of_ble_eq_true rfl) dX1_isBest_47 (fun H locs hP hD hS => ?_)
        have hP : va_P D vwCl (mdW cI cZ g g1 g2 g3 g4 wf nf cf kf (nI b) (nI cnt) (nI 2) fr) H := hP
        have hD : va_D A (mdW cI cZ g g1 g2 g3 g4 wf nf cf kf (nI b) (nI cnt) (nI 2) fr) := hD
        refine lv_aload_n hx hb dX1_isBest_50 rfl (lv_at hl 0 rfl) ?_
        refine va_get (D := D) (ci := 1) (v := .int (nI 2)) (C := RX1) (T := TX1) (N := 7) hx hb hts (inX1_isBest) hown hK hP 0 rfl rfl 6 (by decide) (hts (.fieldLink RX1 23 "NoteMixModel" "thrown" "I") (by decide +kernel)) (fun _ h9 => h9) rfl dX1_isBest_51 ?_
        refine zn_if_ne hx hb (by decide) dX1_isBest_54 rfl (fun _ => ?_) (fun hc => absurd hc (by decide))
        refine lv_iconst (v := nI 0) hx hb dX1_isBest_61 (by decide +kernel) ?_
        exact zz_zret F hr hlocks (by decide +kernel) hK hS dX1_isBest_62 (by decide) (by decide) (cf, nI b, nI cnt, nI 2) (Or.inr (Or.inr ⟨rfl, rfl, v, hv, rfl, h9⟩)) hP hD
      · omega
  · refine lv_aload_n hx hb dX1_isBest_0 rfl (lv_at hl 0 rfl) ?_
    refine lv_iload_n hx hb dX1_isBest_1 rfl (lv_at hl 1 rfl) ?_
    refine lv_iconst (v := nI 0) hx hb dX1_isBest_2 (by decide +kernel) ?_
    refine lv_sipush (v := nI 2000) hx hb dX1_isBest_3 (by decide +kernel) ?_
    refine zz_callSi (As := [.int x, .int (nI 0), .int (nI 2000)]) (rest := [.ref g]) F hK hP hD hS hA (c1_in_bad l D tys _ _ x 0 2000 hz (by decide) (by decide)) (va_cwS 3 hts gX1_isBest_X1_in_ rfl rfl rfl (by decide +kernel) ⟨Nat.le_of_ble_eq_true rfl, Nat.le_of_ble_eq_true rfl⟩) rfl hl.1 rfl (Nat.le_of_ble_eq_true rfl) dX1_isBest_6 ⟨Nat.le_of_ble_eq_true rfl, Nat.le_of_ble_eq_true rfl⟩ (fun rr _ H locs er hP hD hS => ?_)
    try dsimp only at er
    subst er
    have hP : va_P D vwCl (mdW cI cZ g g1 g2 g3 g4 wf nf cf kf fw mx th fr) H := hP
    have hD : va_D A (mdW cI cZ g g1 g2 g3 g4 wf nf cf kf fw mx th fr) := hD
    refine zn_if_eq hx hb (by decide) dX1_isBest_9 rfl (fun _ => ?_) (fun hc => absurd hc (by decide))
    refine lv_iconst (v := nI 1) hx hb dX1_isBest_16 (by decide +kernel) ?_
    refine va_put (D := D) (ci := 1) (v := .int (nI 1)) (ty := .int) (C := RX1) (T := TX1) (N := 7) hx hb hts (inX1_isBest) tyX1 tyX1_ok nmX1 hown hK hP hD hS 0 rfl rfl 6 (by decide) (hts (.fieldLink RX1 23 "NoteMixModel" "thrown" "I") (by decide +kernel)) (fun _ h9 => h9) rfl (by decide +kernel) rfl rfl (Nat.le_of_ble_eq_true rfl) dX1_isBest_17 (fun H locs hP hD hS => ?_)
    have hP : va_P D vwCl (mdW cI cZ g g1 g2 g3 g4 wf nf cf kf fw mx (nI 1) fr) H := hP
    have hD : va_D A (mdW cI cZ g g1 g2 g3 g4 wf nf cf kf fw mx (nI 1) fr) := hD
    refine lv_aload_n hx hb dX1_isBest_20 rfl (lv_at hl 0 rfl) ?_
    refine va_get (D := D) (ci := 1) (v := .int (nI 1)) (C := RX1) (T := TX1) (N := 7) hx hb hts (inX1_isBest) hown hK hP 0 rfl rfl 6 (by decide) (hts (.fieldLink RX1 23 "NoteMixModel" "thrown" "I") (by decide +kernel)) (fun _ h9 => h9) rfl dX1_isBest_21 ?_
    refine zn_if_le hx hb (by decide) dX1_isBest_24 rfl (fun hc => absurd hc (by decide)) (fun _ => ?_)
    refine lv_iconst (v := nI 0) hx hb dX1_isBest_27 (by decide +kernel) ?_
    exact zz_zret F hr hlocks (by decide +kernel) hK hS dX1_isBest_28 (by decide) (by decide) (cf, fw, mx, nI 1) (Or.inr (Or.inl ⟨rfl, rfl, hz⟩)) hP hD
