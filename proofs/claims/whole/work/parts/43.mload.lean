set_option maxRecDepth 100000 in
set_option maxHeartbeats 4000000 in
theorem c1_load (l : Launch) (D : va_G) (tys : List (ClassId × FieldType)) (cI cZ : ClassId) (hI : tys[0]? = some (cI, .int)) (hZ : tys[1]? = some (cZ, .boolean)) (g g1 g2 g3 g4 : Nat) (fr : va_W) (sz : Nat) (wf nf cf kf : Nat → Int32) (fw mx th : Int32) (w n : Nat → Nat) (ok : nmOk wf nf w n) (x y z : Int32) : Met l yX1_load wsX1_load ({ frames := 1, cells := 0, slots := 0, locals := 30 }) (va_Pc [.ref g, .int x, .int y, .int z] (zz_pre D tys (mdW cI cZ g g1 g2 g3 g4 wf nf cf kf fw mx th fr) sz)) (va_Qv (fun (u : (Nat → Int32) × (Nat → Int32) × Int32) => (∃ c a b : Nat, c < 4 ∧ 1 ≤ a ∧ a ≤ 500 ∧ b ≤ 500 ∧ x = nI c ∧ y = nI a ∧ z = nI b ∧ u.2.2 = nI 0 ∧ nmOk u.1 u.2.1 (fun j => if j = c then a else w j) (fun j => if j = c then b else n j)) ∨ (¬ (zr x 0 3 ∧ zr y 1 500 ∧ zr z 0 500) ∧ u.2.2 = nI 1 ∧ u.1 = wf ∧ u.2.1 = nf)) (zz_B D tys (va_A (mdW cI cZ g g1 g2 g3 g4 wf nf cf kf fw mx th fr) sz) (fun u => mdW cI cZ g g1 g2 g3 g4 u.1 u.2.1 cf kf fw mx u.2.2 fr)) (va_A (mdW cI cZ g g1 g2 g3 g4 wf nf cf kf fw mx th fr) sz)) 0 0 (va_A (mdW cI cZ g g1 g2 g3 g4 wf nf cf kf fw mx th fr) sz) := by
  refine zz_headV (cc := cX1_load) (by decide) rfl (Nat.le_of_ble_eq_true rfl) ?_
  intro p e s m below meth cd A ls F hr hlocks hin hP hK hD hA hS hl
  obtain ⟨hx, hb, hml, hown, hts⟩ := id F
  have hl : lv_has ls 4 [(0, .ref g), (1, .int x), (2, .int y), (3, .int z)] := hl
  by_cases hz : zr x 0 3
  · obtain ⟨c, hc0, hc, rfl⟩ := hz
    refine lv_aload_n hx hb dX1_load_0 rfl (lv_at hl 0 rfl) ?_
    refine lv_iload_n hx hb dX1_load_1 rfl (lv_at hl 1 rfl) ?_
    refine lv_iconst (v := nI 0) hx hb dX1_load_2 (by decide +kernel) ?_
    refine lv_iconst (v := nI 3) hx hb dX1_load_3 (by decide +kernel) ?_
    refine zz_callSi (As := [.int (nI c), .int (nI 0), .int (nI 3)]) (rest := [.ref g]) F hK hP hD hS hA (c1_in_ok l D tys _ _ c 0 3 hc0 hc (by decide)) (va_cwS 3 hts gX1_load_X1_in_ rfl rfl rfl (by decide +kernel) ⟨Nat.le_of_ble_eq_true rfl, Nat.le_of_ble_eq_true rfl⟩) rfl hl.1 rfl (Nat.le_of_ble_eq_true rfl) dX1_load_4 ⟨Nat.le_of_ble_eq_true rfl, Nat.le_of_ble_eq_true rfl⟩ (fun rr _ H locs er hP hD hS => ?_)
    try dsimp only at er
    subst er
    have hP : va_P D vwCl (mdW cI cZ g g1 g2 g3 g4 wf nf cf kf fw mx th fr) H := hP
    have hD : va_D A (mdW cI cZ g g1 g2 g3 g4 wf nf cf kf fw mx th fr) := hD
    refine zn_if_eq hx hb (by decide) dX1_load_7 rfl (fun hc => absurd hc (by decide)) (fun _ => ?_)
    by_cases hz : zr y 1 500
    · obtain ⟨a, ha0, ha, rfl⟩ := hz
      refine lv_iload_n hx hb dX1_load_10 rfl (lv_at hl 2 rfl) ?_
      refine lv_iconst (v := nI 1) hx hb dX1_load_11 (by decide +kernel) ?_
      refine lv_sipush (v := nI 500) hx hb dX1_load_12 (by decide +kernel) ?_
      refine zz_callSi (As := [.int (nI a), .int (nI 1), .int (nI 500)]) (rest := [.ref g]) F hK hP hD hS hA (c1_in_ok l D tys _ _ a 1 500 ha0 ha (by decide)) (va_cwS 3 hts gX1_load_X1_in_ rfl rfl rfl (by decide +kernel) ⟨Nat.le_of_ble_eq_true rfl, Nat.le_of_ble_eq_true rfl⟩) rfl hl.1 rfl (Nat.le_of_ble_eq_true rfl) dX1_load_15 ⟨Nat.le_of_ble_eq_true rfl, Nat.le_of_ble_eq_true rfl⟩ (fun rr _ H locs er hP hD hS => ?_)
      try dsimp only at er
      subst er
      have hP : va_P D vwCl (mdW cI cZ g g1 g2 g3 g4 wf nf cf kf fw mx th fr) H := hP
      have hD : va_D A (mdW cI cZ g g1 g2 g3 g4 wf nf cf kf fw mx th fr) := hD
      refine zn_if_eq hx hb (by decide) dX1_load_18 rfl (fun hc => absurd hc (by decide)) (fun _ => ?_)
      by_cases hz : zr z 0 500
      · obtain ⟨b, hb0, hb9, rfl⟩ := hz
        refine lv_iload_n hx hb dX1_load_21 rfl (lv_at hl 3 rfl) ?_
        refine lv_iconst (v := nI 0) hx hb dX1_load_22 (by decide +kernel) ?_
        refine lv_sipush (v := nI 500) hx hb dX1_load_23 (by decide +kernel) ?_
        refine zz_callSi (As := [.int (nI b), .int (nI 0), .int (nI 500)]) (rest := [.ref g]) F hK hP hD hS hA (c1_in_ok l D tys _ _ b 0 500 hb0 hb9 (by decide)) (va_cwS 3 hts gX1_load_X1_in_ rfl rfl rfl (by decide +kernel) ⟨Nat.le_of_ble_eq_true rfl, Nat.le_of_ble_eq_true rfl⟩) rfl hl.1 rfl (Nat.le_of_ble_eq_true rfl) dX1_load_26 ⟨Nat.le_of_ble_eq_true rfl, Nat.le_of_ble_eq_true rfl⟩ (fun rr _ H locs er hP hD hS => ?_)
        try dsimp only at er
        subst er
        have hP : va_P D vwCl (mdW cI cZ g g1 g2 g3 g4 wf nf cf kf fw mx th fr) H := hP
        have hD : va_D A (mdW cI cZ g g1 g2 g3 g4 wf nf cf kf fw mx th fr) := hD
        refine zn_if_eq hx hb (by decide) dX1_load_29 rfl (fun hc => absurd hc (by decide)) (fun _ => ?_)
        refine lv_iconst (v := nI 0) hx hb dX1_load_32 (by decide +kernel) ?_
        refine lv_goto hx hb dX1_load_33 rfl ?_
        refine va_put (D := D) (ci := 1) (v := .int (nI 0)) (ty := .int) (C := RX1) (T := TX1) (N := 7) hx hb hts (inX1_load) tyX1 tyX1_ok nmX1 hown hK hP hD hS 0 rfl rfl 6 (by decide) (hts (.fieldLink RX1 23 "NoteMixModel" "thrown" "I") (by decide +kernel)) (fun _ h9 => h9) rfl (by decide +kernel) rfl rfl (Nat.le_of_ble_eq_true rfl) dX1_load_37 (fun H locs hP hD hS => ?_)
        have hP : va_P D vwCl (mdW cI cZ g g1 g2 g3 g4 wf nf cf kf fw mx (nI 0) fr) H := hP
        have hD : va_D A (mdW cI cZ g g1 g2 g3 g4 wf nf cf kf fw mx (nI 0) fr) := hD
        refine lv_aload_n hx hb dX1_load_40 rfl (lv_at hl 0 rfl) ?_
        refine va_get (D := D) (ci := 1) (v := .int (nI 0)) (C := RX1) (T := TX1) (N := 7) hx hb hts (inX1_load) hown hK hP 0 rfl rfl 6 (by decide) (hts (.fieldLink RX1 23 "NoteMixModel" "thrown" "I") (by decide +kernel)) (fun _ h9 => h9) rfl dX1_load_41 ?_
        refine zn_if_le hx hb (by decide) dX1_load_44 rfl (fun _ => ?_) (fun hc => absurd hc (by decide))
        refine lv_aload_n hx hb dX1_load_48 rfl (lv_at hl 0 rfl) ?_
        refine va_get (D := D) (ci := 1) (v := .ref g1) (C := RX1) (T := TX1) (N := 7) hx hb hts (inX1_load) hown hK hP 0 rfl rfl 0 (by decide) (hts (.fieldLink RX1 7 "NoteMixModel" "worth" "[I") (by decide +kernel)) (fun _ h9 => h9) rfl dX1_load_49 ?_
        refine lv_iload_n hx hb dX1_load_52 rfl (lv_at hl 1 rfl) ?_
        refine lv_iload_n hx hb dX1_load_53 rfl (lv_at hl 2 rfl) ?_
        refine zn_iast (k := c) hx hb hK hP hD hS 1 _ rfl hI (by omega) (by decide) dX1_load_54 (fun H locs wf1 wf1e wf1n hP hD hS => ?_)
        have hP : va_P D vwCl (mdW cI cZ g g1 g2 g3 g4 wf1 nf cf kf fw mx (nI 0) fr) H := hP
        have hD : va_D A (mdW cI cZ g g1 g2 g3 g4 wf1 nf cf kf fw mx (nI 0) fr) := hD
        refine lv_aload_n hx hb dX1_load_55 rfl (lv_at hl 0 rfl) ?_
        refine va_get (D := D) (ci := 1) (v := .ref g2) (C := RX1) (T := TX1) (N := 7) hx hb hts (inX1_load) hown hK hP 0 rfl rfl 1 (by decide) (hts (.fieldLink RX1 13 "NoteMixModel" "notes" "[I") (by decide +kernel)) (fun _ h9 => h9) rfl dX1_load_56 ?_
        refine lv_iload_n hx hb dX1_load_59 rfl (lv_at hl 1 rfl) ?_
        refine lv_iload_n hx hb dX1_load_60 rfl (lv_at hl 3 rfl) ?_
        refine zn_iast (k := c) hx hb hK hP hD hS 2 _ rfl hI (by omega) (by decide) dX1_load_61 (fun H locs nf1 nf1e nf1n hP hD hS => ?_)
        have hP : va_P D vwCl (mdW cI cZ g g1 g2 g3 g4 wf1 nf1 cf kf fw mx (nI 0) fr) H := hP
        have hD : va_D A (mdW cI cZ g g1 g2 g3 g4 wf1 nf1 cf kf fw mx (nI 0) fr) := hD
        refine zz_vret F hr hlocks hK hS dX1_load_62 (by decide) (by decide) (wf1, nf1, nI 0) (Or.inl ⟨c, a, b, by omega, ha0, ha, hb9, rfl, rfl, rfl, rfl, fun j hj => ?_, fun j hj => ?_, fun j hj => ?_⟩) hP hD
        · by_cases e9 : j = c
          · subst e9
            show wf1 j = nI (if j = j then _ else _)
            rw [if_pos rfl]
            exact wf1e
          · show wf1 j = nI (if j = c then _ else _)
            rw [if_neg e9, wf1n j e9]
            exact ok.1 j hj
        · by_cases e9 : j = c
          · subst e9
            show nf1 j = nI (if j = j then _ else _)
            rw [if_pos rfl]
            exact nf1e
          · show nf1 j = nI (if j = c then _ else _)
            rw [if_neg e9, nf1n j e9]
            exact ok.2.1 j hj
        · obtain ⟨k1, k2, k3⟩ := ok.2.2 j hj
          by_cases e9 : j = c
          · simp only [if_pos e9]
            omega
          · simp only [if_neg e9]
            omega
      · refine lv_iload_n hx hb dX1_load_21 rfl (lv_at hl 3 rfl) ?_
        refine lv_iconst (v := nI 0) hx hb dX1_load_22 (by decide +kernel) ?_
        refine lv_sipush (v := nI 500) hx hb dX1_load_23 (by decide +kernel) ?_
        refine zz_callSi (As := [.int z, .int (nI 0), .int (nI 500)]) (rest := [.ref g]) F hK hP hD hS hA (c1_in_bad l D tys _ _ z 0 500 hz (by decide) (by decide)) (va_cwS 3 hts gX1_load_X1_in_ rfl rfl rfl (by decide +kernel) ⟨Nat.le_of_ble_eq_true rfl, Nat.le_of_ble_eq_true rfl⟩) rfl hl.1 rfl (Nat.le_of_ble_eq_true rfl) dX1_load_26 ⟨Nat.le_of_ble_eq_true rfl, Nat.le_of_ble_eq_true rfl⟩ (fun rr _ H locs er hP hD hS => ?_)
        try dsimp only at er
        subst er
        have hP : va_P D vwCl (mdW cI cZ g g1 g2 g3 g4 wf nf cf kf fw mx th fr) H := hP
        have hD : va_D A (mdW cI cZ g g1 g2 g3 g4 wf nf cf kf fw mx th fr) := hD
        refine zn_if_eq hx hb (by decide) dX1_load_29 rfl (fun _ => ?_) (fun hc => absurd hc (by decide))
        refine lv_iconst (v := nI 1) hx hb dX1_load_36 (by decide +kernel) ?_
        refine va_put (D := D) (ci := 1) (v := .int (nI 1)) (ty := .int) (C := RX1) (T := TX1) (N := 7) hx hb hts (inX1_load) tyX1 tyX1_ok nmX1 hown hK hP hD hS 0 rfl rfl 6 (by decide) (hts (.fieldLink RX1 23 "NoteMixModel" "thrown" "I") (by decide +kernel)) (fun _ h9 => h9) rfl (by decide +kernel) rfl rfl (Nat.le_of_ble_eq_true rfl) dX1_load_37 (fun H locs hP hD hS => ?_)
        have hP : va_P D vwCl (mdW cI cZ g g1 g2 g3 g4 wf nf cf kf fw mx (nI 1) fr) H := hP
        have hD : va_D A (mdW cI cZ g g1 g2 g3 g4 wf nf cf kf fw mx (nI 1) fr) := hD
        refine lv_aload_n hx hb dX1_load_40 rfl (lv_at hl 0 rfl) ?_
        refine va_get (D := D) (ci := 1) (v := .int (nI 1)) (C := RX1) (T := TX1) (N := 7) hx hb hts (inX1_load) hown hK hP 0 rfl rfl 6 (by decide) (hts (.fieldLink RX1 23 "NoteMixModel" "thrown" "I") (by decide +kernel)) (fun _ h9 => h9) rfl dX1_load_41 ?_
        refine zn_if_le hx hb (by decide) dX1_load_44 rfl (fun hc => absurd hc (by decide)) (fun _ => ?_)
        exact zz_vret F hr hlocks hK hS dX1_load_47 (by decide) (by decide) (wf, nf, nI 1) (Or.inr ⟨(fun q => hz q.2.2), rfl, rfl, rfl⟩) hP hD
    · refine lv_iload_n hx hb dX1_load_10 rfl (lv_at hl 2 rfl) ?_
      refine lv_iconst (v := nI 1) hx hb dX1_load_11 (by decide +kernel) ?_
      refine lv_sipush (v := nI 500) hx hb dX1_load_12 (by decide +kernel) ?_
      refine zz_callSi (As := [.int y, .int (nI 1), .int (nI 500)]) (rest := [.ref g]) F hK hP hD hS hA (c1_in_bad l D tys _ _ y 1 500 hz (by decide) (by decide)) (va_cwS 3 hts gX1_load_X1_in_ rfl rfl rfl (by decide +kernel) ⟨Nat.le_of_ble_eq_true rfl, Nat.le_of_ble_eq_true rfl⟩) rfl hl.1 rfl (Nat.le_of_ble_eq_true rfl) dX1_load_15 ⟨Nat.le_of_ble_eq_true rfl, Nat.le_of_ble_eq_true rfl⟩ (fun rr _ H locs er hP hD hS => ?_)
      try dsimp only at er
      subst er
      have hP : va_P D vwCl (mdW cI cZ g g1 g2 g3 g4 wf nf cf kf fw mx th fr) H := hP
      have hD : va_D A (mdW cI cZ g g1 g2 g3 g4 wf nf cf kf fw mx th fr) := hD
      refine zn_if_eq hx hb (by decide) dX1_load_18 rfl (fun _ => ?_) (fun hc => absurd hc (by decide))
      refine lv_iconst (v := nI 1) hx hb dX1_load_36 (by decide +kernel) ?_
      refine va_put (D := D) (ci := 1) (v := .int (nI 1)) (ty := .int) (C := RX1) (T := TX1) (N := 7) hx hb hts (inX1_load) tyX1 tyX1_ok nmX1 hown hK hP hD hS 0 rfl rfl 6 (by decide) (hts (.fieldLink RX1 23 "NoteMixModel" "thrown" "I") (by decide +kernel)) (fun _ h9 => h9) rfl (by decide +kernel) rfl rfl (Nat.le_of_ble_eq_true rfl) dX1_load_37 (fun H locs hP hD hS => ?_)
      have hP : va_P D vwCl (mdW cI cZ g g1 g2 g3 g4 wf nf cf kf fw mx (nI 1) fr) H := hP
      have hD : va_D A (mdW cI cZ g g1 g2 g3 g4 wf nf cf kf fw mx (nI 1) fr) := hD
      refine lv_aload_n hx hb dX1_load_40 rfl (lv_at hl 0 rfl) ?_
      refine va_get (D := D) (ci := 1) (v := .int (nI 1)) (C := RX1) (T := TX1) (N := 7) hx hb hts (inX1_load) hown hK hP 0 rfl rfl 6 (by decide) (hts (.fieldLink RX1 23 "NoteMixModel" "thrown" "I") (by decide +kernel)) (fun _ h9 => h9) rfl dX1_load_41 ?_
      refine zn_if_le hx hb (by decide) dX1_load_44 rfl (fun hc => absurd hc (by decide)) (fun _ => ?_)
      exact zz_vret F hr hlocks hK hS dX1_load_47 (by decide) (by decide) (wf, nf, nI 1) (Or.inr ⟨(fun q => hz q.2.1), rfl, rfl, rfl⟩) hP hD
  · refine lv_aload_n hx hb dX1_load_0 rfl (lv_at hl 0 rfl) ?_
    refine lv_iload_n hx hb dX1_load_1 rfl (lv_at hl 1 rfl) ?_
    refine lv_iconst (v := nI 0) hx hb dX1_load_2 (by decide +kernel) ?_
    refine lv_iconst (v := nI 3) hx hb dX1_load_3 (by decide +kernel) ?_
    refine zz_callSi (As := [.int x, .int (nI 0), .int (nI 3)]) (rest := [.ref g]) F hK hP hD hS hA (c1_in_bad l D tys _ _ x 0 3 hz (by decide) (by decide)) (va_cwS 3 hts gX1_load_X1_in_ rfl rfl rfl (by decide +kernel) ⟨Nat.le_of_ble_eq_true rfl, Nat.le_of_ble_eq_true rfl⟩) rfl hl.1 rfl (Nat.le_of_ble_eq_true rfl) dX1_load_4 ⟨Nat.le_of_ble_eq_true rfl, Nat.le_of_ble_eq_true rfl⟩ (fun rr _ H locs er hP hD hS => ?_)
    try dsimp only at er
    subst er
    have hP : va_P D vwCl (mdW cI cZ g g1 g2 g3 g4 wf nf cf kf fw mx th fr) H := hP
    have hD : va_D A (mdW cI cZ g g1 g2 g3 g4 wf nf cf kf fw mx th fr) := hD
    refine zn_if_eq hx hb (by decide) dX1_load_7 rfl (fun _ => ?_) (fun hc => absurd hc (by decide))
    refine lv_iconst (v := nI 1) hx hb dX1_load_36 (by decide +kernel) ?_
    refine va_put (D := D) (ci := 1) (v := .int (nI 1)) (ty := .int) (C := RX1) (T := TX1) (N := 7) hx hb hts (inX1_load) tyX1 tyX1_ok nmX1 hown hK hP hD hS 0 rfl rfl 6 (by decide) (hts (.fieldLink RX1 23 "NoteMixModel" "thrown" "I") (by decide +kernel)) (fun _ h9 => h9) rfl (by decide +kernel) rfl rfl (Nat.le_of_ble_eq_true rfl) dX1_load_37 (fun H locs hP hD hS => ?_)
    have hP : va_P D vwCl (mdW cI cZ g g1 g2 g3 g4 wf nf cf kf fw mx (nI 1) fr) H := hP
    have hD : va_D A (mdW cI cZ g g1 g2 g3 g4 wf nf cf kf fw mx (nI 1) fr) := hD
    refine lv_aload_n hx hb dX1_load_40 rfl (lv_at hl 0 rfl) ?_
    refine va_get (D := D) (ci := 1) (v := .int (nI 1)) (C := RX1) (T := TX1) (N := 7) hx hb hts (inX1_load) hown hK hP 0 rfl rfl 6 (by decide) (hts (.fieldLink RX1 23 "NoteMixModel" "thrown" "I") (by decide +kernel)) (fun _ h9 => h9) rfl dX1_load_41 ?_
    refine zn_if_le hx hb (by decide) dX1_load_44 rfl (fun hc => absurd hc (by decide)) (fun _ => ?_)
    exact zz_vret F hr hlocks hK hS dX1_load_47 (by decide) (by decide) (wf, nf, nI 1) (Or.inr ⟨(fun q => hz q.1), rfl, rfl, rfl⟩) hP hD
