set_option maxRecDepth 100000 in
set_option maxHeartbeats 4000000 in
theorem c1_next (l : Launch) (D : va_G) (tys : List (ClassId × FieldType)) (cI cZ : ClassId) (hI : tys[0]? = some (cI, .int)) (hZ : tys[1]? = some (cZ, .boolean)) (g g1 g2 g3 g4 : Nat) (fr : va_W) (sz : Nat) (wf nf cf kf : Nat → Int32) (fw mx th : Int32) (w n : Nat → Nat) (ok : nmOk wf nf w n) (x : Int32) : Met l yX1_next wsX1_next ({ frames := 3, cells := 0, slots := 0, locals := 90 }) (va_Pc [.ref g, .int x] (zz_pre D tys (mdW cI cZ g g1 g2 g3 g4 wf nf cf kf fw mx th fr) sz)) (va_Qi (fun r (u : (Nat → Int32) × Int32) => (u.2 = nI 0 ∧ ∃ v : Nat, v ≤ 2000 ∧ x = nI v ∧ mx_N w n v r) ∨ (u.2 = nI 1 ∧ ¬ zr x 0 2000)) (zz_B D tys (va_A (mdW cI cZ g g1 g2 g3 g4 wf nf cf kf fw mx th fr) sz) (fun u => mdW cI cZ g g1 g2 g3 g4 wf nf cf u.1 fw mx u.2 fr)) (va_A (mdW cI cZ g g1 g2 g3 g4 wf nf cf kf fw mx th fr) sz)) 0 0 (va_A (mdW cI cZ g g1 g2 g3 g4 wf nf cf kf fw mx th fr) sz) := by
  refine zz_headI (cc := cX1_next) (by decide) rfl (Nat.le_of_ble_eq_true rfl) ?_
  intro p e s m below meth cd A ls F hr hlocks hP hK hD hA hS hl
  obtain ⟨hx, hb, hml, hown, hts⟩ := id F
  have hl : lv_has ls 3 [(0, .ref g), (1, .int x)] := hl
  by_cases hz : zr x 0 2000
  · obtain ⟨v, hv0, hv, rfl⟩ := hz
    refine lv_aload_n hx hb dX1_next_0 rfl (lv_at hl 0 rfl) ?_
    refine lv_iload_n hx hb dX1_next_1 rfl (lv_at hl 1 rfl) ?_
    refine lv_iconst (v := nI 0) hx hb dX1_next_2 (by decide +kernel) ?_
    refine lv_sipush (v := nI 2000) hx hb dX1_next_3 (by decide +kernel) ?_
    refine zz_callSi (As := [.int (nI v), .int (nI 0), .int (nI 2000)]) (rest := [.ref g]) F hK hP hD hS hA (c1_in_ok l D tys _ _ v 0 2000 hv0 hv (by decide)) (va_cwS 3 hts gX1_next_X1_in_ rfl rfl rfl (by decide +kernel) ⟨Nat.le_of_ble_eq_true rfl, Nat.le_of_ble_eq_true rfl⟩) rfl hl.1 rfl (Nat.le_of_ble_eq_true rfl) dX1_next_6 ⟨Nat.le_of_ble_eq_true rfl, Nat.le_of_ble_eq_true rfl⟩ (fun rr _ H locs er hP hD hS => ?_)
    try dsimp only at er
    subst er
    have hP : va_P D vwCl (mdW cI cZ g g1 g2 g3 g4 wf nf cf kf fw mx th fr) H := hP
    have hD : va_D A (mdW cI cZ g g1 g2 g3 g4 wf nf cf kf fw mx th fr) := hD
    refine zn_if_eq hx hb (by decide) dX1_next_9 rfl (fun hc => absurd hc (by decide)) (fun _ => ?_)
    refine lv_iconst (v := nI 0) hx hb dX1_next_12 (by decide +kernel) ?_
    refine lv_goto hx hb dX1_next_13 rfl ?_
    refine va_put (D := D) (ci := 1) (v := .int (nI 0)) (ty := .int) (C := RX1) (T := TX1) (N := 7) hx hb hts (inX1_next) tyX1 tyX1_ok nmX1 hown hK hP hD hS 0 rfl rfl 6 (by decide) (hts (.fieldLink RX1 23 "NoteMixModel" "thrown" "I") (by decide +kernel)) (fun _ h9 => h9) rfl (by decide +kernel) rfl rfl (Nat.le_of_ble_eq_true rfl) dX1_next_17 (fun H locs hP hD hS => ?_)
    have hP : va_P D vwCl (mdW cI cZ g g1 g2 g3 g4 wf nf cf kf fw mx (nI 0) fr) H := hP
    have hD : va_D A (mdW cI cZ g g1 g2 g3 g4 wf nf cf kf fw mx (nI 0) fr) := hD
    refine lv_aload_n hx hb dX1_next_20 rfl (lv_at hl 0 rfl) ?_
    refine va_get (D := D) (ci := 1) (v := .int (nI 0)) (C := RX1) (T := TX1) (N := 7) hx hb hts (inX1_next) hown hK hP 0 rfl rfl 6 (by decide) (hts (.fieldLink RX1 23 "NoteMixModel" "thrown" "I") (by decide +kernel)) (fun _ h9 => h9) rfl dX1_next_21 ?_
    refine zn_if_le hx hb (by decide) dX1_next_24 rfl (fun _ => ?_) (fun hc => absurd hc (by decide))
    refine lv_aload_n hx hb dX1_next_29 rfl (lv_at hl 0 rfl) ?_
    refine zz_callVv (As := []) (rest := []) F hK hP hD hS hA (c1_all l D tys cI cZ hI hZ g g1 g2 g3 g4 fr _ wf nf cf kf fw mx (nI 0) w n ok) (cwV 0 hts gX1_next_X1_all rfl rfl rfl (by decide +kernel) ⟨Nat.le_of_ble_eq_true rfl, Nat.le_of_ble_eq_true rfl⟩) 0 rfl rfl rfl hl.1 rfl (Nat.le_of_ble_eq_true rfl) dX1_next_30 ⟨Nat.le_of_ble_eq_true rfl, Nat.le_of_ble_eq_true rfl⟩ (fun kf H locs hk hP hD hS => ?_)
    have hP : va_P D vwCl (mdW cI cZ g g1 g2 g3 g4 wf nf cf kf fw mx (nI 0) fr) H := hP
    have hD : va_D A (mdW cI cZ g g1 g2 g3 g4 wf nf cf kf fw mx (nI 0) fr) := hD
    refine lv_iload_n hx hb dX1_next_33 rfl (lv_at hl 1 rfl) ?_
    refine lv_istore_n (lv' := [(2, .int (nI v)), (0, .ref g), (1, .int (nI v))]) hx hb dX1_next_34 rfl hl (by decide) rfl (fun ls hl => ?_)
    have hl : lv_has ls 3 [(2, .int (nI v)), (1, .int (nI v)), (0, .ref g)] := lv_sub hl [0, 2, 1] rfl
    refine zz_loop (fun ls H locs (u : Nat) => lv_has ls 3 [(2, .int (nI u)), (1, .int (nI v)), (0, .ref g)] ∧ va_P D vwCl (mdW cI cZ g g1 g2 g3 g4 wf nf cf kf fw mx (nI 0) fr) H ∧ va_D A (mdW cI cZ g g1 g2 g3 g4 wf nf cf kf fw mx (nI 0) fr) ∧ va_S A s.heap H locs ∧ u ≤ 2001 ∧ v ≤ u ∧ ∀ j, v ≤ j → j < u → ¬ mx_has w n j) (fun u => 2001 - u) ?_ v ⟨hl, hP, hD, hS, by omega, Nat.le_refl _, fun j h1 h2 => absurd h1 (by omega)⟩
    rintro ls H locs a ⟨hl, hP, hD, hS, ha, hva, hno⟩ kk
    refine lv_iload_n hx hb dX1_next_35 rfl (lv_at hl 0 rfl) ?_
    refine lv_sipush (v := nI 2000) hx hb dX1_next_36 (by decide +kernel) ?_
    refine zn_gt hx hb (by omega) (by omega) dX1_next_39 rfl (fun hc => ?_) (fun hc => ?_)
    · refine lv_iconst (v := -1) hx hb dX1_next_59 (by decide +kernel) ?_
      exact zz_iret F hr hlocks hK hS dX1_next_60 (by decide) (by decide) (kf, nI 0) (Or.inl ⟨rfl, v, hv, rfl, Or.inr ⟨fun j h1 h2 => hno j h1 (by omega), rfl⟩⟩) hP hD
    · rcases hk a hc with ⟨e1, hh⟩ | ⟨e1, hh⟩
      · refine lv_aload_n hx hb dX1_next_42 rfl (lv_at hl 2 rfl) ?_
        refine va_get (D := D) (ci := 1) (v := .ref g4) (C := RX1) (T := TX1) (N := 7) hx hb hts (inX1_next) hown hK hP 0 rfl rfl 3 (by decide) (hts (.fieldLink RX1 19 "NoteMixModel" "can" "[Z") (by decide +kernel)) (fun _ h9 => h9) rfl dX1_next_43 ?_
        refine lv_iload_n hx hb dX1_next_46 rfl (lv_at hl 0 rfl) ?_
        refine zn_zald (k := a) hx hb hK hP 4 _ rfl hZ (by omega) (by decide) e1 dX1_next_47 ?_
        refine zn_if_eq hx hb (by decide) dX1_next_48 rfl (fun hc => absurd hc (by decide)) (fun _ => ?_)
        refine lv_iload_n hx hb dX1_next_51 rfl (lv_at hl 0 rfl) ?_
        exact zz_iret F hr hlocks hK hS dX1_next_52 (by decide) (by decide) (kf, nI 0) (Or.inl ⟨rfl, v, hv, rfl, Or.inl ⟨a, hva, hc, hh, hno, rfl⟩⟩) hP hD
      · refine lv_aload_n hx hb dX1_next_42 rfl (lv_at hl 2 rfl) ?_
        refine va_get (D := D) (ci := 1) (v := .ref g4) (C := RX1) (T := TX1) (N := 7) hx hb hts (inX1_next) hown hK hP 0 rfl rfl 3 (by decide) (hts (.fieldLink RX1 19 "NoteMixModel" "can" "[Z") (by decide +kernel)) (fun _ h9 => h9) rfl dX1_next_43 ?_
        refine lv_iload_n hx hb dX1_next_46 rfl (lv_at hl 0 rfl) ?_
        refine zn_zald (k := a) hx hb hK hP 4 _ rfl hZ (by omega) (by decide) e1 dX1_next_47 ?_
        refine zn_if_eq hx hb (by decide) dX1_next_48 rfl (fun _ => ?_) (fun hc => absurd hc (by decide))
        refine lv_iinc (k := 0) (lv' := [(2, .int (nI (a + 1))), (1, .int (nI v)), (0, .ref g)]) hx hb dX1_next_53 hl rfl (zz_i1 _) (by decide) rfl (fun ls hl => ?_)
        refine lv_goto hx hb dX1_next_56 rfl ?_
        have hl : lv_has ls 3 [(2, .int (nI (a + 1))), (1, .int (nI v)), (0, .ref g)] := lv_sub hl [0, 1, 2] rfl
        refine kk _ _ _ (a + 1) ⟨hl, hP, hD, hS, by omega, by omega, fun j h1 h2 => ?_⟩ (by omega)
        by_cases e9 : j = a
        · subst e9
          exact hh
        · exact hno j h1 (by omega)
  · refine lv_aload_n hx hb dX1_next_0 rfl (lv_at hl 0 rfl) ?_
    refine lv_iload_n hx hb dX1_next_1 rfl (lv_at hl 1 rfl) ?_
    refine lv_iconst (v := nI 0) hx hb dX1_next_2 (by decide +kernel) ?_
    refine lv_sipush (v := nI 2000) hx hb dX1_next_3 (by decide +kernel) ?_
    refine zz_callSi (As := [.int x, .int (nI 0), .int (nI 2000)]) (rest := [.ref g]) F hK hP hD hS hA (c1_in_bad l D tys _ _ x 0 2000 hz (by decide) (by decide)) (va_cwS 3 hts gX1_next_X1_in_ rfl rfl rfl (by decide +kernel) ⟨Nat.le_of_ble_eq_true rfl, Nat.le_of_ble_eq_true rfl⟩) rfl hl.1 rfl (Nat.le_of_ble_eq_true rfl) dX1_next_6 ⟨Nat.le_of_ble_eq_true rfl, Nat.le_of_ble_eq_true rfl⟩ (fun rr _ H locs er hP hD hS => ?_)
    try dsimp only at er
    subst er
    have hP : va_P D vwCl (mdW cI cZ g g1 g2 g3 g4 wf nf cf kf fw mx th fr) H := hP
    have hD : va_D A (mdW cI cZ g g1 g2 g3 g4 wf nf cf kf fw mx th fr) := hD
    refine zn_if_eq hx hb (by decide) dX1_next_9 rfl (fun _ => ?_) (fun hc => absurd hc (by decide))
    refine lv_iconst (v := nI 1) hx hb dX1_next_16 (by decide +kernel) ?_
    refine va_put (D := D) (ci := 1) (v := .int (nI 1)) (ty := .int) (C := RX1) (T := TX1) (N := 7) hx hb hts (inX1_next) tyX1 tyX1_ok nmX1 hown hK hP hD hS 0 rfl rfl 6 (by decide) (hts (.fieldLink RX1 23 "NoteMixModel" "thrown" "I") (by decide +kernel)) (fun _ h9 => h9) rfl (by decide +kernel) rfl rfl (Nat.le_of_ble_eq_true rfl) dX1_next_17 (fun H locs hP hD hS => ?_)
    have hP : va_P D vwCl (mdW cI cZ g g1 g2 g3 g4 wf nf cf kf fw mx (nI 1) fr) H := hP
    have hD : va_D A (mdW cI cZ g g1 g2 g3 g4 wf nf cf kf fw mx (nI 1) fr) := hD
    refine lv_aload_n hx hb dX1_next_20 rfl (lv_at hl 0 rfl) ?_
    refine va_get (D := D) (ci := 1) (v := .int (nI 1)) (C := RX1) (T := TX1) (N := 7) hx hb hts (inX1_next) hown hK hP 0 rfl rfl 6 (by decide) (hts (.fieldLink RX1 23 "NoteMixModel" "thrown" "I") (by decide +kernel)) (fun _ h9 => h9) rfl dX1_next_21 ?_
    refine zn_if_le hx hb (by decide) dX1_next_24 rfl (fun hc => absurd hc (by decide)) (fun _ => ?_)
    refine lv_iconst (v := nI 0) hx hb dX1_next_27 (by decide +kernel) ?_
    exact zz_iret F hr hlocks hK hS dX1_next_28 (by decide) (by decide) (kf, nI 1) (Or.inr ⟨rfl, hz⟩) hP hD
