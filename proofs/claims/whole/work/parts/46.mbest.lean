set_option maxRecDepth 100000 in
set_option maxHeartbeats 4000000 in
theorem c1_best (l : Launch) (D : va_G) (tys : List (ClassId × FieldType)) (cI cZ : ClassId) (hI : tys[0]? = some (cI, .int)) (hZ : tys[1]? = some (cZ, .boolean)) (g g1 g2 g3 g4 : Nat) (fr : va_W) (sz : Nat) (wf nf cf kf : Nat → Int32) (fw mx th : Int32) (w n : Nat → Nat) (ok : nmOk wf nf w n) (x : Int32) : Met l yX1_best wsX1_best ({ frames := 3, cells := 0, slots := 0, locals := 90 }) (va_Pc [.ref g, .int x] (zz_pre D tys (mdW cI cZ g g1 g2 g3 g4 wf nf cf kf fw mx th fr) sz)) (va_Qi (fun r (u : (Nat → Int32) × Int32 × Int32 × Int32) => (u.2.2.2 = nI 0 ∧ ∃ v : Nat, v ≤ 2000 ∧ x = nI v ∧ ∃ bm : Nat → Nat, mx_B w n v (bm 0) (bm 1) (bm 2) (bm 3) ∧ r = nI (bm 0 + bm 1 + bm 2 + bm 3)) ∨ (u.2.2.2 = nI 1 ∧ ¬ zr x 0 2000) ∨ (u.2.2.2 = nI 2 ∧ ∃ v : Nat, v ≤ 2000 ∧ x = nI v ∧ ¬ mx_has w n v)) (zz_B D tys (va_A (mdW cI cZ g g1 g2 g3 g4 wf nf cf kf fw mx th fr) sz) (fun u => mdW cI cZ g g1 g2 g3 g4 wf nf u.1 kf u.2.1 u.2.2.1 u.2.2.2 fr)) (va_A (mdW cI cZ g g1 g2 g3 g4 wf nf cf kf fw mx th fr) sz)) 0 0 (va_A (mdW cI cZ g g1 g2 g3 g4 wf nf cf kf fw mx th fr) sz) := by
  refine zz_headI (cc := cX1_best) (by decide) rfl (Nat.le_of_ble_eq_true rfl) ?_
  intro p e s m below meth cd A ls F hr hlocks hP hK hD hA hS hl
  obtain ⟨hx, hb, hml, hown, hts⟩ := id F
  have hl : lv_has ls 2 [(0, .ref g), (1, .int x)] := hl
  refine lv_aload_n hx hb dX1_best_0 rfl (lv_at hl 0 rfl) ?_
  refine lv_iload_n hx hb dX1_best_1 rfl (lv_at hl 1 rfl) ?_
  refine zz_callVi (As := [.int x]) (rest := []) F hK hP hD hS hA (c1_isBest l D tys cI cZ hI hZ g g1 g2 g3 g4 fr _ wf nf cf kf fw mx th w n ok x) (cwV 1 hts gX1_best_X1_isBest rfl rfl rfl (by decide +kernel) ⟨Nat.le_of_ble_eq_true rfl, Nat.le_of_ble_eq_true rfl⟩) 0 rfl rfl rfl hl.1 rfl (Nat.le_of_ble_eq_true rfl) dX1_best_2 ⟨Nat.le_of_ble_eq_true rfl, Nat.le_of_ble_eq_true rfl⟩ (fun rr u H locs hu hP hD hS => ?_)
  obtain ⟨cf, fw, mx, th⟩ := u
  dsimp only at hu
  have hP : va_P D vwCl (mdW cI cZ g g1 g2 g3 g4 wf nf cf kf fw mx th fr) H := hP
  have hD : va_D A (mdW cI cZ g g1 g2 g3 g4 wf nf cf kf fw mx th fr) := hD
  rcases hu with ⟨rfl, rfl, v, hv, hx9, bm, hB, e1, hbm⟩ | ⟨rfl, rfl, hz⟩ | ⟨rfl, rfl, v, hv, hx9, hno⟩
  · refine zn_if_eq hx hb (by decide) dX1_best_5 rfl (fun hc => absurd hc (by decide)) (fun _ => ?_)
    refine lv_aload_n hx hb dX1_best_8 rfl (lv_at hl 0 rfl) ?_
    refine va_get (D := D) (ci := 1) (v := .int fw) (C := RX1) (T := TX1) (N := 7) hx hb hts (inX1_best) hown hK hP 0 rfl rfl 4 (by decide) (hts (.fieldLink RX1 34 "NoteMixModel" "fewest" "I") (by decide +kernel)) (fun _ h9 => h9) rfl dX1_best_9 ?_
    refine lv_goto hx hb dX1_best_12 rfl ?_
    exact zz_iret F hr hlocks hK hS dX1_best_16 (by decide) (by decide) (cf, fw, mx, nI 0) (Or.inl ⟨rfl, v, hv, hx9, bm, hB, e1⟩) hP hD
  · refine zn_if_eq hx hb (by decide) dX1_best_5 rfl (fun _ => ?_) (fun hc => absurd hc (by decide))
    refine lv_iconst (v := nI 0) hx hb dX1_best_15 (by decide +kernel) ?_
    exact zz_iret F hr hlocks hK hS dX1_best_16 (by decide) (by decide) (cf, fw, mx, nI 1) (Or.inr (Or.inl ⟨rfl, hz⟩)) hP hD
  · refine zn_if_eq hx hb (by decide) dX1_best_5 rfl (fun _ => ?_) (fun hc => absurd hc (by decide))
    refine lv_iconst (v := nI 0) hx hb dX1_best_15 (by decide +kernel) ?_
    exact zz_iret F hr hlocks hK hS dX1_best_16 (by decide) (by decide) (cf, fw, mx, nI 2) (Or.inr (Or.inr ⟨rfl, v, hv, hx9, hno⟩)) hP hD
