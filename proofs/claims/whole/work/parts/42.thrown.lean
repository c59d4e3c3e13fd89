set_option maxRecDepth 100000 in
set_option maxHeartbeats 4000000 in
theorem c1_thrown (l : Launch) (D : va_G) (tys : List (ClassId × FieldType)) (cI cZ : ClassId) (hI : tys[0]? = some (cI, .int)) (hZ : tys[1]? = some (cZ, .boolean)) (g g1 g2 g3 g4 : Nat) (fr : va_W) (sz : Nat) (wf nf cf kf : Nat → Int32) (fw mx th : Int32) (w n : Nat → Nat) (ok : nmOk wf nf w n)  : Met l yX1_thrown wsX1_thrown ({ frames := 0, cells := 0, slots := 0, locals := 0 }) (va_Pc [.ref g] (zz_pre D tys (mdW cI cZ g g1 g2 g3 g4 wf nf cf kf fw mx th fr) sz)) (va_Qi (fun r (u : Unit) => r = th) (zz_B D tys (va_A (mdW cI cZ g g1 g2 g3 g4 wf nf cf kf fw mx th fr) sz) (fun u => mdW cI cZ g g1 g2 g3 g4 wf nf cf kf fw mx th fr)) (va_A (mdW cI cZ g g1 g2 g3 g4 wf nf cf kf fw mx th fr) sz)) 0 0 (va_A (mdW cI cZ g g1 g2 g3 g4 wf nf cf kf fw mx th fr) sz) := by
  refine zz_headI (cc := cX1_thrown) (by decide) rfl (Nat.le_of_ble_eq_true rfl) ?_
  intro p e s m below meth cd A ls F hr hlocks hP hK hD hA hS hl
  obtain ⟨hx, hb, hml, hown, hts⟩ := id F
  have hl : lv_has ls 1 [(0, .ref g)] := hl
  refine lv_aload_n hx hb dX1_thrown_0 rfl (lv_at hl 0 rfl) ?_
  refine va_get (D := D) (ci := 1) (v := .int th) (C := RX1) (T := TX1) (N := 7) hx hb hts (inX1_thrown) hown hK hP 0 rfl rfl 6 (by decide) (hts (.fieldLink RX1 23 "NoteMixModel" "thrown" "I") (by decide +kernel)) (fun _ h9 => h9) rfl dX1_thrown_1 ?_
  exact zz_iret F hr hlocks hK hS dX1_thrown_4 (by decide) (by decide) () rfl hP hD
