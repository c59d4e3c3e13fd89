set_option maxRecDepth 100000 in
set_option maxHeartbeats 4000000 in
theorem c1_value (l : Launch) (D : va_G) (tys : List (ClassId × FieldType)) (cI cZ : ClassId) (hI : tys[0]? = some (cI, .int)) (hZ : tys[1]? = some (cZ, .boolean)) (g g1 g2 g3 g4 : Nat) (fr : va_W) (sz : Nat) (wf nf cf kf : Nat → Int32) (fw mx th : Int32) (w n : Nat → Nat) (ok : nmOk wf nf w n)  : Met l yX1_value wsX1_value ({ frames := 0, cells := 0, slots := 0, locals := 0 }) (va_Pc [.ref g] (zz_pre D tys (mdW cI cZ g g1 g2 g3 g4 wf nf cf kf fw mx th fr) sz)) (va_Qi (fun r (u : Unit) => r = nI (0 + n 0 * w 0 + n 1 * w 1 + n 2 * w 2 + n 3 * w 3)) (zz_B D tys (va_A (mdW cI cZ g g1 g2 g3 g4 wf nf cf kf fw mx th fr) sz) (fun u => mdW cI cZ g g1 g2 g3 g4 wf nf cf kf fw mx (nI 0) fr)) (va_A (mdW cI cZ g g1 g2 g3 g4 wf nf cf kf fw mx th fr) sz)) 0 0 (va_A (mdW cI cZ g g1 g2 g3 g4 wf nf cf kf fw mx th fr) sz) := by
  refine zz_headI (cc := cX1_value) (by decide) rfl (Nat.le_of_ble_eq_true rfl) ?_
  intro p e s m below meth cd A ls F hr hlocks hP hK hD hA hS hl
  obtain ⟨hx, hb, hml, hown, hts⟩ := id F
  have hl : lv_has ls 3 [(0, .ref g)] := hl
  refine lv_aload_n hx hb dX1_value_0 rfl (lv_at hl 0 rfl) ?_
  refine lv_iconst (v := nI 0) hx hb dX1_value_1 (by decide +kernel) ?_
  refine va_put (D := D) (ci := 1) (v := .int (nI 0)) (ty := .int) (C := RX1) (T := TX1) (N := 7) hx hb hts (inX1_value) tyX1 tyX1_ok nmX1 hown hK hP hD hS 0 rfl rfl 6 (by decide) (hts (.fieldLink RX1 23 "NoteMixModel" "thrown" "I") (by decide +kernel)) (fun _ h9 => h9) rfl (by decide +kernel) rfl rfl (Nat.le_of_ble_eq_true rfl) dX1_value_2 (fun H locs hP hD hS => ?_)
  have hP : va_P D vwCl (mdW cI cZ g g1 g2 g3 g4 wf nf cf kf fw mx (nI 0) fr) H := hP
  have hD : va_D A (mdW cI cZ g g1 g2 g3 g4 wf nf cf kf fw mx (nI 0) fr) := hD
  refine lv_iconst (v := nI 0) hx hb dX1_value_5 (by decide +kernel) ?_
  refine lv_istore_n (lv' := [(1, .int (nI 0)), (0, .ref g)]) hx hb dX1_value_6 rfl hl (by decide) rfl (fun ls hl => ?_)
  refine lv_iconst (v := nI 0) hx hb dX1_value_7 (by decide +kernel) ?_
  refine lv_istore_n (lv' := [(2, .int (nI 0)), (1, .int (nI 0)), (0, .ref g)]) hx hb dX1_value_8 rfl hl (by decide) rfl (fun ls hl => ?_)
  refine lv_iload_n hx hb dX1_value_9 rfl (lv_at hl 0 rfl) ?_
  refine lv_iconst (v := nI 4) hx hb dX1_value_10 (by decide +kernel) ?_
  refine zn_ge hx hb (by decide) (by decide) dX1_value_11 rfl (fun hc => absurd hc (by decide)) (fun _ => ?_)
  refine lv_iload_n hx hb dX1_value_14 rfl (lv_at hl 1 rfl) ?_
  refine lv_aload_n hx hb dX1_value_15 rfl (lv_at hl 2 rfl) ?_
  refine va_get (D := D) (ci := 1) (v := .ref g2) (C := RX1) (T := TX1) (N := 7) hx hb hts (inX1_value) hown hK hP 0 rfl rfl 1 (by decide) (hts (.fieldLink RX1 13 "NoteMixModel" "notes" "[I") (by decide +kernel)) (fun _ h9 => h9) rfl dX1_value_16 ?_
  refine lv_iload_n hx hb dX1_value_19 rfl (lv_at hl 0 rfl) ?_
  refine zn_iald (k := 0) hx hb hK hP 2 _ rfl hI (by decide) (by decide) (ok.2.1 0 (by omega)) dX1_value_20 ?_
  refine lv_aload_n hx hb dX1_value_21 rfl (lv_at hl 2 rfl) ?_
  refine va_get (D := D) (ci := 1) (v := .ref g1) (C := RX1) (T := TX1) (N := 7) hx hb hts (inX1_value) hown hK hP 0 rfl rfl 0 (by decide) (hts (.fieldLink RX1 7 "NoteMixModel" "worth" "[I") (by decide +kernel)) (fun _ h9 => h9) rfl dX1_value_22 ?_
  refine lv_iload_n hx hb dX1_value_25 rfl (lv_at hl 0 rfl) ?_
  refine zn_iald (k := 0) hx hb hK hP 1 _ rfl hI (by decide) (by decide) (ok.1 0 (by omega)) dX1_value_26 ?_
  refine zn_mul hx hb dX1_value_27 ?_
  refine zn_add hx hb dX1_value_28 ?_
  refine lv_istore_n (lv' := [(1, .int (nI (0 + ((n 0) * (w 0))))), (2, .int (nI 0)), (0, .ref g)]) hx hb dX1_value_29 rfl hl (by decide) rfl (fun ls hl => ?_)
  refine lv_iinc (k := 1) (lv' := [(2, .int (nI (0 + 1))), (1, .int (nI (0 + ((n 0) * (w 0))))), (0, .ref g)]) hx hb dX1_value_30 hl rfl (zz_i1 _) (by decide) rfl (fun ls hl => ?_)
  have hl : lv_has ls 3 [(2, .int (nI 1)), (1, .int (nI (0 + ((n 0) * (w 0))))), (0, .ref g)] := hl
  refine lv_goto hx hb dX1_value_33 rfl ?_
  refine lv_iload_n hx hb dX1_value_9 rfl (lv_at hl 0 rfl) ?_
  refine lv_iconst (v := nI 4) hx hb dX1_value_10 (by decide +kernel) ?_
  refine zn_ge hx hb (by decide) (by decide) dX1_value_11 rfl (fun hc => absurd hc (by decide)) (fun _ => ?_)
  refine lv_iload_n hx hb dX1_value_14 rfl (lv_at hl 1 rfl) ?_
  refine lv_aload_n hx hb dX1_value_15 rfl (lv_at hl 2 rfl) ?_
  refine va_get (D := D) (ci := 1) (v := .ref g2) (C := RX1) (T := TX1) (N := 7) hx hb hts (inX1_value) hown hK hP 0 rfl rfl 1 (by decide) (hts (.fieldLink RX1 13 "NoteMixModel" "notes" "[I") (by decide +kernel)) (fun _ h9 => h9) rfl dX1_value_16 ?_
  refine lv_iload_n hx hb dX1_value_19 rfl (lv_at hl 0 rfl) ?_
  refine zn_iald (k := 1) hx hb hK hP 2 _ rfl hI (by decide) (by decide) (ok.2.1 1 (by omega)) dX1_value_20 ?_
  refine lv_aload_n hx hb dX1_value_21 rfl (lv_at hl 2 rfl) ?_
  refine va_get (D := D) (ci := 1) (v := .ref g1) (C := RX1) (T := TX1) (N := 7) hx hb hts (inX1_value) hown hK hP 0 rfl rfl 0 (by decide) (hts (.fieldLink RX1 7 "NoteMixModel" "worth" "[I") (by decide +kernel)) (fun _ h9 => h9) rfl dX1_value_22 ?_
  refine lv_iload_n hx hb dX1_value_25 rfl (lv_at hl 0 rfl) ?_
  refine zn_iald (k := 1) hx hb hK hP 1 _ rfl hI (by decide) (by decide) (ok.1 1 (by omega)) dX1_value_26 ?_
  refine zn_mul hx hb dX1_value_27 ?_
  refine zn_add hx hb dX1_value_28 ?_
  refine lv_istore_n (lv' := [(1, .int (nI ((0 + ((n 0) * (w 0))) + ((n 1) * (w 1))))), (2, .int (nI 1)), (0, .ref g)]) hx hb dX1_value_29 rfl hl (by decide) rfl (fun ls hl => ?_)
  refine lv_iinc (k := 1) (lv' := [(2, .int (nI (1 + 1))), (1, .int (nI ((0 + ((n 0) * (w 0))) + ((n 1) * (w 1))))), (0, .ref g)]) hx hb dX1_value_30 hl rfl (zz_i1 _) (by decide) rfl (fun ls hl => ?_)
  have hl : lv_has ls 3 [(2, .int (nI 2)), (1, .int (nI ((0 + ((n 0) * (w 0))) + ((n 1) * (w 1))))), (0, .ref g)] := hl
  refine lv_goto hx hb dX1_value_33 rfl ?_
  refine lv_iload_n hx hb dX1_value_9 rfl (lv_at hl 0 rfl) ?_
  refine lv_iconst (v := nI 4) hx hb dX1_value_10 (by decide +kernel) ?_
  refine zn_ge hx hb (by decide) (by decide) dX1_value_11 rfl (fun hc => absurd hc (by decide)) (fun _ => ?_)
  refine lv_iload_n hx hb dX1_value_14 rfl (lv_at hl 1 rfl) ?_
  refine lv_aload_n hx hb dX1_value_15 rfl (lv_at hl 2 rfl) ?_
  refine va_get (D := D) (ci := 1) (v := .ref g2) (C := RX1) (T := TX1) (N := 7) hx hb hts (inX1_value) hown hK hP 0 rfl rfl 1 (by decide) (hts (.fieldLink RX1 13 "NoteMixModel" "notes" "[I") (by decide +kernel)) (fun _ h9 => h9) rfl dX1_value_16 ?_
  refine lv_iload_n hx hb dX1_value_19 rfl (lv_at hl 0 rfl) ?_
  refine zn_iald (k := 2) hx hb hK hP 2 _ rfl hI (by decide) (by decide) (ok.2.1 2 (by omega)) dX1_value_20 ?_
  refine lv_aload_n hx hb dX1_value_21 rfl (lv_at hl 2 rfl) ?_
  refine va_get (D := D) (ci := 1) (v := .ref g1) (C := RX1) (T := TX1) (N := 7) hx hb hts (inX1_value) hown hK hP 0 rfl rfl 0 (by decide) (hts (.fieldLink RX1 7 "NoteMixModel" "worth" "[I") (by decide +kernel)) (fun _ h9 => h9) rfl dX1_value_22 ?_
  refine lv_iload_n hx hb dX1_value_25 rfl (lv_at hl 0 rfl) ?_
  refine zn_iald (k := 2) hx hb hK hP 1 _ rfl hI (by decide) (by decide) (ok.1 2 (by omega)) dX1_value_26 ?_
  refine zn_mul hx hb dX1_value_27 ?_
  refine zn_add hx hb dX1_value_28 ?_
  refine lv_istore_n (lv' := [(1, .int (nI (((0 + ((n 0) * (w 0))) + ((n 1) * (w 1))) + ((n 2) * (w 2))))), (2, .int (nI 2)), (0, .ref g)]) hx hb dX1_value_29 rfl hl (by decide) rfl (fun ls hl => ?_)
  refine lv_iinc (k := 1) (lv' := [(2, .int (nI (2 + 1))), (1, .int (nI (((0 + ((n 0) * (w 0))) + ((n 1) * (w 1))) + ((n 2) * (w 2))))), (0, .ref g)]) hx hb dX1_value_30 hl rfl (zz_i1 _) (by decide) rfl (fun ls hl => ?_)
  have hl : lv_has ls 3 [(2, .int (nI 3)), (1, .int (nI (((0 + ((n 0) * (w 0))) + ((n 1) * (w 1))) + ((n 2) * (w 2))))), (0, .ref g)] := hl
  refine lv_goto hx hb dX1_value_33 rfl ?_
  refine lv_iload_n hx hb dX1_value_9 rfl (lv_at hl 0 rfl) ?_
  refine lv_iconst (v := nI 4) hx hb dX1_value_10 (by decide +kernel) ?_
  refine zn_ge hx hb (by decide) (by decide) dX1_value_11 rfl (fun hc => absurd hc (by decide)) (fun _ => ?_)
  refine lv_iload_n hx hb dX1_value_14 rfl (lv_at hl 1 rfl) ?_
  refine lv_aload_n hx hb dX1_value_15 rfl (lv_at hl 2 rfl) ?_
  refine va_get (D := D) (ci := 1) (v := .ref g2) (C := RX1) (T := TX1) (N := 7) hx hb hts (inX1_value) hown hK hP 0 rfl rfl 1 (by decide) (hts (.fieldLink RX1 13 "NoteMixModel" "notes" "[I") (by decide +kernel)) (fun _ h9 => h9) rfl dX1_value_16 ?_
  refine lv_iload_n hx hb dX1_value_19 rfl (lv_at hl 0 rfl) ?_
  refine zn_iald (k := 3) hx hb hK hP 2 _ rfl hI (by decide) (by decide) (ok.2.1 3 (by omega)) dX1_value_20 ?_
  refine lv_aload_n hx hb dX1_value_21 rfl (lv_at hl 2 rfl) ?_
  refine va_get (D := D) (ci := 1) (v := .ref g1) (C := RX1) (T := TX1) (N := 7) hx hb hts (inX1_value) hown hK hP 0 rfl rfl 0 (by decide) (hts (.fieldLink RX1 7 "NoteMixModel" "worth" "[I") (by decide +kernel)) (fun _ h9 => h9) rfl dX1_value_22 ?_
  refine lv_iload_n hx hb dX1_value_25 rfl (lv_at hl 0 rfl) ?_
  refine zn_iald (k := 3) hx hb hK hP 1 _ rfl hI (by decide) (by decide) (ok.1 3 (by omega)) dX1_value_26 ?_
  refine zn_mul hx hb dX1_value_27 ?_
  refine zn_add hx hb dX1_value_28 ?_
  refine lv_istore_n (lv' := [(1, .int (nI ((((0 + ((n 0) * (w 0))) + ((n 1) * (w 1))) + ((n 2) * (w 2))) + ((n 3) * (w 3))))), (2, .int (nI 3)), (0, .ref g)]) hx hb dX1_value_29 rfl hl (by decide) rfl (fun ls hl => ?_)
  refine lv_iinc (k := 1) (lv' := [(2, .int (nI (3 + 1))), (1, .int (nI ((((0 + ((n 0) * (w 0))) + ((n 1) * (w 1))) + ((n 2) * (w 2))) + ((n 3) * (w 3))))), (0, .ref g)]) hx hb dX1_value_30 hl rfl (zz_i1 _) (by decide) rfl (fun ls hl => ?_)
  have hl : lv_has ls 3 [(2, .int (nI 4)), (1, .int (nI ((((0 + ((n 0) * (w 0))) + ((n 1) * (w 1))) + ((n 2) * (w 2))) + ((n 3) * (w 3))))), (0, .ref g)] := hl
  refine lv_goto hx hb dX1_value_33 rfl ?_
  refine lv_iload_n hx hb dX1_value_9 rfl (lv_at hl 0 rfl) ?_
  refine lv_iconst (v := nI 4) hx hb dX1_value_10 (by decide +kernel) ?_
  refine zn_ge hx hb (by decide) (by decide) dX1_value_11 rfl (fun _ => ?_) (fun hc => absurd hc (by decide))
  refine lv_iload_n hx hb dX1_value_36 rfl (lv_at hl 1 rfl) ?_
  exact zz_iret F hr hlocks hK hS dX1_value_37 (by decide) (by decide) () rfl hP hD
