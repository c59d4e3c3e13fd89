set_option maxRecDepth 100000 in
set_option maxHeartbeats 4000000 in
theorem c_value (l : Launch) (D : va_G) (tys : List (ClassId × FieldType)) (cI : ClassId) (hI : tys[0]? = some (cI, .int)) (h a1 a2 a3 a4 : Nat) (fr : va_W) (sz : Nat) (wf nf bf : Nat → Int32) (bs mc : Int32) (ff : Nat → Int32) (w n : Nat → Nat) (ok : nmOk wf nf w n) : Met l yX0_value wsX0_value ({ frames := 0, cells := 0, slots := 0, locals := 0 }) (va_Pc [.ref h] (zz_pre D tys (nmW cI h a1 a2 a3 a4 wf nf bf bs mc ff fr) sz)) (va_Qi (fun r (_ : Unit) => r = nI (0 + n 0 * w 0 + n 1 * w 1 + n 2 * w 2 + n 3 * w 3)) (zz_B D tys (va_A (nmW cI h a1 a2 a3 a4 wf nf bf bs mc ff fr) sz) (fun _ => nmW cI h a1 a2 a3 a4 wf nf bf bs mc ff fr)) (va_A (nmW cI h a1 a2 a3 a4 wf nf bf bs mc ff fr) sz)) 0 0 (va_A (nmW cI h a1 a2 a3 a4 wf nf bf bs mc ff fr) sz) := by
  refine zz_headI (cc := cX0_value) (by decide) rfl (Nat.le_of_ble_eq_true rfl) ?_
  intro p e s m below meth cd A ls F hr hlocks hP hK hD hA hS hl
  obtain ⟨hx, hb, hml, hown, hts⟩ := id F
  have hl : lv_has ls 3 [(0, .ref h)] := hl
  obtain ⟨p0, q0, r0⟩ := ok.2.2 0 (by decide)
  obtain ⟨p1, q1, r1⟩ := ok.2.2 1 (by decide)
  obtain ⟨p2, q2, r2⟩ := ok.2.2 2 (by decide)
  obtain ⟨p3, q3, r3⟩ := ok.2.2 3 (by decide)
  refine lv_iconst (v := nI 0) hx hb dX0_value_0 (by decide +kernel) ?_
  refine lv_istore_n (lv' := [(1, .int (nI 0)), (0, .ref h)]) hx hb dX0_value_1 rfl hl (by decide) rfl (fun ls hl => ?_)
  refine lv_iconst (v := nI 0) hx hb dX0_value_2 (by decide +kernel) ?_
  refine lv_istore_n (lv' := [(2, .int (nI 0)), (1, .int (nI 0)), (0, .ref h)]) hx hb dX0_value_3 rfl hl (by decide) rfl (fun ls hl => ?_)
  refine lv_iload_n hx hb dX0_value_4 rfl (lv_at hl 0 rfl) ?_
  refine lv_iconst (v := nI 3) hx hb dX0_value_5 (by decide +kernel) ?_
  refine zn_gt hx hb (by decide) (by decide) dX0_value_6 rfl (fun hc => absurd hc (by decide)) (fun _ => ?_)
  refine lv_iload_n hx hb dX0_value_9 rfl (lv_at hl 1 rfl) ?_
  refine lv_aload_n hx hb dX0_value_10 rfl (lv_at hl 2 rfl) ?_
  refine va_get (D := D) (ci := 0) (v := .ref a2) (C := RX0) (T := TX0) (N := 6) hx hb hts (inX0_value) hown hK hP 0 rfl rfl 1 (by decide) (hts (.fieldLink RX0 13 "NoteMix" "notesIn" "[I") (by decide +kernel)) (fun _ h9 => h9) rfl dX0_value_11 ?_
  refine lv_iload_n hx hb dX0_value_14 rfl (lv_at hl 0 rfl) ?_
  refine zn_iald (k := 0) hx hb hK hP 2 _ rfl hI (by decide) (by decide) (ok.2.1 0 (by omega)) dX0_value_15 ?_
  refine lv_aload_n hx hb dX0_value_16 rfl (lv_at hl 2 rfl) ?_
  refine va_get (D := D) (ci := 0) (v := .ref a1) (C := RX0) (T := TX0) (N := 6) hx hb hts (inX0_value) hown hK hP 0 rfl rfl 0 (by decide) (hts (.fieldLink RX0 9 "NoteMix" "worthOf" "[I") (by decide +kernel)) (fun _ h9 => h9) rfl dX0_value_17 ?_
  refine lv_iload_n hx hb dX0_value_20 rfl (lv_at hl 0 rfl) ?_
  refine zn_iald (k := 0) hx hb hK hP 1 _ rfl hI (by decide) (by decide) (ok.1 0 (by omega)) dX0_value_21 ?_
  refine zn_mul hx hb dX0_value_22 ?_
  refine zn_add hx hb dX0_value_23 ?_
  refine lv_istore_n (lv' := [(1, .int (nI (0 + ((n 0) * (w 0))))), (2, .int (nI 0)), (0, .ref h)]) hx hb dX0_value_24 rfl hl (by decide) rfl (fun ls hl => ?_)
  refine lv_iinc (k := 1) (lv' := [(2, .int (nI (0 + 1))), (1, .int (nI (0 + ((n 0) * (w 0))))), (0, .ref h)]) hx hb dX0_value_25 hl rfl (zz_i1 _) (by decide) rfl (fun ls hl => ?_)
  have hl : lv_has ls 3 [(2, .int (nI 1)), (1, .int (nI (0 + ((n 0) * (w 0))))), (0, .ref h)] := hl
  refine lv_goto hx hb dX0_value_28 rfl ?_
  refine lv_iload_n hx hb dX0_value_4 rfl (lv_at hl 0 rfl) ?_
  refine lv_iconst (v := nI 3) hx hb dX0_value_5 (by decide +kernel) ?_
  refine zn_gt hx hb (by decide) (by decide) dX0_value_6 rfl (fun hc => absurd hc (by decide)) (fun _ => ?_)
  refine lv_iload_n hx hb dX0_value_9 rfl (lv_at hl 1 rfl) ?_
  refine lv_aload_n hx hb dX0_value_10 rfl (lv_at hl 2 rfl) ?_
  refine va_get (D := D) (ci := 0) (v := .ref a2) (C := RX0) (T := TX0) (N := 6) hx hb hts (inX0_value) hown hK hP 0 rfl rfl 1 (by decide) (hts (.fieldLink RX0 13 "NoteMix" "notesIn" "[I") (by decide +kernel)) (fun _ h9 => h9) rfl dX0_value_11 ?_
  refine lv_iload_n hx hb dX0_value_14 rfl (lv_at hl 0 rfl) ?_
  refine zn_iald (k := 1) hx hb hK hP 2 _ rfl hI (by decide) (by decide) (ok.2.1 1 (by omega)) dX0_value_15 ?_
  refine lv_aload_n hx hb dX0_value_16 rfl (lv_at hl 2 rfl) ?_
  refine va_get (D := D) (ci := 0) (v := .ref a1) (C := RX0) (T := TX0) (N := 6) hx hb hts (inX0_value) hown hK hP 0 rfl rfl 0 (by decide) (hts (.fieldLink RX0 9 "NoteMix" "worthOf" "[I") (by decide +kernel)) (fun _ h9 => h9) rfl dX0_value_17 ?_
  refine lv_iload_n hx hb dX0_value_20 rfl (lv_at hl 0 rfl) ?_
  refine zn_iald (k := 1) hx hb hK hP 1 _ rfl hI (by decide) (by decide) (ok.1 1 (by omega)) dX0_value_21 ?_
  refine zn_mul hx hb dX0_value_22 ?_
  refine zn_add hx hb dX0_value_23 ?_
  refine lv_istore_n (lv' := [(1, .int (nI ((0 + ((n 0) * (w 0))) + ((n 1) * (w 1))))), (2, .int (nI 1)), (0, .ref h)]) hx hb dX0_value_24 rfl hl (by decide) rfl (fun ls hl => ?_)
  refine lv_iinc (k := 1) (lv' := [(2, .int (nI (1 + 1))), (1, .int (nI ((0 + ((n 0) * (w 0))) + ((n 1) * (w 1))))), (0, .ref h)]) hx hb dX0_value_25 hl rfl (zz_i1 _) (by decide) rfl (fun ls hl => ?_)
  have hl : lv_has ls 3 [(2, .int (nI 2)), (1, .int (nI ((0 + ((n 0) * (w 0))) + ((n 1) * (w 1))))), (0, .ref h)] := hl
  refine lv_goto hx hb dX0_value_28 rfl ?_
  refine lv_iload_n hx hb dX0_value_4 rfl (lv_at hl 0 rfl) ?_
  refine lv_iconst (v := nI 3) hx hb dX0_value_5 (by decide +kernel) ?_
  refine zn_gt hx hb (by decide) (by decide) dX0_value_6 rfl (fun hc => absurd hc (by decide)) (fun _ => ?_)
  refine lv_iload_n hx hb dX0_value_9 rfl (lv_at hl 1 rfl) ?_
  refine lv_aload_n hx hb dX0_value_10 rfl (lv_at hl 2 rfl) ?_
  refine va_get (D := D) (ci := 0) (v := .ref a2) (C := RX0) (T := TX0) (N := 6) hx hb hts (inX0_value) hown hK hP 0 rfl rfl 1 (by decide) (hts (.fieldLink RX0 13 "NoteMix" "notesIn" "[I") (by decide +kernel)) (fun _ h9 => h9) rfl dX0_value_11 ?_
  refine lv_iload_n hx hb dX0_value_14 rfl (lv_at hl 0 rfl) ?_
  refine zn_iald (k := 2) hx hb hK hP 2 _ rfl hI (by decide) (by decide) (ok.2.1 2 (by omega)) dX0_value_15 ?_
  refine lv_aload_n hx hb dX0_value_16 rfl (lv_at hl 2 rfl) ?_
  refine va_get (D := D) (ci := 0) (v := .ref a1) (C := RX0) (T := TX0) (N := 6) hx hb hts (inX0_value) hown hK hP 0 rfl rfl 0 (by decide) (hts (.fieldLink RX0 9 "NoteMix" "worthOf" "[I") (by decide +kernel)) (fun _ h9 => h9) rfl dX0_value_17 ?_
  refine lv_iload_n hx hb dX0_value_20 rfl (lv_at hl 0 rfl) ?_
  refine zn_iald (k := 2) hx hb hK hP 1 _ rfl hI (by decide) (by decide) (ok.1 2 (by omega)) dX0_value_21 ?_
  refine zn_mul hx hb dX0_value_22 ?_
  refine zn_add hx hb dX0_value_23 ?_
  refine lv_istore_n (lv' := [(1, .int (nI (((0 + ((n 0) * (w 0))) + ((n 1) * (w 1))) + ((n 2) * (w 2))))), (2, .int (nI 2)), (0, .ref h)]) hx hb dX0_value_24 rfl hl (by decide) rfl (fun ls hl => ?_)
  refine lv_iinc (k := 1) (lv' := [(2, .int (nI (2 + 1))), (1, .int (nI (((0 + ((n 0) * (w 0))) + ((n 1) * (w 1))) + ((n 2) * (w 2))))), (0, .ref h)]) hx hb dX0_value_25 hl rfl (zz_i1 _) (by decide) rfl (fun ls hl => ?_)
  have hl : lv_has ls 3 [(2, .int (nI 3)), (1, .int (nI (((0 + ((n 0) * (w 0))) + ((n 1) * (w 1))) + ((n 2) * (w 2))))), (0, .ref h)] := hl
  refine lv_goto hx hb dX0_value_28 rfl ?_
  refine lv_iload_n hx hb dX0_value_4 rfl (lv_at hl 0 rfl) ?_
  refine lv_iconst (v := nI 3) hx hb dX0_value_5 (by decide +kernel) ?_
  refine zn_gt hx hb (by decide) (by decide) dX0_value_6 rfl (fun hc => absurd hc (by decide)) (fun _ => ?_)
  refine lv_iload_n hx hb dX0_value_9 rfl (lv_at hl 1 rfl) ?_
  refine lv_aload_n hx hb dX0_value_10 rfl (lv_at hl 2 rfl) ?_
  refine va_get (D := D) (ci := 0) (v := .ref a2) (C := RX0) (T := TX0) (N := 6) hx hb hts (inX0_value) hown hK hP 0 rfl rfl 1 (by decide) (hts (.fieldLink RX0 13 "NoteMix" "notesIn" "[I") (by decide +kernel)) (fun _ h9 => h9) rfl dX0_value_11 ?_
  refine lv_iload_n hx hb dX0_value_14 rfl (lv_at hl 0 rfl) ?_
  refine zn_iald (k := 3) hx hb hK hP 2 _ rfl hI (by decide) (by decide) (ok.2.1 3 (by omega)) dX0_value_15 ?_
  refine lv_aload_n hx hb dX0_value_16 rfl (lv_at hl 2 rfl) ?_
  refine va_get (D := D) (ci := 0) (v := .ref a1) (C := RX0) (T := TX0) (N := 6) hx hb hts (inX0_value) hown hK hP 0 rfl rfl 0 (by decide) (hts (.fieldLink RX0 9 "NoteMix" "worthOf" "[I") (by decide +kernel)) (fun _ h9 => h9) rfl dX0_value_17 ?_
  refine lv_iload_n hx hb dX0_value_20 rfl (lv_at hl 0 rfl) ?_
  refine zn_iald (k := 3) hx hb hK hP 1 _ rfl hI (by decide) (by decide) (ok.1 3 (by omega)) dX0_value_21 ?_
  refine zn_mul hx hb dX0_value_22 ?_
  refine zn_add hx hb dX0_value_23 ?_
  refine lv_istore_n (lv' := [(1, .int (nI ((((0 + ((n 0) * (w 0))) + ((n 1) * (w 1))) + ((n 2) * (w 2))) + ((n 3) * (w 3))))), (2, .int (nI 3)), (0, .ref h)]) hx hb dX0_value_24 rfl hl (by decide) rfl (fun ls hl => ?_)
  refine lv_iinc (k := 1) (lv' := [(2, .int (nI (3 + 1))), (1, .int (nI ((((0 + ((n 0) * (w 0))) + ((n 1) * (w 1))) + ((n 2) * (w 2))) + ((n 3) * (w 3))))), (0, .ref h)]) hx hb dX0_value_25 hl rfl (zz_i1 _) (by decide) rfl (fun ls hl => ?_)
  have hl : lv_has ls 3 [(2, .int (nI 4)), (1, .int (nI ((((0 + ((n 0) * (w 0))) + ((n 1) * (w 1))) + ((n 2) * (w 2))) + ((n 3) * (w 3))))), (0, .ref h)] := hl
  refine lv_goto hx hb dX0_value_28 rfl ?_
  refine lv_iload_n hx hb dX0_value_4 rfl (lv_at hl 0 rfl) ?_
  refine lv_iconst (v := nI 3) hx hb dX0_value_5 (by decide +kernel) ?_
  refine zn_gt hx hb (by decide) (by decide) dX0_value_6 rfl (fun _ => ?_) (fun hc => absurd hc (by decide))
  refine lv_iload_n hx hb dX0_value_31 rfl (lv_at hl 1 rfl) ?_
  exact zz_iret F hr hlocks hK hS dX0_value_32 (by decide) (by decide) () rfl hP hD
