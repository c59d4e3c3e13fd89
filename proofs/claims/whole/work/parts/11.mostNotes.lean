set_option maxRecDepth 100000 in
set_option maxHeartbeats 4000000 in
theorem c_mostNotes (l : Launch) (D : va_G) (tys : List (ClassId × FieldType)) (cI : ClassId) (hI : tys[0]? = some (cI, .int)) (h a1 a2 a3 a4 : Nat) (fr : va_W) (sz : Nat) (wf nf bf : Nat → Int32) (bs mc : Int32) (ff : Nat → Int32) (w n : Nat → Nat) (ok : nmOk wf nf w n) (c amt rm : Nat) (hc : c < 4) (ha : amt ≤ 2000) (hrm : rm ≤ 40) : Met l yX0_mostNotes wsX0_mostNotes ({ frames := 1, cells := 0, slots := 0, locals := 20 }) (va_Pc [.ref h, .int (nI c), .int (nI amt), .int (nI rm)] (zz_pre D tys (nmW cI h a1 a2 a3 a4 wf nf bf bs mc ff fr) sz)) (va_Qi (fun r (_ : Unit) => r = nI (mx_m (n c) (w c) amt rm)) (zz_B D tys (va_A (nmW cI h a1 a2 a3 a4 wf nf bf bs mc ff fr) sz) (fun _ => nmW cI h a1 a2 a3 a4 wf nf bf bs mc ff fr)) (va_A (nmW cI h a1 a2 a3 a4 wf nf bf bs mc ff fr) sz)) 0 0 (va_A (nmW cI h a1 a2 a3 a4 wf nf bf bs mc ff fr) sz) := by
  refine zz_headI (cc := cX0_mostNotes) (by decide) rfl (Nat.le_of_ble_eq_true rfl) ?_
  intro p e s m below meth cd A ls F hr hlocks hP hK hD hA hS hl
  obtain ⟨hx, hb, hml, hown, hts⟩ := id F
  have hl : lv_has ls 5 [(0, .ref h), (1, .int (nI c)), (2, .int (nI amt)), (3, .int (nI rm))] := hl
  obtain ⟨k1, k2, k3⟩ := ok.2.2 c hc
  have hdv := Nat.div_le_self amt (w c)
  refine lv_aload_n hx hb dX0_mostNotes_0 rfl (lv_at hl 0 rfl) ?_
  refine va_get (D := D) (ci := 0) (v := .ref a1) (C := RX0) (T := TX0) (N := 6) hx hb hts (inX0_mostNotes) hown hK hP 0 rfl rfl 0 (by decide) (hts (.fieldLink RX0 9 "NoteMix" "worthOf" "[I") (by decide +kernel)) (fun _ h9 => h9) rfl dX0_mostNotes_1 ?_
  refine lv_iload_n hx hb dX0_mostNotes_4 rfl (lv_at hl 1 rfl) ?_
  refine zn_iald (k := c) hx hb hK hP 1 _ rfl hI (by omega) (by decide) (ok.1 c (by omega)) dX0_mostNotes_5 ?_
  refine lv_iconst (v := nI 1) hx hb dX0_mostNotes_6 (by decide +kernel) ?_
  refine zn_max hx hb (hml.trans hl.1.symm) hown (hts (.methodLink RX0 63 Lib.Math.max.name) (by decide +kernel)) (hts (.static Lib.Math.max.name) (by decide +kernel)) (hts (.initialized "java/lang/Math") (by decide +kernel)) (hts (.code Lib.Math.max.name Lib.Math.max.code 2 (some .int)) (by decide +kernel)) (Nat.le_of_ble_eq_true rfl) (Nat.le_of_ble_eq_true rfl) (Nat.le_of_ble_eq_true rfl) (Nat.le_of_ble_eq_true rfl) (by omega) (by omega) dX0_mostNotes_7 ?_
  refine zn_as (show nI (max (w c) 1) = nI (w c) from (by rw [Nat.max_eq_left k1])) ?_
  refine lv_istore (lv' := [(4, .int (nI (w c))), (0, .ref h), (1, .int (nI c)), (2, .int (nI amt)), (3, .int (nI rm))]) hx hb dX0_mostNotes_10 hl (by decide) rfl (fun ls hl => ?_)
  refine lv_aload_n hx hb dX0_mostNotes_12 rfl (lv_at hl 1 rfl) ?_
  refine va_get (D := D) (ci := 0) (v := .ref a2) (C := RX0) (T := TX0) (N := 6) hx hb hts (inX0_mostNotes) hown hK hP 0 rfl rfl 1 (by decide) (hts (.fieldLink RX0 13 "NoteMix" "notesIn" "[I") (by decide +kernel)) (fun _ h9 => h9) rfl dX0_mostNotes_13 ?_
  refine lv_iload_n hx hb dX0_mostNotes_16 rfl (lv_at hl 2 rfl) ?_
  refine zn_iald (k := c) hx hb hK hP 2 _ rfl hI (by omega) (by decide) (ok.2.1 c (by omega)) dX0_mostNotes_17 ?_
  refine lv_iload_n hx hb dX0_mostNotes_18 rfl (lv_at hl 4 rfl) ?_
  refine zn_min hx hb (hml.trans hl.1.symm) hown (hts (.methodLink RX0 40 Lib.Math.min.name) (by decide +kernel)) (hts (.static Lib.Math.min.name) (by decide +kernel)) (hts (.initialized "java/lang/Math") (by decide +kernel)) (hts (.code Lib.Math.min.name Lib.Math.min.code 2 (some .int)) (by decide +kernel)) (Nat.le_of_ble_eq_true rfl) (Nat.le_of_ble_eq_true rfl) (Nat.le_of_ble_eq_true rfl) (Nat.le_of_ble_eq_true rfl) (by omega) (by omega) dX0_mostNotes_19 ?_
  refine lv_iload_n hx hb dX0_mostNotes_22 rfl (lv_at hl 3 rfl) ?_
  refine lv_iload hx hb dX0_mostNotes_23 (lv_at hl 0 rfl) ?_
  refine zn_div hx hb (by omega) (by omega) (by omega) dX0_mostNotes_25 ?_
  refine zn_min hx hb (hml.trans hl.1.symm) hown (hts (.methodLink RX0 40 Lib.Math.min.name) (by decide +kernel)) (hts (.static Lib.Math.min.name) (by decide +kernel)) (hts (.initialized "java/lang/Math") (by decide +kernel)) (hts (.code Lib.Math.min.name Lib.Math.min.code 2 (some .int)) (by decide +kernel)) (Nat.le_of_ble_eq_true rfl) (Nat.le_of_ble_eq_true rfl) (Nat.le_of_ble_eq_true rfl) (Nat.le_of_ble_eq_true rfl) (by omega) (by omega) dX0_mostNotes_26 ?_
  exact zz_iret F hr hlocks hK hS dX0_mostNotes_29 (by decide) (by decide) () rfl hP hD
