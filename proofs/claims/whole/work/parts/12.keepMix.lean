set_option maxRecDepth 100000 in
set_option maxHeartbeats 4000000 in
theorem c_keepMix (l : Launch) (D : va_G) (tys : List (ClassId × FieldType)) (cI : ClassId) (hI : tys[0]? = some (cI, .int)) (h a1 a2 a3 a4 : Nat) (fr : va_W) (sz : Nat) (wf nf bf : Nat → Int32) (b cnt : Nat) (ff : Nat → Int32) (x0 x1 x2 x3 : Nat) (hb4 : b ≤ 41) (h0 : x0 + x1 + x2 + x3 ≤ 40) : Met l yX0_keepMix wsX0_keepMix ({ frames := 0, cells := 0, slots := 0, locals := 0 }) (va_Pc [.ref h, .int (nI x0), .int (nI x1), .int (nI x2), .int (nI x3)] (zz_pre D tys (nmW cI h a1 a2 a3 a4 wf nf bf (nI b) (nI cnt) ff fr) sz)) (va_Qv (fun (u : (Nat → Int32) × Int32 × Int32) => u.2.2 = nI (cnt + 1) ∧ (x0 + x1 + x2 + x3 ≤ b → u.2.1 = nI (x0 + x1 + x2 + x3) ∧ u.1 0 = nI x0 ∧ u.1 1 = nI x1 ∧ u.1 2 = nI x2 ∧ u.1 3 = nI x3) ∧ (b < x0 + x1 + x2 + x3 → u.2.1 = nI b ∧ u.1 = bf)) (zz_B D tys (va_A (nmW cI h a1 a2 a3 a4 wf nf bf (nI b) (nI cnt) ff fr) sz) (fun u => nmW cI h a1 a2 a3 a4 wf nf u.1 u.2.1 u.2.2 ff fr)) (va_A (nmW cI h a1 a2 a3 a4 wf nf bf (nI b) (nI cnt) ff fr) sz)) 0 0 (va_A (nmW cI h a1 a2 a3 a4 wf nf bf (nI b) (nI cnt) ff fr) sz) := by
  refine zz_headV (cc := cX0_keepMix) (by decide) rfl (Nat.le_of_ble_eq_true rfl) ?_
  intro p e s m below meth cd A ls F hr hlocks hin hP hK hD hA hS hl
  obtain ⟨hx, hb, hml, hown, hts⟩ := id F
  have hl : lv_has ls 6 [(0, .ref h), (1, .int (nI x0)), (2, .int (nI x1)), (3, .int (nI x2)), (4, .int (nI x3))] := hl
  refine lv_aload_n hx hb dX0_keepMix_0 rfl (lv_at hl 0 rfl) ?_
  refine lv_dup hx hb dX0_keepMix_1 rfl ?_
  refine va_get (D := D) (ci := 0) (v := .int (nI cnt)) (C := RX0) (T := TX0) (N := 6) hx hb hts (inX0_keepMix) hown hK hP 0 rfl rfl 4 (by decide) (hts (.fieldLink RX0 23 "NoteMix" "mixCount" "I") (by decide +kernel)) (fun _ h9 => h9) rfl dX0_keepMix_2 ?_
  refine lv_iconst (v := nI 1) hx hb dX0_keepMix_5 (by decide +kernel) ?_
  refine zn_add hx hb dX0_keepMix_6 ?_
  refine va_put (D := D) (ci := 0) (v := .int (nI (cnt + 1))) (ty := .int) (C := RX0) (T := TX0) (N := 6) hx hb hts (inX0_keepMix) tyX0 tyX0_ok nmX0 hown hK hP hD hS 0 rfl rfl 4 (by decide) (hts (.fieldLink RX0 23 "NoteMix" "mixCount" "I") (by decide +kernel)) (fun _ h9 => h9) rfl (by decide +kernel) rfl rfl (Nat.le_of_ble_eq_true rfl) dX0_keepMix_7 (fun H locs hP hD hS => ?_)
  have hP : va_P D vwCl (nmW cI h a1 a2 a3 a4 wf nf bf (nI b) (nI (cnt + 1)) ff fr) H := hP
  have hD : va_D A (nmW cI h a1 a2 a3 a4 wf nf bf (nI b) (nI (cnt + 1)) ff fr) := hD
  refine lv_iload_n hx hb dX0_keepMix_10 rfl (lv_at hl 1 rfl) ?_
  refine lv_iload_n hx hb dX0_keepMix_11 rfl (lv_at hl 2 rfl) ?_
  refine zn_add hx hb dX0_keepMix_12 ?_
  refine lv_iload_n hx hb dX0_keepMix_13 rfl (lv_at hl 3 rfl) ?_
  refine zn_add hx hb dX0_keepMix_14 ?_
  refine lv_iload hx hb dX0_keepMix_15 (lv_at hl 4 rfl) ?_
  refine zn_add hx hb dX0_keepMix_17 ?_
  refine lv_istore (lv' := [(5, .int (nI (((x0 + x1) + x2) + x3))), (0, .ref h), (1, .int (nI x0)), (2, .int (nI x1)), (3, .int (nI x2)), (4, .int (nI x3))]) hx hb dX0_keepMix_18 hl (by decide) rfl (fun ls hl => ?_)
  refine lv_iload hx hb dX0_keepMix_20 (lv_at hl 0 rfl) ?_
  refine lv_aload_n hx hb dX0_keepMix_22 rfl (lv_at hl 1 rfl) ?_
  refine va_get (D := D) (ci := 0) (v := .int (nI b)) (C := RX0) (T := TX0) (N := 6) hx hb hts (inX0_keepMix) hown hK hP 0 rfl rfl 3 (by decide) (hts (.fieldLink RX0 19 "NoteMix" "bestSize" "I") (by decide +kernel)) (fun _ h9 => h9) rfl dX0_keepMix_23 ?_
  refine zn_gt hx hb (by omega) (by omega) dX0_keepMix_26 rfl (fun hc => ?_) (fun hc => ?_)
  · exact zz_vret F hr hlocks hK hS dX0_keepMix_64 (by decide) (by decide) (bf, nI b, nI (cnt + 1)) ⟨rfl, fun h9 => absurd h9 (by omega), fun _ => ⟨rfl, rfl⟩⟩ hP hD
  · refine lv_aload_n hx hb dX0_keepMix_29 rfl (lv_at hl 1 rfl) ?_
    refine lv_iload hx hb dX0_keepMix_30 (lv_at hl 0 rfl) ?_
    refine va_put (D := D) (ci := 0) (v := .int (nI (((x0 + x1) + x2) + x3))) (ty := .int) (C := RX0) (T := TX0) (N := 6) hx hb hts (inX0_keepMix) tyX0 tyX0_ok nmX0 hown hK hP hD hS 0 rfl rfl 3 (by decide) (hts (.fieldLink RX0 19 "NoteMix" "bestSize" "I") (by decide +kernel)) (fun _ h9 => h9) rfl (by decide +kernel) rfl rfl (Nat.le_of_ble_eq_true rfl) dX0_keepMix_32 (fun H locs hP hD hS => ?_)
    have hP : va_P D vwCl (nmW cI h a1 a2 a3 a4 wf nf bf (nI (((x0 + x1) + x2) + x3)) (nI (cnt + 1)) ff fr) H := hP
    have hD : va_D A (nmW cI h a1 a2 a3 a4 wf nf bf (nI (((x0 + x1) + x2) + x3)) (nI (cnt + 1)) ff fr) := hD
    refine lv_aload_n hx hb dX0_keepMix_35 rfl (lv_at hl 1 rfl) ?_
    refine va_get (D := D) (ci := 0) (v := .ref a3) (C := RX0) (T := TX0) (N := 6) hx hb hts (inX0_keepMix) hown hK hP 0 rfl rfl 2 (by decide) (hts (.fieldLink RX0 16 "NoteMix" "bestMix" "[I") (by decide +kernel)) (fun _ h9 => h9) rfl dX0_keepMix_36 ?_
    refine lv_iconst (v := nI 0) hx hb dX0_keepMix_39 (by decide +kernel) ?_
    refine lv_iload_n hx hb dX0_keepMix_40 rfl (lv_at hl 2 rfl) ?_
    refine zn_iast (k := 0) hx hb hK hP hD hS 3 _ rfl hI (by decide) (by decide) dX0_keepMix_41 (fun H locs bf1 bf1e bf1n hP hD hS => ?_)
    have hP : va_P D vwCl (nmW cI h a1 a2 a3 a4 wf nf bf1 (nI (((x0 + x1) + x2) + x3)) (nI (cnt + 1)) ff fr) H := hP
    have hD : va_D A (nmW cI h a1 a2 a3 a4 wf nf bf1 (nI (((x0 + x1) + x2) + x3)) (nI (cnt + 1)) ff fr) := hD
    refine lv_aload_n hx hb dX0_keepMix_42 rfl (lv_at hl 1 rfl) ?_
    refine va_get (D := D) (ci := 0) (v := .ref a3) (C := RX0) (T := TX0) (N := 6) hx hb hts (inX0_keepMix) hown hK hP 0 rfl rfl 2 (by decide) (hts (.fieldLink RX0 16 "NoteMix" "bestMix" "[I") (by decide +kernel)) (fun _ h9 => h9) rfl dX0_keepMix_43 ?_
    refine lv_iconst (v := nI 1) hx hb dX0_keepMix_46 (by decide +kernel) ?_
    refine lv_iload_n hx hb dX0_keepMix_47 rfl (lv_at hl 3 rfl) ?_
    refine zn_iast (k := 1) hx hb hK hP hD hS 3 _ rfl hI (by decide) (by decide) dX0_keepMix_48 (fun H locs bf2 bf2e bf2n hP hD hS => ?_)
    have hP : va_P D vwCl (nmW cI h a1 a2 a3 a4 wf nf bf2 (nI (((x0 + x1) + x2) + x3)) (nI (cnt + 1)) ff fr) H := hP
    have hD : va_D A (nmW cI h a1 a2 a3 a4 wf nf bf2 (nI (((x0 + x1) + x2) + x3)) (nI (cnt + 1)) ff fr) := hD
    refine lv_aload_n hx hb dX0_keepMix_49 rfl (lv_at hl 1 rfl) ?_
    refine va_get (D := D) (ci := 0) (v := .ref a3) (C := RX0) (T := TX0) (N := 6) hx hb hts (inX0_keepMix) hown hK hP 0 rfl rfl 2 (by decide) (hts (.fieldLink RX0 16 "NoteMix" "bestMix" "[I") (by decide +kernel)) (fun _ h9 => h9) rfl dX0_keepMix_50 ?_
    refine lv_iconst (v := nI 2) hx hb dX0_keepMix_53 (by decide +kernel) ?_
    refine lv_iload_n hx hb dX0_keepMix_54 rfl (lv_at hl 4 rfl) ?_
    refine zn_iast (k := 2) hx hb hK hP hD hS 3 _ rfl hI (by decide) (by decide) dX0_keepMix_55 (fun H locs bf3 bf3e bf3n hP hD hS => ?_)
    have hP : va_P D vwCl (nmW cI h a1 a2 a3 a4 wf nf bf3 (nI (((x0 + x1) + x2) + x3)) (nI (cnt + 1)) ff fr) H := hP
    have hD : va_D A (nmW cI h a1 a2 a3 a4 wf nf bf3 (nI (((x0 + x1) + x2) + x3)) (nI (cnt + 1)) ff fr) := hD
    refine lv_aload_n hx hb dX0_keepMix_56 rfl (lv_at hl 1 rfl) ?_
    refine va_get (D := D) (ci := 0) (v := .ref a3) (C := RX0) (T := TX0) (N := 6) hx hb hts (inX0_keepMix) hown hK hP 0 rfl rfl 2 (by decide) (hts (.fieldLink RX0 16 "NoteMix" "bestMix" "[I") (by decide +kernel)) (fun _ h9 => h9) rfl dX0_keepMix_57 ?_
    refine lv_iconst (v := nI 3) hx hb dX0_keepMix_60 (by decide +kernel) ?_
    refine lv_iload hx hb dX0_keepMix_61 (lv_at hl 5 rfl) ?_
    refine zn_iast (k := 3) hx hb hK hP hD hS 3 _ rfl hI (by decide) (by decide) dX0_keepMix_63 (fun H locs bf4 bf4e bf4n hP hD hS => ?_)
    have hP : va_P D vwCl (nmW cI h a1 a2 a3 a4 wf nf bf4 (nI (((x0 + x1) + x2) + x3)) (nI (cnt + 1)) ff fr) H := hP
    have hD : va_D A (nmW cI h a1 a2 a3 a4 wf nf bf4 (nI (((x0 + x1) + x2) + x3)) (nI (cnt + 1)) ff fr) := hD
    exact zz_vret F hr hlocks hK hS dX0_keepMix_64 (by decide) (by decide) (bf4, nI (x0 + x1 + x2 + x3), nI (cnt + 1)) ⟨rfl, fun _ => ⟨rfl, (by show bf4 0 = nI x0; rw [bf4n 0 (by decide), bf3n 0 (by decide), bf2n 0 (by decide), bf1e]), (by show bf4 1 = nI x1; rw [bf4n 1 (by decide), bf3n 1 (by decide), bf2e]), (by show bf4 2 = nI x2; rw [bf4n 2 (by decide), bf3e]), bf4e⟩, fun h9 => absurd h9 (by omega)⟩ hP hD
