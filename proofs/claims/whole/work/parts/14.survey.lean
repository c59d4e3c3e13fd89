set_option maxRecDepth 100000 in
set_option maxHeartbeats 4000000 in
theorem c_survey (l : Launch) (D : va_G) (tys : List (ClassId × FieldType)) (cI : ClassId) (hI : tys[0]? = some (cI, .int)) (h a1 a2 a3 a4 : Nat) (fr : va_W) (sz : Nat) (wf nf bf : Nat → Int32) (bs mc : Int32) (ff : Nat → Int32) (w n : Nat → Nat) (ok : nmOk wf nf w n) (v : Nat) (hv : v ≤ 2000) : Met l yX0_survey wsX0_survey ({ frames := 2, cells := 0, slots := 0, locals := 60 }) (va_Pc [.ref h, .int (nI v)] (zz_pre D tys (nmW cI h a1 a2 a3 a4 wf nf bf bs mc ff fr) sz)) (va_Qv (fun (u : (Nat → Int32) × Int32 × Int32) => ∃ (cnt b : Nat) (bm : Nat → Nat), u.2.1 = nI b ∧ u.2.2 = nI cnt ∧ (0 < cnt → ∀ j, j < 4 → u.1 j = nI (bm j)) ∧ mx_E w n v cnt b bm) (zz_B D tys (va_A (nmW cI h a1 a2 a3 a4 wf nf bf bs mc ff fr) sz) (fun u => nmW cI h a1 a2 a3 a4 wf nf u.1 u.2.1 u.2.2 ff fr)) (va_A (nmW cI h a1 a2 a3 a4 wf nf bf bs mc ff fr) sz)) 0 0 (va_A (nmW cI h a1 a2 a3 a4 wf nf bf bs mc ff fr) sz) := by
  refine zz_headV (cc := cX0_survey) (by decide) rfl (Nat.le_of_ble_eq_true rfl) ?_
  intro p e s m below meth cd A ls F hr hlocks hin hP hK hD hA hS hl
  obtain ⟨hx, hb, hml, hown, hts⟩ := id F
  have hl : lv_has ls 14 [(0, .ref h), (1, .int (nI v))] := hl
  obtain ⟨p0, p1, p2⟩ := ok.2.2 0 (by decide)
  obtain ⟨q0, q1, q2⟩ := ok.2.2 1 (by decide)
  obtain ⟨r0, r1, r2⟩ := ok.2.2 2 (by decide)
  obtain ⟨t0, t1, t2⟩ := ok.2.2 3 (by decide)
  refine lv_aload_n hx hb dX0_survey_0 rfl (lv_at hl 0 rfl) ?_
  refine lv_iconst (v := nI 0) hx hb dX0_survey_1 (by decide +kernel) ?_
  refine va_put (D := D) (ci := 0) (v := .int (nI 0)) (ty := .int) (C := RX0) (T := TX0) (N := 6) hx hb hts (inX0_survey) tyX0 tyX0_ok nmX0 hown hK hP hD hS 0 rfl rfl 4 (by decide) (hts (.fieldLink RX0 23 "NoteMix" "mixCount" "I") (by decide +kernel)) (fun _ h9 => h9) rfl (by decide +kernel) rfl rfl (Nat.le_of_ble_eq_true rfl) dX0_survey_2 (fun H locs hP hD hS => ?_)
  have hP : va_P D vwCl (nmW cI h a1 a2 a3 a4 wf nf bf bs (nI 0) ff fr) H := hP
  have hD : va_D A (nmW cI h a1 a2 a3 a4 wf nf bf bs (nI 0) ff fr) := hD
  refine lv_aload_n hx hb dX0_survey_5 rfl (lv_at hl 0 rfl) ?_
  refine lv_bipush (v := nI 41) hx hb dX0_survey_6 (by decide +kernel) ?_
  refine va_put (D := D) (ci := 0) (v := .int (nI 41)) (ty := .int) (C := RX0) (T := TX0) (N := 6) hx hb hts (inX0_survey) tyX0 tyX0_ok nmX0 hown hK hP hD hS 0 rfl rfl 3 (by decide) (hts (.fieldLink RX0 19 "NoteMix" "bestSize" "I") (by decide +kernel)) (fun _ h9 => h9) rfl (by decide +kernel) rfl rfl (Nat.le_of_ble_eq_true rfl) dX0_survey_8 (fun H locs hP hD hS => ?_)
  have hP : va_P D vwCl (nmW cI h a1 a2 a3 a4 wf nf bf (nI 41) (nI 0) ff fr) H := hP
  have hD : va_D A (nmW cI h a1 a2 a3 a4 wf nf bf (nI 41) (nI 0) ff fr) := hD
  refine lv_aload_n hx hb dX0_survey_11 rfl (lv_at hl 0 rfl) ?_
  refine lv_iconst (v := nI 3) hx hb dX0_survey_12 (by decide +kernel) ?_
  refine lv_iload_n hx hb dX0_survey_13 rfl (lv_at hl 1 rfl) ?_
  refine lv_bipush (v := nI 40) hx hb dX0_survey_14 (by decide +kernel) ?_
  refine zz_callVi (As := [.int (nI 3), .int (nI v), .int (nI 40)]) (rest := []) F hK hP hD hS hA (c_mostNotes l D tys cI hI h a1 a2 a3 a4 fr _ wf nf bf (nI 41) (nI 0) ff w n ok 3 (v) (40) (by decide) hv (by decide)) (cwV 3 hts gX0_survey_X0_mostNotes rfl rfl rfl (by decide +kernel) ⟨Nat.le_of_ble_eq_true rfl, Nat.le_of_ble_eq_true rfl⟩) 0 rfl rfl rfl hl.1 rfl (by decide) dX0_survey_16 ⟨Nat.le_of_ble_eq_true rfl, Nat.le_of_ble_eq_true rfl⟩ (fun rr _ H locs er hP hD hS => ?_)
  try dsimp only at er
  subst er
  obtain ⟨m3, hm3⟩ : ∃ z, z = mx_m (n 3) (w 3) v 40 := ⟨_, rfl⟩
  rw [← hm3]
  refine lv_istore_n (lv' := [(2, .int (nI m3)), (0, .ref h), (1, .int (nI v))]) hx hb dX0_survey_19 rfl hl (by decide) rfl (fun ls hl => ?_)
  refine lv_iconst (v := nI 0) hx hb dX0_survey_20 (by decide +kernel) ?_
  refine lv_istore_n (lv' := [(3, .int (nI 0)), (2, .int (nI m3)), (0, .ref h), (1, .int (nI v))]) hx hb dX0_survey_21 rfl hl (by decide) rfl (fun ls hl => ?_)
  have hl : lv_has ls 14 [(3, .int (nI 0)), (2, .int (nI m3)), (1, .int (nI v)), (0, .ref h)] := lv_sub hl [0, 1, 3, 2] rfl
  refine zz_loop (fun ls H locs (u : Nat × (Nat → Int32) × Nat × Nat × (Nat → Nat)) => lv_has ls 14 [(3, .int (nI u.1)), (2, .int (nI m3)), (1, .int (nI v)), (0, .ref h)] ∧ va_P D vwCl (nmW cI h a1 a2 a3 a4 wf nf u.2.1 (nI u.2.2.1) (nI u.2.2.2.1) ff fr) H ∧ va_D A (nmW cI h a1 a2 a3 a4 wf nf u.2.1 (nI u.2.2.1) (nI u.2.2.2.1) ff fr) ∧ va_S A s.heap H locs ∧ (0 < u.2.2.2.1 → ∀ j, j < 4 → u.2.1 j = nI (u.2.2.2.2 j)) ∧ mx_I w n v (mx_k 0 0 u.1) u.2.2.2.1 u.2.2.1 u.2.2.2.2 ∧ u.1 ≤ m3 + 1) (fun u => m3 + 1 - u.1) ?_ (0, bf, 41, 0, fun _ => 0) ⟨hl, hP, hD, hS, fun h9 => absurd h9 (Nat.lt_irrefl 0), mx_I0, Nat.zero_le _⟩
  rintro ls H locs ⟨d, bf, b, cnt, bm⟩ ⟨hl, hP, hD, hS, hbm, hI3, hd⟩ k3
  dsimp only at hl hP hD hbm hI3 hd k3
  have hm40 := mx_le (x := m3) (n := n 3) (w := w 3) (amt := v) (room := 40) (Nat.le_of_eq hm3)
  refine lv_iload_n hx hb dX0_survey_22 rfl (lv_at hl 0 rfl) ?_
  refine lv_iload_n hx hb dX0_survey_23 rfl (lv_at hl 1 rfl) ?_
  refine zn_gt hx hb (by omega) (by omega) dX0_survey_24 rfl (fun hc3 => ?_) (fun hc3 => ?_)
  · have hd3 : d = m3 + 1 := by omega
    rw [hd3, hm3] at hI3
    have hE := mx_Iend (mx_Iskip hI3 (by have := hm40.2.1; rw [hm3] at this; unfold mx_k; omega) (mx_skip3 t0))
    exact zz_vret F hr hlocks hK hS dX0_survey_179 (by decide) (by decide) (bf, nI b, nI cnt) ⟨cnt, b, bm, rfl, rfl, hbm, hE⟩ hP hD
  · obtain ⟨d1, d2, d3⟩ := mx_le (x := d) (n := n 3) (w := w 3) (amt := v) (room := 40) (by rw [← hm3]; exact hc3)
    refine lv_iload_n hx hb dX0_survey_27 rfl (lv_at hl 2 rfl) ?_
    refine lv_iload_n hx hb dX0_survey_28 rfl (lv_at hl 0 rfl) ?_
    refine lv_aload_n hx hb dX0_survey_29 rfl (lv_at hl 3 rfl) ?_
    refine va_get (D := D) (ci := 0) (v := .ref a1) (C := RX0) (T := TX0) (N := 6) hx hb hts (inX0_survey) hown hK hP 0 rfl rfl 0 (by decide) (hts (.fieldLink RX0 9 "NoteMix" "worthOf" "[I") (by decide +kernel)) (fun _ h9 => h9) rfl dX0_survey_30 ?_
    refine lv_iconst (v := nI 3) hx hb dX0_survey_33 (by decide +kernel) ?_
    refine zn_iald (k := 3) hx hb hK hP 1 _ rfl hI (by omega) (by decide) (ok.1 3 (by omega)) dX0_survey_34 ?_
    refine zn_mul hx hb dX0_survey_35 ?_
    refine zn_sub hx hb d3 dX0_survey_36 ?_
    refine lv_istore (lv' := [(4, .int (nI (v - (d * (w 3))))), (3, .int (nI d)), (2, .int (nI m3)), (1, .int (nI v)), (0, .ref h)]) hx hb dX0_survey_37 hl (by decide) rfl (fun ls hl => ?_)
    refine lv_bipush (v := nI 40) hx hb dX0_survey_39 (by decide +kernel) ?_
    refine lv_iload_n hx hb dX0_survey_41 rfl (lv_at hl 1 rfl) ?_
    refine zn_sub hx hb (by omega) dX0_survey_42 ?_
    refine lv_istore (lv' := [(5, .int (nI (40 - d))), (4, .int (nI (v - (d * (w 3))))), (3, .int (nI d)), (2, .int (nI m3)), (1, .int (nI v)), (0, .ref h)]) hx hb dX0_survey_43 hl (by decide) rfl (fun ls hl => ?_)
    refine lv_aload_n hx hb dX0_survey_45 rfl (lv_at hl 5 rfl) ?_
    refine lv_iconst (v := nI 2) hx hb dX0_survey_46 (by decide +kernel) ?_
    refine lv_iload hx hb dX0_survey_47 (lv_at hl 1 rfl) ?_
    refine lv_iload hx hb dX0_survey_49 (lv_at hl 0 rfl) ?_
    refine zz_callVi (As := [.int (nI 2), .int (nI (v - (d * (w 3)))), .int (nI (40 - d))]) (rest := []) F hK hP hD hS hA (c_mostNotes l D tys cI hI h a1 a2 a3 a4 fr _ wf nf bf (nI b) (nI cnt) ff w n ok 2 (v - d * w 3) (40 - d) (by decide) (by omega) (by omega)) (cwV 3 hts gX0_survey_X0_mostNotes rfl rfl rfl (by decide +kernel) ⟨Nat.le_of_ble_eq_true rfl, Nat.le_of_ble_eq_true rfl⟩) 0 rfl rfl rfl hl.1 rfl (by decide) dX0_survey_51 ⟨Nat.le_of_ble_eq_true rfl, Nat.le_of_ble_eq_true rfl⟩ (fun rr _ H locs er hP hD hS => ?_)
    try dsimp only at er
    subst er
    obtain ⟨m2, hm2⟩ : ∃ z, z = mx_m (n 2) (w 2) (v - d * w 3) (40 - d) := ⟨_, rfl⟩
    rw [← hm2]
    refine lv_istore (lv' := [(6, .int (nI m2)), (5, .int (nI (40 - d))), (4, .int (nI (v - (d * (w 3))))), (3, .int (nI d)), (2, .int (nI m3)), (1, .int (nI v)), (0, .ref h)]) hx hb dX0_survey_54 hl (by decide) rfl (fun ls hl => ?_)
    refine lv_iconst (v := nI 0) hx hb dX0_survey_56 (by decide +kernel) ?_
    refine lv_istore (lv' := [(7, .int (nI 0)), (6, .int (nI m2)), (5, .int (nI (40 - d))), (4, .int (nI (v - (d * (w 3))))), (3, .int (nI d)), (2, .int (nI m3)), (1, .int (nI v)), (0, .ref h)]) hx hb dX0_survey_57 hl (by decide) rfl (fun ls hl => ?_)
    have hl : lv_has ls 14 [(7, .int (nI 0)), (6, .int (nI m2)), (5, .int (nI (40 - d))), (4, .int (nI (v - (d * (w 3))))), (3, .int (nI d)), (2, .int (nI m3)), (1, .int (nI v)), (0, .ref h)] := lv_sub hl [0, 1, 2, 3, 4, 5, 6, 7] rfl
    refine zz_loop (fun ls H locs (u : Nat × (Nat → Int32) × Nat × Nat × (Nat → Nat)) => lv_has ls 14 [(7, .int (nI u.1)), (6, .int (nI m2)), (5, .int (nI (40 - d))), (4, .int (nI (v - (d * (w 3))))), (3, .int (nI d)), (2, .int (nI m3)), (1, .int (nI v)), (0, .ref h)] ∧ va_P D vwCl (nmW cI h a1 a2 a3 a4 wf nf u.2.1 (nI u.2.2.1) (nI u.2.2.2.1) ff fr) H ∧ va_D A (nmW cI h a1 a2 a3 a4 wf nf u.2.1 (nI u.2.2.1) (nI u.2.2.2.1) ff fr) ∧ va_S A s.heap H locs ∧ (0 < u.2.2.2.1 → ∀ j, j < 4 → u.2.1 j = nI (u.2.2.2.2 j)) ∧ mx_I w n v (mx_k 0 u.1 d) u.2.2.2.1 u.2.2.1 u.2.2.2.2 ∧ u.1 ≤ m2 + 1) (fun u => m2 + 1 - u.1) ?_ (0, bf, b, cnt, bm) ⟨hl, hP, hD, hS, hbm, hI3, Nat.zero_le _⟩
    rintro ls H locs ⟨c2, bf, b, cnt, bm⟩ ⟨hl, hP, hD, hS, hbm, hI2, hc⟩ k2
    dsimp only at hl hP hD hbm hI2 hc k2
    have hm20 := mx_le (x := m2) (n := n 2) (w := w 2) (amt := v - d * w 3) (room := 40 - d) (Nat.le_of_eq hm2)
    refine lv_iload hx hb dX0_survey_59 (lv_at hl 0 rfl) ?_
    refine lv_iload hx hb dX0_survey_61 (lv_at hl 1 rfl) ?_
    refine zn_gt hx hb (by omega) (by omega) dX0_survey_63 rfl (fun hc2 => ?_) (fun hc2 => ?_)
    · have hd2 : c2 = m2 + 1 := by omega
      rw [hd2, hm2] at hI2
      have hI3 := mx_Iskip hI2 (by have := hm20.2.1; rw [hm2] at this; unfold mx_k; omega) (mx_skip2 r0)
      refine lv_iinc (k := 4) (lv' := [(3, .int (nI (d + 1))), (7, .int (nI c2)), (6, .int (nI m2)), (5, .int (nI (40 - d))), (4, .int (nI (v - (d * (w 3))))), (2, .int (nI m3)), (1, .int (nI v)), (0, .ref h)]) hx hb dX0_survey_173 hl rfl (zz_i1 _) (by decide) rfl (fun ls hl => ?_)
      refine lv_goto hx hb dX0_survey_176 rfl ?_
      have hl : lv_has ls 14 [(3, .int (nI (d + 1))), (2, .int (nI m3)), (1, .int (nI v)), (0, .ref h)] := lv_sub hl [0, 5, 6, 7] rfl
      exact k3 _ _ _ (d + 1, bf, b, cnt, bm) ⟨hl, hP, hD, hS, hbm, hI3, by show d + 1 ≤ m3 + 1; omega⟩ (by show m3 + 1 - (d + 1) < m3 + 1 - d; omega)
    · obtain ⟨e1, e2, e3⟩ := mx_le (x := c2) (n := n 2) (w := w 2) (amt := v - d * w 3) (room := 40 - d) (by rw [← hm2]; exact hc2)
      refine lv_iload hx hb dX0_survey_66 (lv_at hl 3 rfl) ?_
      refine lv_iload hx hb dX0_survey_68 (lv_at hl 0 rfl) ?_
      refine lv_aload_n hx hb dX0_survey_70 rfl (lv_at hl 7 rfl) ?_
      refine va_get (D := D) (ci := 0) (v := .ref a1) (C := RX0) (T := TX0) (N := 6) hx hb hts (inX0_survey) hown hK hP 0 rfl rfl 0 (by decide) (hts (.fieldLink RX0 9 "NoteMix" "worthOf" "[I") (by decide +kernel)) (fun _ h9 => h9) rfl dX0_survey_71 ?_
      refine lv_iconst (v := nI 2) hx hb dX0_survey_74 (by decide +kernel) ?_
      refine zn_iald (k := 2) hx hb hK hP 1 _ rfl hI (by omega) (by decide) (ok.1 2 (by omega)) dX0_survey_75 ?_
      refine zn_mul hx hb dX0_survey_76 ?_
      refine zn_sub hx hb e3 dX0_survey_77 ?_
      refine lv_istore (lv' := [(8, .int (nI ((v - (d * (w 3))) - (c2 * (w 2))))), (7, .int (nI c2)), (6, .int (nI m2)), (5, .int (nI (40 - d))), (4, .int (nI (v - (d * (w 3))))), (3, .int (nI d)), (2, .int (nI m3)), (1, .int (nI v)), (0, .ref h)]) hx hb dX0_survey_78 hl (by decide) rfl (fun ls hl => ?_)
      refine lv_iload hx hb dX0_survey_80 (lv_at hl 3 rfl) ?_
      refine lv_iload hx hb dX0_survey_82 (lv_at hl 1 rfl) ?_
      refine zn_sub hx hb (by omega) dX0_survey_84 ?_
      refine lv_istore (lv' := [(9, .int (nI ((40 - d) - c2))), (8, .int (nI ((v - (d * (w 3))) - (c2 * (w 2))))), (7, .int (nI c2)), (6, .int (nI m2)), (5, .int (nI (40 - d))), (4, .int (nI (v - (d * (w 3))))), (3, .int (nI d)), (2, .int (nI m3)), (1, .int (nI v)), (0, .ref h)]) hx hb dX0_survey_85 hl (by decide) rfl (fun ls hl => ?_)
      refine lv_aload_n hx hb dX0_survey_87 rfl (lv_at hl 9 rfl) ?_
      refine lv_iconst (v := nI 1) hx hb dX0_survey_88 (by decide +kernel) ?_
      refine lv_iload hx hb dX0_survey_89 (lv_at hl 1 rfl) ?_
      refine lv_iload hx hb dX0_survey_91 (lv_at hl 0 rfl) ?_
      refine zz_callVi (As := [.int (nI 1), .int (nI ((v - (d * (w 3))) - (c2 * (w 2)))), .int (nI ((40 - d) - c2))]) (rest := []) F hK hP hD hS hA (c_mostNotes l D tys cI hI h a1 a2 a3 a4 fr _ wf nf bf (nI b) (nI cnt) ff w n ok 1 (v - d * w 3 - c2 * w 2) (40 - d - c2) (by decide) (by omega) (by omega)) (cwV 3 hts gX0_survey_X0_mostNotes rfl rfl rfl (by decide +kernel) ⟨Nat.le_of_ble_eq_true rfl, Nat.le_of_ble_eq_true rfl⟩) 0 rfl rfl rfl hl.1 rfl (by decide) dX0_survey_93 ⟨Nat.le_of_ble_eq_true rfl, Nat.le_of_ble_eq_true rfl⟩ (fun rr _ H locs er hP hD hS => ?_)
      try dsimp only at er
      subst er
      obtain ⟨m1, hm1⟩ : ∃ z, z = mx_m (n 1) (w 1) (v - d * w 3 - c2 * w 2) (40 - d - c2) := ⟨_, rfl⟩
      rw [← hm1]
      refine lv_istore (lv' := [(10, .int (nI m1)), (9, .int (nI ((40 - d) - c2))), (8, .int (nI ((v - (d * (w 3))) - (c2 * (w 2))))), (7, .int (nI c2)), (6, .int (nI m2)), (5, .int (nI (40 - d))), (4, .int (nI (v - (d * (w 3))))), (3, .int (nI d)), (2, .int (nI m3)), (1, .int (nI v)), (0, .ref h)]) hx hb dX0_survey_96 hl (by decide) rfl (fun ls hl => ?_)
      refine lv_iconst (v := nI 0) hx hb dX0_survey_98 (by decide +kernel) ?_
      refine lv_istore (lv' := [(11, .int (nI 0)), (10, .int (nI m1)), (9, .int (nI ((40 - d) - c2))), (8, .int (nI ((v - (d * (w 3))) - (c2 * (w 2))))), (7, .int (nI c2)), (6, .int (nI m2)), (5, .int (nI (40 - d))), (4, .int (nI (v - (d * (w 3))))), (3, .int (nI d)), (2, .int (nI m3)), (1, .int (nI v)), (0, .ref h)]) hx hb dX0_survey_99 hl (by decide) rfl (fun ls hl => ?_)
      have hl : lv_has ls 14 [(11, .int (nI 0)), (10, .int (nI m1)), (9, .int (nI ((40 - d) - c2))), (8, .int (nI ((v - (d * (w 3))) - (c2 * (w 2))))), (7, .int (nI c2)), (6, .int (nI m2)), (5, .int (nI (40 - d))), (4, .int (nI (v - (d * (w 3))))), (3, .int (nI d)), (2, .int (nI m3)), (1, .int (nI v)), (0, .ref h)] := lv_sub hl [0, 1, 2, 3, 4, 5, 6, 7, 8, 9, 10, 11] rfl
      refine zz_loop (fun ls H locs (u : Nat × (Nat → Int32) × Nat × Nat × (Nat → Nat)) => lv_has ls 14 [(11, .int (nI u.1)), (10, .int (nI m1)), (9, .int (nI ((40 - d) - c2))), (8, .int (nI ((v - (d * (w 3))) - (c2 * (w 2))))), (7, .int (nI c2)), (6, .int (nI m2)), (5, .int (nI (40 - d))), (4, .int (nI (v - (d * (w 3))))), (3, .int (nI d)), (2, .int (nI m3)), (1, .int (nI v)), (0, .ref h)] ∧ va_P D vwCl (nmW cI h a1 a2 a3 a4 wf nf u.2.1 (nI u.2.2.1) (nI u.2.2.2.1) ff fr) H ∧ va_D A (nmW cI h a1 a2 a3 a4 wf nf u.2.1 (nI u.2.2.1) (nI u.2.2.2.1) ff fr) ∧ va_S A s.heap H locs ∧ (0 < u.2.2.2.1 → ∀ j, j < 4 → u.2.1 j = nI (u.2.2.2.2 j)) ∧ mx_I w n v (mx_k u.1 c2 d) u.2.2.2.1 u.2.2.1 u.2.2.2.2 ∧ u.1 ≤ m1 + 1) (fun u => m1 + 1 - u.1) ?_ (0, bf, b, cnt, bm) ⟨hl, hP, hD, hS, hbm, hI2, Nat.zero_le _⟩
      rintro ls H locs ⟨b1, bf, b, cnt, bm⟩ ⟨hl, hP, hD, hS, hbm, hI1, hb1⟩ k1
      dsimp only at hl hP hD hbm hI1 hb1 k1
      have hm10 := mx_le (x := m1) (n := n 1) (w := w 1) (amt := v - d * w 3 - c2 * w 2) (room := 40 - d - c2) (Nat.le_of_eq hm1)
      refine lv_iload hx hb dX0_survey_101 (lv_at hl 0 rfl) ?_
      refine lv_iload hx hb dX0_survey_103 (lv_at hl 1 rfl) ?_
      refine zn_gt hx hb (by omega) (by omega) dX0_survey_105 rfl (fun hc1 => ?_) (fun hc1 => ?_)
      · have hd1 : b1 = m1 + 1 := by omega
        rw [hd1, hm1] at hI1
        have hI2 := mx_Iskip hI1 (by have := hm10.2.1; rw [hm1] at this; unfold mx_k; omega) (mx_skip1 q0 (by omega))
        refine lv_iinc (k := 4) (lv' := [(7, .int (nI (c2 + 1))), (11, .int (nI b1)), (10, .int (nI m1)), (9, .int (nI ((40 - d) - c2))), (8, .int (nI ((v - (d * (w 3))) - (c2 * (w 2))))), (6, .int (nI m2)), (5, .int (nI (40 - d))), (4, .int (nI (v - (d * (w 3))))), (3, .int (nI d)), (2, .int (nI m3)), (1, .int (nI v)), (0, .ref h)]) hx hb dX0_survey_167 hl rfl (zz_i1 _) (by decide) rfl (fun ls hl => ?_)
        refine lv_goto hx hb dX0_survey_170 rfl ?_
        have hl : lv_has ls 14 [(7, .int (nI (c2 + 1))), (6, .int (nI m2)), (5, .int (nI (40 - d))), (4, .int (nI (v - (d * (w 3))))), (3, .int (nI d)), (2, .int (nI m3)), (1, .int (nI v)), (0, .ref h)] := lv_sub hl [0, 5, 6, 7, 8, 9, 10, 11] rfl
        exact k2 _ _ _ (c2 + 1, bf, b, cnt, bm) ⟨hl, hP, hD, hS, hbm, hI2, by show c2 + 1 ≤ m2 + 1; omega⟩ (by show m2 + 1 - (c2 + 1) < m2 + 1 - c2; omega)
      · obtain ⟨f1, f2, f3⟩ := mx_le (x := b1) (n := n 1) (w := w 1) (amt := v - d * w 3 - c2 * w 2) (room := 40 - d - c2) (by rw [← hm1]; exact hc1)
        have hb41 := mx_Ibs hI1
        refine lv_iload hx hb dX0_survey_108 (lv_at hl 3 rfl) ?_
        refine lv_iload hx hb dX0_survey_110 (lv_at hl 0 rfl) ?_
        refine lv_aload_n hx hb dX0_survey_112 rfl (lv_at hl 11 rfl) ?_
        refine va_get (D := D) (ci := 0) (v := .ref a1) (C := RX0) (T := TX0) (N := 6) hx hb hts (inX0_survey) hown hK hP 0 rfl rfl 0 (by decide) (hts (.fieldLink RX0 9 "NoteMix" "worthOf" "[I") (by decide +kernel)) (fun _ h9 => h9) rfl dX0_survey_113 ?_
        refine lv_iconst (v := nI 1) hx hb dX0_survey_116 (by decide +kernel) ?_
        refine zn_iald (k := 1) hx hb hK hP 1 _ rfl hI (by omega) (by decide) (ok.1 1 (by omega)) dX0_survey_117 ?_
        refine zn_mul hx hb dX0_survey_118 ?_
        refine zn_sub hx hb f3 dX0_survey_119 ?_
        refine lv_istore (lv' := [(12, .int (nI (((v - (d * (w 3))) - (c2 * (w 2))) - (b1 * (w 1))))), (11, .int (nI b1)), (10, .int (nI m1)), (9, .int (nI ((40 - d) - c2))), (8, .int (nI ((v - (d * (w 3))) - (c2 * (w 2))))), (7, .int (nI c2)), (6, .int (nI m2)), (5, .int (nI (40 - d))), (4, .int (nI (v - (d * (w 3))))), (3, .int (nI d)), (2, .int (nI m3)), (1, .int (nI v)), (0, .ref h)]) hx hb dX0_survey_120 hl (by decide) rfl (fun ls hl => ?_)
        refine lv_aload_n hx hb dX0_survey_122 rfl (lv_at hl 12 rfl) ?_
        refine lv_iconst (v := nI 0) hx hb dX0_survey_123 (by decide +kernel) ?_
        refine lv_iload hx hb dX0_survey_124 (lv_at hl 0 rfl) ?_
        refine lv_iload hx hb dX0_survey_126 (lv_at hl 3 rfl) ?_
        refine lv_iload hx hb dX0_survey_128 (lv_at hl 1 rfl) ?_
        refine zn_sub hx hb (by omega) dX0_survey_130 ?_
        refine zz_callVi (As := [.int (nI 0), .int (nI (((v - (d * (w 3))) - (c2 * (w 2))) - (b1 * (w 1)))), .int (nI (((40 - d) - c2) - b1))]) (rest := []) F hK hP hD hS hA (c_mostNotes l D tys cI hI h a1 a2 a3 a4 fr _ wf nf bf (nI b) (nI cnt) ff w n ok 0 (v - d * w 3 - c2 * w 2 - b1 * w 1) (40 - d - c2 - b1) (by decide) (by omega) (by omega)) (cwV 3 hts gX0_survey_X0_mostNotes rfl rfl rfl (by decide +kernel) ⟨Nat.le_of_ble_eq_true rfl, Nat.le_of_ble_eq_true rfl⟩) 0 rfl rfl rfl hl.1 rfl (by decide) dX0_survey_131 ⟨Nat.le_of_ble_eq_true rfl, Nat.le_of_ble_eq_true rfl⟩ (fun rr _ H locs er hP hD hS => ?_)
        try dsimp only at er
        subst er
        obtain ⟨g1, g2, g3⟩ := mx_le (x := mx_m (n 0) (w 0) (v - d * w 3 - c2 * w 2 - b1 * w 1) (40 - d - c2 - b1)) (Nat.le_refl _)
        have hlast := @mx_last w n v b1 c2 d (v - d * w 3 - c2 * w 2 - b1 * w 1) p0 f1 e1 d1 (by omega) (by omega)
        have hnolast := @mx_nolast w n v b1 c2 d (v - d * w 3 - c2 * w 2 - b1 * w 1) p0 (by omega)
        generalize mx_m (n 0) (w 0) (v - d * w 3 - c2 * w 2 - b1 * w 1) (40 - d - c2 - b1) = x0 at g1 g2 g3 hlast hnolast ⊢
        refine lv_istore (lv' := [(13, .int (nI x0)), (12, .int (nI (((v - (d * (w 3))) - (c2 * (w 2))) - (b1 * (w 1))))), (11, .int (nI b1)), (10, .int (nI m1)), (9, .int (nI ((40 - d) - c2))), (8, .int (nI ((v - (d * (w 3))) - (c2 * (w 2))))), (7, .int (nI c2)), (6, .int (nI m2)), (5, .int (nI (40 - d))), (4, .int (nI (v - (d * (w 3))))), (3, .int (nI d)), (2, .int (nI m3)), (1, .int (nI v)), (0, .ref h)]) hx hb dX0_survey_134 hl (by decide) rfl (fun ls hl => ?_)
        refine lv_iload hx hb dX0_survey_136 (lv_at hl 0 rfl) ?_
        refine lv_aload_n hx hb dX0_survey_138 rfl (lv_at hl 13 rfl) ?_
        refine va_get (D := D) (ci := 0) (v := .ref a1) (C := RX0) (T := TX0) (N := 6) hx hb hts (inX0_survey) hown hK hP 0 rfl rfl 0 (by decide) (hts (.fieldLink RX0 9 "NoteMix" "worthOf" "[I") (by decide +kernel)) (fun _ h9 => h9) rfl dX0_survey_139 ?_
        refine lv_iconst (v := nI 0) hx hb dX0_survey_142 (by decide +kernel) ?_
        refine zn_iald (k := 0) hx hb hK hP 1 _ rfl hI (by omega) (by decide) (ok.1 0 (by omega)) dX0_survey_143 ?_
        refine zn_mul hx hb dX0_survey_144 ?_
        refine lv_iload hx hb dX0_survey_145 (lv_at hl 1 rfl) ?_
        refine zn_ne hx hb (by omega) (by omega) dX0_survey_147 rfl (fun hq => ?_) (fun hq => ?_)
        · refine lv_iinc (k := 2) (lv' := [(11, .int (nI (b1 + 1))), (13, .int (nI x0)), (12, .int (nI (((v - (d * (w 3))) - (c2 * (w 2))) - (b1 * (w 1))))), (10, .int (nI m1)), (9, .int (nI ((40 - d) - c2))), (8, .int (nI ((v - (d * (w 3))) - (c2 * (w 2))))), (7, .int (nI c2)), (6, .int (nI m2)), (5, .int (nI (40 - d))), (4, .int (nI (v - (d * (w 3))))), (3, .int (nI d)), (2, .int (nI m3)), (1, .int (nI v)), (0, .ref h)]) hx hb dX0_survey_161 hl rfl (zz_i1 _) (by decide) rfl (fun ls hl => ?_)
          refine lv_goto hx hb dX0_survey_164 rfl ?_
          have hl : lv_has ls 14 [(11, .int (nI (b1 + 1))), (10, .int (nI m1)), (9, .int (nI ((40 - d) - c2))), (8, .int (nI ((v - (d * (w 3))) - (c2 * (w 2))))), (7, .int (nI c2)), (6, .int (nI m2)), (5, .int (nI (40 - d))), (4, .int (nI (v - (d * (w 3))))), (3, .int (nI d)), (2, .int (nI m3)), (1, .int (nI v)), (0, .ref h)] := lv_sub hl [0, 3, 4, 5, 6, 7, 8, 9, 10, 11, 12, 13] rfl
          have hI9 : mx_I w n v (mx_k (b1 + 1) c2 d) (cnt) (b) bm := by rw [mx_ks]; exact (mx_Inone (by omega) (by omega) hI1 (hnolast hq))
          exact k1 _ _ _ (b1 + 1, bf, b, cnt, bm) ⟨hl, hP, hD, hS, hbm, hI9, by show b1 + 1 ≤ m1 + 1; omega⟩ (by show m1 + 1 - (b1 + 1) < m1 + 1 - b1; omega)
        · refine lv_aload_n hx hb dX0_survey_150 rfl (lv_at hl 13 rfl) ?_
          refine lv_iload hx hb dX0_survey_151 (lv_at hl 0 rfl) ?_
          refine lv_iload hx hb dX0_survey_153 (lv_at hl 2 rfl) ?_
          refine lv_iload hx hb dX0_survey_155 (lv_at hl 6 rfl) ?_
          refine lv_iload_n hx hb dX0_survey_157 rfl (lv_at hl 10 rfl) ?_
          have hmix := hlast hq
          refine zz_callVv (As := [.int (nI x0), .int (nI b1), .int (nI c2), .int (nI d)]) (rest := []) F hK hP hD hS hA (c_keepMix l D tys cI hI h a1 a2 a3 a4 fr _ wf nf bf b cnt ff x0 b1 c2 d hb41 (by omega)) (cwV 4 hts gX0_survey_X0_keepMix rfl rfl rfl (by decide +kernel) ⟨Nat.le_of_ble_eq_true rfl, Nat.le_of_ble_eq_true rfl⟩) 0 rfl rfl rfl hl.1 rfl (by decide) dX0_survey_158 ⟨Nat.le_of_ble_eq_true rfl, Nat.le_of_ble_eq_true rfl⟩ (fun u H locs hu hP hD hS => ?_)
          obtain ⟨bf1, bs1, mc1⟩ := u
          obtain ⟨hu1, hu2, hu3⟩ := hu
          dsimp only at hu1 hu2 hu3
          subst hu1
          by_cases hsz : x0 + b1 + c2 + d ≤ b
          · obtain ⟨z0, z1, z2, z3, z4⟩ := hu2 hsz
            subst z0
            have hP : va_P D vwCl (nmW cI h a1 a2 a3 a4 wf nf bf1 (nI (x0 + b1 + c2 + d)) (nI (cnt + 1)) ff fr) H := hP
            have hD : va_D A (nmW cI h a1 a2 a3 a4 wf nf bf1 (nI (x0 + b1 + c2 + d)) (nI (cnt + 1)) ff fr) := hD
            refine lv_iinc (k := 2) (lv' := [(11, .int (nI (b1 + 1))), (13, .int (nI x0)), (12, .int (nI (((v - (d * (w 3))) - (c2 * (w 2))) - (b1 * (w 1))))), (10, .int (nI m1)), (9, .int (nI ((40 - d) - c2))), (8, .int (nI ((v - (d * (w 3))) - (c2 * (w 2))))), (7, .int (nI c2)), (6, .int (nI m2)), (5, .int (nI (40 - d))), (4, .int (nI (v - (d * (w 3))))), (3, .int (nI d)), (2, .int (nI m3)), (1, .int (nI v)), (0, .ref h)]) hx hb dX0_survey_161 hl rfl (zz_i1 _) (by decide) rfl (fun ls hl => ?_)
            refine lv_goto hx hb dX0_survey_164 rfl ?_
            have hl : lv_has ls 14 [(11, .int (nI (b1 + 1))), (10, .int (nI m1)), (9, .int (nI ((40 - d) - c2))), (8, .int (nI ((v - (d * (w 3))) - (c2 * (w 2))))), (7, .int (nI c2)), (6, .int (nI m2)), (5, .int (nI (40 - d))), (4, .int (nI (v - (d * (w 3))))), (3, .int (nI d)), (2, .int (nI m3)), (1, .int (nI v)), (0, .ref h)] := lv_sub hl [0, 3, 4, 5, 6, 7, 8, 9, 10, 11, 12, 13] rfl
            have hI9 : mx_I w n v (mx_k (b1 + 1) c2 d) (cnt + 1) (x0 + b1 + c2 + d) (fun j => if j = 0 then x0 else if j = 1 then b1 else if j = 2 then c2 else d) := by rw [mx_ks]; exact (mx_Ifound p0 hI1 hmix hsz rfl rfl rfl rfl)
            exact k1 _ _ _ (b1 + 1, bf1, x0 + b1 + c2 + d, cnt + 1, (fun j => if j = 0 then x0 else if j = 1 then b1 else if j = 2 then c2 else d)) ⟨hl, hP, hD, hS, (fun _ j hj => by rcases (show j = 0 ∨ j = 1 ∨ j = 2 ∨ j = 3 by omega) with rfl | rfl | rfl | rfl <;> assumption), hI9, by show b1 + 1 ≤ m1 + 1; omega⟩ (by show m1 + 1 - (b1 + 1) < m1 + 1 - b1; omega)
          · obtain ⟨z0, z1⟩ := hu3 (by omega)
            rw [z0, z1] at hP hD
            have hP : va_P D vwCl (nmW cI h a1 a2 a3 a4 wf nf bf (nI b) (nI (cnt + 1)) ff fr) H := hP
            have hD : va_D A (nmW cI h a1 a2 a3 a4 wf nf bf (nI b) (nI (cnt + 1)) ff fr) := hD
            refine lv_iinc (k := 2) (lv' := [(11, .int (nI (b1 + 1))), (13, .int (nI x0)), (12, .int (nI (((v - (d * (w 3))) - (c2 * (w 2))) - (b1 * (w 1))))), (10, .int (nI m1)), (9, .int (nI ((40 - d) - c2))), (8, .int (nI ((v - (d * (w 3))) - (c2 * (w 2))))), (7, .int (nI c2)), (6, .int (nI m2)), (5, .int (nI (40 - d))), (4, .int (nI (v - (d * (w 3))))), (3, .int (nI d)), (2, .int (nI m3)), (1, .int (nI v)), (0, .ref h)]) hx hb dX0_survey_161 hl rfl (zz_i1 _) (by decide) rfl (fun ls hl => ?_)
            refine lv_goto hx hb dX0_survey_164 rfl ?_
            have hl : lv_has ls 14 [(11, .int (nI (b1 + 1))), (10, .int (nI m1)), (9, .int (nI ((40 - d) - c2))), (8, .int (nI ((v - (d * (w 3))) - (c2 * (w 2))))), (7, .int (nI c2)), (6, .int (nI m2)), (5, .int (nI (40 - d))), (4, .int (nI (v - (d * (w 3))))), (3, .int (nI d)), (2, .int (nI m3)), (1, .int (nI v)), (0, .ref h)] := lv_sub hl [0, 3, 4, 5, 6, 7, 8, 9, 10, 11, 12, 13] rfl
            have hI9 : mx_I w n v (mx_k (b1 + 1) c2 d) (cnt + 1) (b) bm := by rw [mx_ks]; exact (mx_Ikeep p0 hI1 hmix (by omega))
            exact k1 _ _ _ (b1 + 1, bf, b, cnt + 1, bm) ⟨hl, hP, hD, hS, (fun _ j hj => hbm (by rcases hI1.2.2 with ⟨_, q, _⟩ | ⟨q, _⟩ <;> omega) j hj), hI9, by show b1 + 1 ≤ m1 + 1; omega⟩ (by show m1 + 1 - (b1 + 1) < m1 + 1 - b1; omega)
