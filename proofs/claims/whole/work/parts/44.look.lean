set_option maxRecDepth 100000 in
set_option maxHeartbeats 4000000 in
theorem c1_look (l : Launch) (D : va_G) (tys : List (ClassId × FieldType)) (cI cZ : ClassId) (hI : tys[0]? = some (cI, .int)) (hZ : tys[1]? = some (cZ, .boolean)) (g g1 g2 g3 g4 : Nat) (fr : va_W) (sz : Nat) (wf nf cf kf : Nat → Int32) (fw mx th : Int32) (w n : Nat → Nat) (ok : nmOk wf nf w n) (v : Nat) (hv : v ≤ 2000) : Met l yX1_look wsX1_look ({ frames := 1, cells := 0, slots := 0, locals := 30 }) (va_Pc [.ref g, .int (nI v)] (zz_pre D tys (mdW cI cZ g g1 g2 g3 g4 wf nf cf kf fw mx th fr) sz)) (va_Qv (fun (u : (Nat → Int32) × Int32 × Int32) => ∃ (cnt b : Nat) (bm : Nat → Nat), u.2.1 = nI b ∧ u.2.2 = nI cnt ∧ (0 < cnt → ∀ j, j < 4 → u.1 j = nI (bm j)) ∧ mx_E w n v cnt b bm) (zz_B D tys (va_A (mdW cI cZ g g1 g2 g3 g4 wf nf cf kf fw mx th fr) sz) (fun u => mdW cI cZ g g1 g2 g3 g4 wf nf u.1 kf u.2.1 u.2.2 th fr)) (va_A (mdW cI cZ g g1 g2 g3 g4 wf nf cf kf fw mx th fr) sz)) 0 0 (va_A (mdW cI cZ g g1 g2 g3 g4 wf nf cf kf fw mx th fr) sz) := by
  refine zz_headV (cc := cX1_look) (by decide) rfl (Nat.le_of_ble_eq_true rfl) ?_
  intro p e s m below meth cd A ls F hr hlocks hin hP hK hD hA hS hl
  obtain ⟨hx, hb, hml, hown, hts⟩ := id F
  have hl : lv_has ls 7 [(0, .ref g), (1, .int (nI v))] := hl
  obtain ⟨p0, p1, p2⟩ := ok.2.2 0 (by decide)
  obtain ⟨q0, q1, q2⟩ := ok.2.2 1 (by decide)
  obtain ⟨r0, r1, r2⟩ := ok.2.2 2 (by decide)
  obtain ⟨t0, t1, t2⟩ := ok.2.2 3 (by decide)
  refine lv_aload_n hx hb dX1_look_0 rfl (lv_at hl 0 rfl) ?_
  refine lv_iconst (v := nI 0) hx hb dX1_look_1 (by decide +kernel) ?_
  refine va_put (D := D) (ci := 1) (v := .int (nI 0)) (ty := .int) (C := RX1) (T := TX1) (N := 7) hx hb hts (inX1_look) tyX1 tyX1_ok nmX1 hown hK hP hD hS 0 rfl rfl 5 (by decide) (hts (.fieldLink RX1 31 "NoteMixModel" "mixes" "I") (by decide +kernel)) (fun _ h9 => h9) rfl (by decide +kernel) rfl rfl (Nat.le_of_ble_eq_true rfl) dX1_look_2 (fun H locs hP hD hS => ?_)
  have hP : va_P D vwCl (mdW cI cZ g g1 g2 g3 g4 wf nf cf kf fw (nI 0) th fr) H := hP
  have hD : va_D A (mdW cI cZ g g1 g2 g3 g4 wf nf cf kf fw (nI 0) th fr) := hD
  refine lv_aload_n hx hb dX1_look_5 rfl (lv_at hl 0 rfl) ?_
  refine lv_bipush (v := nI 41) hx hb dX1_look_6 (by decide +kernel) ?_
  refine va_put (D := D) (ci := 1) (v := .int (nI 41)) (ty := .int) (C := RX1) (T := TX1) (N := 7) hx hb hts (inX1_look) tyX1 tyX1_ok nmX1 hown hK hP hD hS 0 rfl rfl 4 (by decide) (hts (.fieldLink RX1 34 "NoteMixModel" "fewest" "I") (by decide +kernel)) (fun _ h9 => h9) rfl (by decide +kernel) rfl rfl (Nat.le_of_ble_eq_true rfl) dX1_look_8 (fun H locs hP hD hS => ?_)
  have hP : va_P D vwCl (mdW cI cZ g g1 g2 g3 g4 wf nf cf kf (nI 41) (nI 0) th fr) H := hP
  have hD : va_D A (mdW cI cZ g g1 g2 g3 g4 wf nf cf kf (nI 41) (nI 0) th fr) := hD
  refine lv_aload_n hx hb dX1_look_11 rfl (lv_at hl 0 rfl) ?_
  refine va_get (D := D) (ci := 1) (v := .ref g2) (C := RX1) (T := TX1) (N := 7) hx hb hts (inX1_look) hown hK hP 0 rfl rfl 1 (by decide) (hts (.fieldLink RX1 13 "NoteMixModel" "notes" "[I") (by decide +kernel)) (fun _ h9 => h9) rfl dX1_look_12 ?_
  refine lv_iconst (v := nI 3) hx hb dX1_look_15 (by decide +kernel) ?_
  refine zn_iald (k := 3) hx hb hK hP 2 _ rfl hI (by omega) (by decide) (ok.2.1 3 (by omega)) dX1_look_16 ?_
  refine lv_bipush (v := nI 40) hx hb dX1_look_17 (by decide +kernel) ?_
  refine zn_min hx hb (hml.trans hl.1.symm) hown (hts (.methodLink RX1 37 Lib.Math.min.name) (by decide +kernel)) (hts (.static Lib.Math.min.name) (by decide +kernel)) (hts (.initialized "java/lang/Math") (by decide +kernel)) (hts (.code Lib.Math.min.name Lib.Math.min.code 2 (some .int)) (by decide +kernel)) (Nat.le_of_ble_eq_true rfl) (Nat.le_of_ble_eq_true rfl) (Nat.le_of_ble_eq_true rfl) (Nat.le_of_ble_eq_true rfl) (by omega) (by omega) dX1_look_19 ?_
  refine lv_istore_n (lv' := [(2, .int (nI (min (n 3) 40))), (0, .ref g), (1, .int (nI v))]) hx hb dX1_look_22 rfl hl (by decide) rfl (fun ls hl => ?_)
  have hl : lv_has ls 7 [(2, .int (nI (min (n 3) 40))), (1, .int (nI v)), (0, .ref g)] := lv_sub hl [0, 2, 1] rfl
  rw [← nI_pred (min (n 3) 40)] at hl
  refine zz_loop (fun ls H locs (u : Nat × (Nat → Int32) × Nat × Nat × (Nat → Nat)) => lv_has ls 7 [(2, .int (nI u.1 - 1)), (1, .int (nI v)), (0, .ref g)] ∧ va_P D vwCl (mdW cI cZ g g1 g2 g3 g4 wf nf u.2.1 kf (nI u.2.2.1) (nI u.2.2.2.1) th fr) H ∧ va_D A (mdW cI cZ g g1 g2 g3 g4 wf nf u.2.1 kf (nI u.2.2.1) (nI u.2.2.2.1) th fr) ∧ va_S A s.heap H locs ∧ (0 < u.2.2.2.1 → ∀ j, j < 4 → u.2.1 j = nI (u.2.2.2.2 j)) ∧ mx_J w n v (mx_k 0 0 u.1) u.2.2.2.1 u.2.2.1 u.2.2.2.2 ∧ u.1 ≤ min (n 3) 40 + 1) (fun u => u.1) ?_ (min (n 3) 40 + 1, cf, 41, 0, fun _ => 0) ⟨hl, hP, hD, hS, fun h9 => absurd h9 (Nat.lt_irrefl 0), mx_Jskip mx_J0 (by unfold mx_k; omega) md_skip3, Nat.le_refl _⟩
  rintro ls H locs ⟨d1, cf, b, cnt, bm⟩ ⟨hl, hP, hD, hS, hbm, hI3, hd⟩ k3
  dsimp only at hl hP hD hbm hI3 hd k3
  refine lv_iload_n hx hb dX1_look_23 rfl (lv_at hl 0 rfl) ?_
  refine zn_if_ltm hx hb (by omega) dX1_look_24 rfl (fun hc3 => ?_) (fun hc3 => ?_)
  · rw [hc3] at hI3
    have hI3 : mx_J w n v 0 cnt b bm := hI3
    exact zz_vret F hr hlocks hK hS dX1_look_247 (by decide) (by decide) (cf, nI b, nI cnt) ⟨cnt, b, bm, rfl, rfl, hbm, mx_Jend hI3⟩ hP hD
  · obtain ⟨d, rfl⟩ : ∃ d, d1 = d + 1 := ⟨d1 - 1, by omega⟩
    rw [nI_pred] at hl
    refine lv_aload_n hx hb dX1_look_27 rfl (lv_at hl 2 rfl) ?_
    refine va_get (D := D) (ci := 1) (v := .ref g2) (C := RX1) (T := TX1) (N := 7) hx hb hts (inX1_look) hown hK hP 0 rfl rfl 1 (by decide) (hts (.fieldLink RX1 13 "NoteMixModel" "notes" "[I") (by decide +kernel)) (fun _ h9 => h9) rfl dX1_look_28 ?_
    refine lv_iconst (v := nI 2) hx hb dX1_look_31 (by decide +kernel) ?_
    refine zn_iald (k := 2) hx hb hK hP 2 _ rfl hI (by omega) (by decide) (ok.2.1 2 (by omega)) dX1_look_32 ?_
    refine lv_bipush (v := nI 40) hx hb dX1_look_33 (by decide +kernel) ?_
    refine lv_iload_n hx hb dX1_look_35 rfl (lv_at hl 0 rfl) ?_
    refine zn_sub hx hb (by omega) dX1_look_36 ?_
    refine zn_min hx hb (hml.trans hl.1.symm) hown (hts (.methodLink RX1 37 Lib.Math.min.name) (by decide +kernel)) (hts (.static Lib.Math.min.name) (by decide +kernel)) (hts (.initialized "java/lang/Math") (by decide +kernel)) (hts (.code Lib.Math.min.name Lib.Math.min.code 2 (some .int)) (by decide +kernel)) (Nat.le_of_ble_eq_true rfl) (Nat.le_of_ble_eq_true rfl) (Nat.le_of_ble_eq_true rfl) (Nat.le_of_ble_eq_true rfl) (by omega) (by omega) dX1_look_37 ?_
    refine lv_istore_n (lv' := [(3, .int (nI (min (n 2) (40 - d)))), (2, .int (nI d)), (1, .int (nI v)), (0, .ref g)]) hx hb dX1_look_40 rfl hl (by decide) rfl (fun ls hl => ?_)
    have hl : lv_has ls 7 [(3, .int (nI (min (n 2) (40 - d)))), (2, .int (nI d)), (1, .int (nI v)), (0, .ref g)] := lv_sub hl [0, 1, 2, 3] rfl
    rw [← nI_pred (min (n 2) (40 - d))] at hl
    refine zz_loop (fun ls H locs (u : Nat × (Nat → Int32) × Nat × Nat × (Nat → Nat)) => lv_has ls 7 [(3, .int (nI u.1 - 1)), (2, .int (nI d)), (1, .int (nI v)), (0, .ref g)] ∧ va_P D vwCl (mdW cI cZ g g1 g2 g3 g4 wf nf u.2.1 kf (nI u.2.2.1) (nI u.2.2.2.1) th fr) H ∧ va_D A (mdW cI cZ g g1 g2 g3 g4 wf nf u.2.1 kf (nI u.2.2.1) (nI u.2.2.2.1) th fr) ∧ va_S A s.heap H locs ∧ (0 < u.2.2.2.1 → ∀ j, j < 4 → u.2.1 j = nI (u.2.2.2.2 j)) ∧ mx_J w n v (mx_k 0 u.1 d) u.2.2.2.1 u.2.2.1 u.2.2.2.2 ∧ u.1 ≤ min (n 2) (40 - d) + 1) (fun u => u.1) ?_ (min (n 2) (40 - d) + 1, cf, b, cnt, bm) ⟨hl, hP, hD, hS, hbm, mx_Jskip hI3 (by unfold mx_k; omega) md_skip2, Nat.le_refl _⟩
    rintro ls H locs ⟨c1, cf, b, cnt, bm⟩ ⟨hl, hP, hD, hS, hbm, hI2, hc⟩ k2
    dsimp only at hl hP hD hbm hI2 hc k2
    refine lv_iload_n hx hb dX1_look_41 rfl (lv_at hl 0 rfl) ?_
    refine zn_if_ltm hx hb (by omega) dX1_look_42 rfl (fun hc2 => ?_) (fun hc2 => ?_)
    · rw [hc2] at hI2
      refine lv_iinc (k := 1) (lv' := [(2, .int (nI d - 1)), (3, .int (nI c1 - 1)), (1, .int (nI v)), (0, .ref g)]) hx hb dX1_look_241 hl rfl (zz_m1 _) (by decide) rfl (fun ls hl => ?_)
      refine lv_goto hx hb dX1_look_244 rfl ?_
      have hl : lv_has ls 7 [(2, .int (nI d - 1)), (1, .int (nI v)), (0, .ref g)] := lv_sub hl [0, 2, 3] rfl
      exact k3 _ _ _ (d, cf, b, cnt, bm) ⟨hl, hP, hD, hS, hbm, hI2, by show d ≤ min (n 3) 40 + 1; omega⟩ (by show d < d + 1; omega)
    · obtain ⟨c2, rfl⟩ : ∃ c, c1 = c + 1 := ⟨c1 - 1, by omega⟩
      rw [nI_pred] at hl
      refine lv_aload_n hx hb dX1_look_45 rfl (lv_at hl 3 rfl) ?_
      refine va_get (D := D) (ci := 1) (v := .ref g2) (C := RX1) (T := TX1) (N := 7) hx hb hts (inX1_look) hown hK hP 0 rfl rfl 1 (by decide) (hts (.fieldLink RX1 13 "NoteMixModel" "notes" "[I") (by decide +kernel)) (fun _ h9 => h9) rfl dX1_look_46 ?_
      refine lv_iconst (v := nI 1) hx hb dX1_look_49 (by decide +kernel) ?_
      refine zn_iald (k := 1) hx hb hK hP 2 _ rfl hI (by omega) (by decide) (ok.2.1 1 (by omega)) dX1_look_50 ?_
      refine lv_bipush (v := nI 40) hx hb dX1_look_51 (by decide +kernel) ?_
      refine lv_iload_n hx hb dX1_look_53 rfl (lv_at hl 1 rfl) ?_
      refine zn_sub hx hb (by omega) dX1_look_54 ?_
      refine lv_iload_n hx hb dX1_look_55 rfl (lv_at hl 0 rfl) ?_
      refine zn_sub hx hb (by omega) dX1_look_56 ?_
      refine zn_min hx hb (hml.trans hl.1.symm) hown (hts (.methodLink RX1 37 Lib.Math.min.name) (by decide +kernel)) (hts (.static Lib.Math.min.name) (by decide +kernel)) (hts (.initialized "java/lang/Math") (by decide +kernel)) (hts (.code Lib.Math.min.name Lib.Math.min.code 2 (some .int)) (by decide +kernel)) (Nat.le_of_ble_eq_true rfl) (Nat.le_of_ble_eq_true rfl) (Nat.le_of_ble_eq_true rfl) (Nat.le_of_ble_eq_true rfl) (by omega) (by omega) dX1_look_57 ?_
      refine lv_istore (lv' := [(4, .int (nI (min (n 1) ((40 - d) - c2)))), (3, .int (nI c2)), (2, .int (nI d)), (1, .int (nI v)), (0, .ref g)]) hx hb dX1_look_60 hl (by decide) rfl (fun ls hl => ?_)
      have hl : lv_has ls 7 [(4, .int (nI (min (n 1) ((40 - d) - c2)))), (3, .int (nI c2)), (2, .int (nI d)), (1, .int (nI v)), (0, .ref g)] := lv_sub hl [0, 1, 2, 3, 4] rfl
      rw [← nI_pred (min (n 1) (40 - d - c2))] at hl
      refine zz_loop (fun ls H locs (u : Nat × (Nat → Int32) × Nat × Nat × (Nat → Nat)) => lv_has ls 7 [(4, .int (nI u.1 - 1)), (3, .int (nI c2)), (2, .int (nI d)), (1, .int (nI v)), (0, .ref g)] ∧ va_P D vwCl (mdW cI cZ g g1 g2 g3 g4 wf nf u.2.1 kf (nI u.2.2.1) (nI u.2.2.2.1) th fr) H ∧ va_D A (mdW cI cZ g g1 g2 g3 g4 wf nf u.2.1 kf (nI u.2.2.1) (nI u.2.2.2.1) th fr) ∧ va_S A s.heap H locs ∧ (0 < u.2.2.2.1 → ∀ j, j < 4 → u.2.1 j = nI (u.2.2.2.2 j)) ∧ mx_J w n v (mx_k u.1 c2 d) u.2.2.2.1 u.2.2.1 u.2.2.2.2 ∧ u.1 ≤ min (n 1) (40 - d - c2) + 1) (fun u => u.1) ?_ (min (n 1) (40 - d - c2) + 1, cf, b, cnt, bm) ⟨hl, hP, hD, hS, hbm, mx_Jskip hI2 (by unfold mx_k; omega) (md_skip1 (by omega)), Nat.le_refl _⟩
      rintro ls H locs ⟨bb, cf, b, cnt, bm⟩ ⟨hl, hP, hD, hS, hbm, hI1, hb1⟩ k1
      dsimp only at hl hP hD hbm hI1 hb1 k1
      refine lv_iload hx hb dX1_look_62 (lv_at hl 0 rfl) ?_
      refine zn_if_ltm hx hb (by omega) dX1_look_64 rfl (fun hc1 => ?_) (fun hc1 => ?_)
      · rw [hc1] at hI1
        refine lv_iinc (k := 1) (lv' := [(3, .int (nI c2 - 1)), (4, .int (nI bb - 1)), (2, .int (nI d)), (1, .int (nI v)), (0, .ref g)]) hx hb dX1_look_235 hl rfl (zz_m1 _) (by decide) rfl (fun ls hl => ?_)
        refine lv_goto hx hb dX1_look_238 rfl ?_
        have hl : lv_has ls 7 [(3, .int (nI c2 - 1)), (2, .int (nI d)), (1, .int (nI v)), (0, .ref g)] := lv_sub hl [0, 2, 3, 4] rfl
        exact k2 _ _ _ (c2, cf, b, cnt, bm) ⟨hl, hP, hD, hS, hbm, hI1, by show c2 ≤ min (n 2) (40 - d) + 1; omega⟩ (by show c2 < c2 + 1; omega)
      · obtain ⟨b1, rfl⟩ : ∃ c, bb = c + 1 := ⟨bb - 1, by omega⟩
        rw [nI_pred] at hl
        rw [mx_ks] at hI1
        have hb41 := mx_Jbs hI1
        have z3 : d * w 3 ≤ 40 * 500 := Nat.mul_le_mul (by omega) t1
        have z2 : c2 * w 2 ≤ 40 * 500 := Nat.mul_le_mul (by omega) r1
        have z1 : b1 * w 1 ≤ 40 * 500 := Nat.mul_le_mul (by omega) q1
        refine lv_iload_n hx hb dX1_look_67 rfl (lv_at hl 3 rfl) ?_
        refine lv_iload_n hx hb dX1_look_68 rfl (lv_at hl 2 rfl) ?_
        refine lv_aload_n hx hb dX1_look_69 rfl (lv_at hl 4 rfl) ?_
        refine va_get (D := D) (ci := 1) (v := .ref g1) (C := RX1) (T := TX1) (N := 7) hx hb hts (inX1_look) hown hK hP 0 rfl rfl 0 (by decide) (hts (.fieldLink RX1 7 "NoteMixModel" "worth" "[I") (by decide +kernel)) (fun _ h9 => h9) rfl dX1_look_70 ?_
        refine lv_iconst (v := nI 3) hx hb dX1_look_73 (by decide +kernel) ?_
        refine zn_iald (k := 3) hx hb hK hP 1 _ rfl hI (by omega) (by decide) (ok.1 3 (by omega)) dX1_look_74 ?_
        refine zn_mul hx hb dX1_look_75 ?_
        refine lv_isub hx hb dX1_look_76 ?_
        refine lv_iload_n hx hb dX1_look_77 rfl (lv_at hl 1 rfl) ?_
        refine lv_aload_n hx hb dX1_look_78 rfl (lv_at hl 4 rfl) ?_
        refine va_get (D := D) (ci := 1) (v := .ref g1) (C := RX1) (T := TX1) (N := 7) hx hb hts (inX1_look) hown hK hP 0 rfl rfl 0 (by decide) (hts (.fieldLink RX1 7 "NoteMixModel" "worth" "[I") (by decide +kernel)) (fun _ h9 => h9) rfl dX1_look_79 ?_
        refine lv_iconst (v := nI 2) hx hb dX1_look_82 (by decide +kernel) ?_
        refine zn_iald (k := 2) hx hb hK hP 1 _ rfl hI (by omega) (by decide) (ok.1 2 (by omega)) dX1_look_83 ?_
        refine zn_mul hx hb dX1_look_84 ?_
        refine lv_isub hx hb dX1_look_85 ?_
        refine lv_iload hx hb dX1_look_86 (lv_at hl 0 rfl) ?_
        refine lv_aload_n hx hb dX1_look_88 rfl (lv_at hl 4 rfl) ?_
        refine va_get (D := D) (ci := 1) (v := .ref g1) (C := RX1) (T := TX1) (N := 7) hx hb hts (inX1_look) hown hK hP 0 rfl rfl 0 (by decide) (hts (.fieldLink RX1 7 "NoteMixModel" "worth" "[I") (by decide +kernel)) (fun _ h9 => h9) rfl dX1_look_89 ?_
        refine lv_iconst (v := nI 1) hx hb dX1_look_92 (by decide +kernel) ?_
        refine zn_iald (k := 1) hx hb hK hP 1 _ rfl hI (by omega) (by decide) (ok.1 1 (by omega)) dX1_look_93 ?_
        refine zn_mul hx hb dX1_look_94 ?_
        refine lv_isub hx hb dX1_look_95 ?_
        refine lv_istore (lv' := [(5, .int ((((nI v) - (nI (d * (w 3)))) - (nI (c2 * (w 2)))) - (nI (b1 * (w 1))))), (4, .int (nI b1)), (3, .int (nI c2)), (2, .int (nI d)), (1, .int (nI v)), (0, .ref g)]) hx hb dX1_look_96 hl (by decide) rfl (fun ls hl => ?_)
        refine lv_iload hx hb dX1_look_98 (lv_at hl 0 rfl) ?_
        refine lv_if_lt hx hb dX1_look_100 rfl (fun hq => ?_) (fun hq => ?_)
        · refine lv_iinc (k := 1) (lv' := [(4, .int (nI b1 - 1)), (5, .int ((((nI v) - (nI (d * (w 3)))) - (nI (c2 * (w 2)))) - (nI (b1 * (w 1))))), (3, .int (nI c2)), (2, .int (nI d)), (1, .int (nI v)), (0, .ref g)]) hx hb dX1_look_229 hl rfl (zz_m1 _) (by decide) rfl (fun ls hl => ?_)
          refine lv_goto hx hb dX1_look_232 rfl ?_
          have hl : lv_has ls 7 [(4, .int (nI b1 - 1)), (3, .int (nI c2)), (2, .int (nI d)), (1, .int (nI v)), (0, .ref g)] := lv_sub hl [0, 2, 3, 4, 5] rfl
          have hI9 : mx_J w n v (mx_k b1 c2 d) (cnt) (b) bm := (mx_Jnone (by omega) (by omega) hI1 (fun a9 h9 => absurd hq (by rw [zz_pos3 (md_inv p0 h9).1]; exact nI_pos (by omega))))
          have hb9 : 0 < cnt → ∀ j, j < 4 → cf j = nI (bm j) := hbm
          exact k1 _ _ _ (b1, cf, b, cnt, bm) ⟨hl, hP, hD, hS, hb9, hI9, by show b1 ≤ min (n 1) (40 - d - c2) + 1; omega⟩ (by show b1 < b1 + 1; omega)
        · have hle : d * w 3 + c2 * w 2 + b1 * w 1 ≤ v := Nat.le_of_not_lt (fun h9 => hq (zz_neg3 (by omega) (by omega) (by omega) (by omega) h9))
          rw [zz_pos3 hle] at hl
          refine lv_iload hx hb dX1_look_103 (lv_at hl 0 rfl) ?_
          refine lv_aload_n hx hb dX1_look_105 rfl (lv_at hl 5 rfl) ?_
          refine va_get (D := D) (ci := 1) (v := .ref g1) (C := RX1) (T := TX1) (N := 7) hx hb hts (inX1_look) hown hK hP 0 rfl rfl 0 (by decide) (hts (.fieldLink RX1 7 "NoteMixModel" "worth" "[I") (by decide +kernel)) (fun _ h9 => h9) rfl dX1_look_106 ?_
          refine lv_iconst (v := nI 0) hx hb dX1_look_109 (by decide +kernel) ?_
          refine zn_iald (k := 0) hx hb hK hP 1 _ rfl hI (by omega) (by decide) (ok.1 0 (by omega)) dX1_look_110 ?_
          refine zn_rem hx hb (by omega) p0 (by omega) dX1_look_111 ?_
          have hrem : (v - d * w 3 - c2 * w 2 - b1 * w 1) % (w 0) < w 0 := Nat.mod_lt _ p0
          refine zn_if_eq hx hb (by omega) dX1_look_112 rfl (fun hq2 => ?_) (fun hq2 => ?_)
          · have hdiv : (v - d * w 3 - c2 * w 2 - b1 * w 1) / (w 0) ≤ v - d * w 3 - c2 * w 2 - b1 * w 1 := Nat.div_le_self _ _
            refine lv_iload hx hb dX1_look_118 (lv_at hl 0 rfl) ?_
            refine lv_aload_n hx hb dX1_look_120 rfl (lv_at hl 5 rfl) ?_
            refine va_get (D := D) (ci := 1) (v := .ref g1) (C := RX1) (T := TX1) (N := 7) hx hb hts (inX1_look) hown hK hP 0 rfl rfl 0 (by decide) (hts (.fieldLink RX1 7 "NoteMixModel" "worth" "[I") (by decide +kernel)) (fun _ h9 => h9) rfl dX1_look_121 ?_
            refine lv_iconst (v := nI 0) hx hb dX1_look_124 (by decide +kernel) ?_
            refine zn_iald (k := 0) hx hb hK hP 1 _ rfl hI (by omega) (by decide) (ok.1 0 (by omega)) dX1_look_125 ?_
            refine zn_div hx hb (by omega) (by omega) (by omega) dX1_look_126 ?_
            refine lv_istore (lv' := [(6, .int (nI ((v - d * w 3 - c2 * w 2 - b1 * w 1) / (w 0)))), (5, .int (nI (v - d * w 3 - c2 * w 2 - b1 * w 1))), (4, .int (nI b1)), (3, .int (nI c2)), (2, .int (nI d)), (1, .int (nI v)), (0, .ref g)]) hx hb dX1_look_127 hl (by decide) rfl (fun ls hl => ?_)
            refine lv_iload hx hb dX1_look_129 (lv_at hl 0 rfl) ?_
            refine lv_aload_n hx hb dX1_look_131 rfl (lv_at hl 6 rfl) ?_
            refine va_get (D := D) (ci := 1) (v := .ref g2) (C := RX1) (T := TX1) (N := 7) hx hb hts (inX1_look) hown hK hP 0 rfl rfl 1 (by decide) (hts (.fieldLink RX1 13 "NoteMixModel" "notes" "[I") (by decide +kernel)) (fun _ h9 => h9) rfl dX1_look_132 ?_
            refine lv_iconst (v := nI 0) hx hb dX1_look_135 (by decide +kernel) ?_
            refine zn_iald (k := 0) hx hb hK hP 2 _ rfl hI (by omega) (by decide) (ok.2.1 0 (by omega)) dX1_look_136 ?_
            refine zn_gt hx hb (by omega) (by omega) dX1_look_137 rfl (fun hq3 => ?_) (fun hq3 => ?_)
            · refine lv_iinc (k := 2) (lv' := [(4, .int (nI b1 - 1)), (6, .int (nI ((v - d * w 3 - c2 * w 2 - b1 * w 1) / (w 0)))), (5, .int (nI (v - d * w 3 - c2 * w 2 - b1 * w 1))), (3, .int (nI c2)), (2, .int (nI d)), (1, .int (nI v)), (0, .ref g)]) hx hb dX1_look_229 hl rfl (zz_m1 _) (by decide) rfl (fun ls hl => ?_)
              refine lv_goto hx hb dX1_look_232 rfl ?_
              have hl : lv_has ls 7 [(4, .int (nI b1 - 1)), (3, .int (nI c2)), (2, .int (nI d)), (1, .int (nI v)), (0, .ref g)] := lv_sub hl [0, 3, 4, 5, 6] rfl
              have hI9 : mx_J w n v (mx_k b1 c2 d) (cnt) (b) bm := (mx_Jnone (by omega) (by omega) hI1 (fun a9 h9 => absurd h9.1 (by rw [← (md_inv p0 h9).2.2]; omega)))
              have hb9 : 0 < cnt → ∀ j, j < 4 → cf j = nI (bm j) := hbm
              exact k1 _ _ _ (b1, cf, b, cnt, bm) ⟨hl, hP, hD, hS, hb9, hI9, by show b1 ≤ min (n 1) (40 - d - c2) + 1; omega⟩ (by show b1 < b1 + 1; omega)
            · refine lv_iload_n hx hb dX1_look_140 rfl (lv_at hl 4 rfl) ?_
              refine lv_iload_n hx hb dX1_look_141 rfl (lv_at hl 3 rfl) ?_
              refine zn_add hx hb dX1_look_142 ?_
              refine lv_iload hx hb dX1_look_143 (lv_at hl 2 rfl) ?_
              refine zn_add hx hb dX1_look_145 ?_
              refine lv_iload hx hb dX1_look_146 (lv_at hl 0 rfl) ?_
              refine zn_add hx hb dX1_look_148 ?_
              refine lv_bipush (v := nI 40) hx hb dX1_look_149 (by decide +kernel) ?_
              refine zn_le hx hb (by omega) (by omega) dX1_look_151 rfl (fun hq4 => ?_) (fun hq4 => ?_)
              · have hmix := md_mix (by omega) (by omega) (by omega) hle hq2 hq3 hq4
                generalize (v - d * w 3 - c2 * w 2 - b1 * w 1) / (w 0) = x0 at hmix hdiv hq3 hq4 hl ⊢
                refine lv_aload_n hx hb dX1_look_157 rfl (lv_at hl 6 rfl) ?_
                refine lv_dup hx hb dX1_look_158 rfl ?_
                refine va_get (D := D) (ci := 1) (v := .int (nI cnt)) (C := RX1) (T := TX1) (N := 7) hx hb hts (inX1_look) hown hK hP 0 rfl rfl 5 (by decide) (hts (.fieldLink RX1 31 "NoteMixModel" "mixes" "I") (by decide +kernel)) (fun _ h9 => h9) rfl dX1_look_159 ?_
                refine lv_iconst (v := nI 1) hx hb dX1_look_162 (by decide +kernel) ?_
                refine zn_add hx hb dX1_look_163 ?_
                refine va_put (D := D) (ci := 1) (v := .int (nI (cnt + 1))) (ty := .int) (C := RX1) (T := TX1) (N := 7) hx hb hts (inX1_look) tyX1 tyX1_ok nmX1 hown hK hP hD hS 0 rfl rfl 5 (by decide) (hts (.fieldLink RX1 31 "NoteMixModel" "mixes" "I") (by decide +kernel)) (fun _ h9 => h9) rfl (by decide +kernel) rfl rfl (Nat.le_of_ble_eq_true rfl) dX1_look_164 (fun H locs hP hD hS => ?_)
                have hP : va_P D vwCl (mdW cI cZ g g1 g2 g3 g4 wf nf cf kf (nI b) (nI (cnt + 1)) th fr) H := hP
                have hD : va_D A (mdW cI cZ g g1 g2 g3 g4 wf nf cf kf (nI b) (nI (cnt + 1)) th fr) := hD
                refine lv_iload_n hx hb dX1_look_167 rfl (lv_at hl 4 rfl) ?_
                refine lv_iload_n hx hb dX1_look_168 rfl (lv_at hl 3 rfl) ?_
                refine zn_add hx hb dX1_look_169 ?_
                refine lv_iload hx hb dX1_look_170 (lv_at hl 2 rfl) ?_
                refine zn_add hx hb dX1_look_172 ?_
                refine lv_iload hx hb dX1_look_173 (lv_at hl 0 rfl) ?_
                refine zn_add hx hb dX1_look_175 ?_
                refine lv_aload_n hx hb dX1_look_176 rfl (lv_at hl 6 rfl) ?_
                refine va_get (D := D) (ci := 1) (v := .int (nI b)) (C := RX1) (T := TX1) (N := 7) hx hb hts (inX1_look) hown hK hP 0 rfl rfl 4 (by decide) (hts (.fieldLink RX1 34 "NoteMixModel" "fewest" "I") (by decide +kernel)) (fun _ h9 => h9) rfl dX1_look_177 ?_
                refine zn_lt hx hb (by omega) (by omega) dX1_look_180 rfl (fun hq5 => ?_) (fun hq5 => ?_)
                · refine lv_aload_n hx hb dX1_look_186 rfl (lv_at hl 6 rfl) ?_
                  refine lv_iload_n hx hb dX1_look_187 rfl (lv_at hl 4 rfl) ?_
                  refine lv_iload_n hx hb dX1_look_188 rfl (lv_at hl 3 rfl) ?_
                  refine zn_add hx hb dX1_look_189 ?_
                  refine lv_iload hx hb dX1_look_190 (lv_at hl 2 rfl) ?_
                  refine zn_add hx hb dX1_look_192 ?_
                  refine lv_iload hx hb dX1_look_193 (lv_at hl 0 rfl) ?_
                  refine zn_add hx hb dX1_look_195 ?_
                  refine va_put (D := D) (ci := 1) (v := .int (nI (((d + c2) + b1) + x0))) (ty := .int) (C := RX1) (T := TX1) (N := 7) hx hb hts (inX1_look) tyX1 tyX1_ok nmX1 hown hK hP hD hS 0 rfl rfl 4 (by decide) (hts (.fieldLink RX1 34 "NoteMixModel" "fewest" "I") (by decide +kernel)) (fun _ h9 => h9) rfl (by decide +kernel) rfl rfl (Nat.le_of_ble_eq_true rfl) dX1_look_196 (fun H locs hP hD hS => ?_)
                  have hP : va_P D vwCl (mdW cI cZ g g1 g2 g3 g4 wf nf cf kf (nI (((d + c2) + b1) + x0)) (nI (cnt + 1)) th fr) H := hP
                  have hD : va_D A (mdW cI cZ g g1 g2 g3 g4 wf nf cf kf (nI (((d + c2) + b1) + x0)) (nI (cnt + 1)) th fr) := hD
                  refine lv_aload_n hx hb dX1_look_199 rfl (lv_at hl 6 rfl) ?_
                  refine va_get (D := D) (ci := 1) (v := .ref g3) (C := RX1) (T := TX1) (N := 7) hx hb hts (inX1_look) hown hK hP 0 rfl rfl 2 (by decide) (hts (.fieldLink RX1 16 "NoteMixModel" "chosen" "[I") (by decide +kernel)) (fun _ h9 => h9) rfl dX1_look_200 ?_
                  refine lv_iconst (v := nI 0) hx hb dX1_look_203 (by decide +kernel) ?_
                  refine lv_iload hx hb dX1_look_204 (lv_at hl 0 rfl) ?_
                  refine zn_iast (k := 0) hx hb hK hP hD hS 3 _ rfl hI (by decide) (by decide) dX1_look_206 (fun H locs cf1 cf1e cf1n hP hD hS => ?_)
                  have hP : va_P D vwCl (mdW cI cZ g g1 g2 g3 g4 wf nf cf1 kf (nI (((d + c2) + b1) + x0)) (nI (cnt + 1)) th fr) H := hP
                  have hD : va_D A (mdW cI cZ g g1 g2 g3 g4 wf nf cf1 kf (nI (((d + c2) + b1) + x0)) (nI (cnt + 1)) th fr) := hD
                  refine lv_aload_n hx hb dX1_look_207 rfl (lv_at hl 6 rfl) ?_
                  refine va_get (D := D) (ci := 1) (v := .ref g3) (C := RX1) (T := TX1) (N := 7) hx hb hts (inX1_look) hown hK hP 0 rfl rfl 2 (by decide) (hts (.fieldLink RX1 16 "NoteMixModel" "chosen" "[I") (by decide +kernel)) (fun _ h9 => h9) rfl dX1_look_208 ?_
                  refine lv_iconst (v := nI 1) hx hb dX1_look_211 (by decide +kernel) ?_
                  refine lv_iload hx hb dX1_look_212 (lv_at hl 2 rfl) ?_
                  refine zn_iast (k := 1) hx hb hK hP hD hS 3 _ rfl hI (by decide) (by decide) dX1_look_214 (fun H locs cf2 cf2e cf2n hP hD hS => ?_)
                  have hP : va_P D vwCl (mdW cI cZ g g1 g2 g3 g4 wf nf cf2 kf (nI (((d + c2) + b1) + x0)) (nI (cnt + 1)) th fr) H := hP
                  have hD : va_D A (mdW cI cZ g g1 g2 g3 g4 wf nf cf2 kf (nI (((d + c2) + b1) + x0)) (nI (cnt + 1)) th fr) := hD
                  refine lv_aload_n hx hb dX1_look_215 rfl (lv_at hl 6 rfl) ?_
                  refine va_get (D := D) (ci := 1) (v := .ref g3) (C := RX1) (T := TX1) (N := 7) hx hb hts (inX1_look) hown hK hP 0 rfl rfl 2 (by decide) (hts (.fieldLink RX1 16 "NoteMixModel" "chosen" "[I") (by decide +kernel)) (fun _ h9 => h9) rfl dX1_look_216 ?_
                  refine lv_iconst (v := nI 2) hx hb dX1_look_219 (by decide +kernel) ?_
                  refine lv_iload_n hx hb dX1_look_220 rfl (lv_at hl 3 rfl) ?_
                  refine zn_iast (k := 2) hx hb hK hP hD hS 3 _ rfl hI (by decide) (by decide) dX1_look_221 (fun H locs cf3 cf3e cf3n hP hD hS => ?_)
                  have hP : va_P D vwCl (mdW cI cZ g g1 g2 g3 g4 wf nf cf3 kf (nI (((d + c2) + b1) + x0)) (nI (cnt + 1)) th fr) H := hP
                  have hD : va_D A (mdW cI cZ g g1 g2 g3 g4 wf nf cf3 kf (nI (((d + c2) + b1) + x0)) (nI (cnt + 1)) th fr) := hD
                  refine lv_aload_n hx hb dX1_look_222 rfl (lv_at hl 6 rfl) ?_
                  refine va_get (D := D) (ci := 1) (v := .ref g3) (C := RX1) (T := TX1) (N := 7) hx hb hts (inX1_look) hown hK hP 0 rfl rfl 2 (by decide) (hts (.fieldLink RX1 16 "NoteMixModel" "chosen" "[I") (by decide +kernel)) (fun _ h9 => h9) rfl dX1_look_223 ?_
                  refine lv_iconst (v := nI 3) hx hb dX1_look_226 (by decide +kernel) ?_
                  refine lv_iload_n hx hb dX1_look_227 rfl (lv_at hl 4 rfl) ?_
                  refine zn_iast (k := 3) hx hb hK hP hD hS 3 _ rfl hI (by decide) (by decide) dX1_look_228 (fun H locs cf4 cf4e cf4n hP hD hS => ?_)
                  have hP : va_P D vwCl (mdW cI cZ g g1 g2 g3 g4 wf nf cf4 kf (nI (((d + c2) + b1) + x0)) (nI (cnt + 1)) th fr) H := hP
                  have hD : va_D A (mdW cI cZ g g1 g2 g3 g4 wf nf cf4 kf (nI (((d + c2) + b1) + x0)) (nI (cnt + 1)) th fr) := hD
                  have es : d + c2 + b1 + x0 = x0 + b1 + c2 + d := by omega
                  rw [es] at hP hD
                  have y0 : cf4 0 = nI x0 := by rw [cf4n 0 (by decide), cf3n 0 (by decide), cf2n 0 (by decide), cf1e]
                  have y1 : cf4 1 = nI b1 := by rw [cf4n 1 (by decide), cf3n 1 (by decide), cf2e]
                  have y2 : cf4 2 = nI c2 := by rw [cf4n 2 (by decide), cf3e]
                  have y3 : cf4 3 = nI d := cf4e
                  refine lv_iinc (k := 2) (lv' := [(4, .int (nI b1 - 1)), (6, .int (nI x0)), (5, .int (nI (v - d * w 3 - c2 * w 2 - b1 * w 1))), (3, .int (nI c2)), (2, .int (nI d)), (1, .int (nI v)), (0, .ref g)]) hx hb dX1_look_229 hl rfl (zz_m1 _) (by decide) rfl (fun ls hl => ?_)
                  refine lv_goto hx hb dX1_look_232 rfl ?_
                  have hl : lv_has ls 7 [(4, .int (nI b1 - 1)), (3, .int (nI c2)), (2, .int (nI d)), (1, .int (nI v)), (0, .ref g)] := lv_sub hl [0, 3, 4, 5, 6] rfl
                  have hI9 : mx_J w n v (mx_k b1 c2 d) (cnt + 1) (x0 + b1 + c2 + d) (fun j => if j = 0 then x0 else if j = 1 then b1 else if j = 2 then c2 else d) := (mx_Jfound p0 hI1 hmix (by omega) rfl rfl rfl rfl)
                  have hb9 : 0 < cnt + 1 → ∀ j, j < 4 → cf4 j = nI ((fun j => if j = 0 then x0 else if j = 1 then b1 else if j = 2 then c2 else d) j) := (fun _ j hj => by rcases (show j = 0 ∨ j = 1 ∨ j = 2 ∨ j = 3 by omega) with rfl | rfl | rfl | rfl <;> assumption)
                  exact k1 _ _ _ (b1, cf4, x0 + b1 + c2 + d, cnt + 1, (fun j => if j = 0 then x0 else if j = 1 then b1 else if j = 2 then c2 else d)) ⟨hl, hP, hD, hS, hb9, hI9, by show b1 ≤ min (n 1) (40 - d - c2) + 1; omega⟩ (by show b1 < b1 + 1; omega)
                · refine lv_goto hx hb dX1_look_183 rfl ?_
                  refine lv_iinc (k := 2) (lv' := [(4, .int (nI b1 - 1)), (6, .int (nI x0)), (5, .int (nI (v - d * w 3 - c2 * w 2 - b1 * w 1))), (3, .int (nI c2)), (2, .int (nI d)), (1, .int (nI v)), (0, .ref g)]) hx hb dX1_look_229 hl rfl (zz_m1 _) (by decide) rfl (fun ls hl => ?_)
                  refine lv_goto hx hb dX1_look_232 rfl ?_
                  have hl : lv_has ls 7 [(4, .int (nI b1 - 1)), (3, .int (nI c2)), (2, .int (nI d)), (1, .int (nI v)), (0, .ref g)] := lv_sub hl [0, 3, 4, 5, 6] rfl
                  have hI9 : mx_J w n v (mx_k b1 c2 d) (cnt + 1) (b) bm := (mx_Jkeep p0 hI1 hmix (by omega))
                  have hb9 : 0 < cnt + 1 → ∀ j, j < 4 → cf j = nI (bm j) := (fun _ j hj => hbm (by rcases hI1.2.2 with ⟨_, q, _⟩ | ⟨q, _⟩ <;> omega) j hj)
                  exact k1 _ _ _ (b1, cf, b, cnt + 1, bm) ⟨hl, hP, hD, hS, hb9, hI9, by show b1 ≤ min (n 1) (40 - d - c2) + 1; omega⟩ (by show b1 < b1 + 1; omega)
              · refine lv_goto hx hb dX1_look_154 rfl ?_
                refine lv_iinc (k := 2) (lv' := [(4, .int (nI b1 - 1)), (6, .int (nI ((v - d * w 3 - c2 * w 2 - b1 * w 1) / (w 0)))), (5, .int (nI (v - d * w 3 - c2 * w 2 - b1 * w 1))), (3, .int (nI c2)), (2, .int (nI d)), (1, .int (nI v)), (0, .ref g)]) hx hb dX1_look_229 hl rfl (zz_m1 _) (by decide) rfl (fun ls hl => ?_)
                refine lv_goto hx hb dX1_look_232 rfl ?_
                have hl : lv_has ls 7 [(4, .int (nI b1 - 1)), (3, .int (nI c2)), (2, .int (nI d)), (1, .int (nI v)), (0, .ref g)] := lv_sub hl [0, 3, 4, 5, 6] rfl
                have hI9 : mx_J w n v (mx_k b1 c2 d) (cnt) (b) bm := (mx_Jnone (by omega) (by omega) hI1 (fun a9 h9 => absurd h9.2.2.2.2.1 (by rw [← (md_inv p0 h9).2.2]; omega)))
                have hb9 : 0 < cnt → ∀ j, j < 4 → cf j = nI (bm j) := hbm
                exact k1 _ _ _ (b1, cf, b, cnt, bm) ⟨hl, hP, hD, hS, hb9, hI9, by show b1 ≤ min (n 1) (40 - d - c2) + 1; omega⟩ (by show b1 < b1 + 1; omega)
          · refine lv_goto hx hb dX1_look_115 rfl ?_
            refine lv_iinc (k := 1) (lv' := [(4, .int (nI b1 - 1)), (5, .int (nI (v - d * w 3 - c2 * w 2 - b1 * w 1))), (3, .int (nI c2)), (2, .int (nI d)), (1, .int (nI v)), (0, .ref g)]) hx hb dX1_look_229 hl rfl (zz_m1 _) (by decide) rfl (fun ls hl => ?_)
            refine lv_goto hx hb dX1_look_232 rfl ?_
            have hl : lv_has ls 7 [(4, .int (nI b1 - 1)), (3, .int (nI c2)), (2, .int (nI d)), (1, .int (nI v)), (0, .ref g)] := lv_sub hl [0, 2, 3, 4, 5] rfl
            have hI9 : mx_J w n v (mx_k b1 c2 d) (cnt) (b) bm := (mx_Jnone (by omega) (by omega) hI1 (fun a9 h9 => absurd (md_inv p0 h9).2.1 (by omega)))
            have hb9 : 0 < cnt → ∀ j, j < 4 → cf j = nI (bm j) := hbm
            exact k1 _ _ _ (b1, cf, b, cnt, bm) ⟨hl, hP, hD, hS, hb9, hI9, by show b1 ≤ min (n 1) (40 - d - c2) + 1; omega⟩ (by show b1 < b1 + 1; omega)
