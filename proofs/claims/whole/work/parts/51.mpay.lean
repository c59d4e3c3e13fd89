set_option maxRecDepth 100000 in
set_option maxHeartbeats 4000000 in
theorem c1_pay (l : Launch) (D : va_G) (tys : List (ClassId × FieldType)) (cI cZ : ClassId) (hI : tys[0]? = some (cI, .int)) (hZ : tys[1]? = some (cZ, .boolean)) (g g1 g2 g3 g4 : Nat) (fr : va_W) (sz : Nat) (wf nf cf kf : Nat → Int32) (fw mx th : Int32) (w n : Nat → Nat) (ok : nmOk wf nf w n) (x y : Int32) : Met l yX1_pay wsX1_pay ({ frames := 3, cells := 0, slots := 0, locals := 90 }) (va_Pc [.ref g, .int x, .int y] (zz_pre D tys (mdW cI cZ g g1 g2 g3 g4 wf nf cf kf fw mx th fr) sz)) (va_Qi (fun r (u : (Nat → Int32) × (Nat → Int32) × Int32 × Int32 × Int32) => (u.2.2.2.2 = nI 0 ∧ ∃ v jam : Nat, v ≤ 2000 ∧ jam ≤ 40 ∧ x = nI v ∧ y = nI jam ∧ ∃ (bm : Nat → Nat) (o3 o2 o1 o0 : Nat), mx_B w n v (bm 0) (bm 1) (bm 2) (bm 3) ∧ o3 = min (bm 3) jam ∧ o2 = min (bm 2) (jam - o3) ∧ o1 = min (bm 1) (jam - o3 - o2) ∧ o0 = min (bm 0) (jam - o3 - o2 - o1) ∧ r = nI (0 + o3 * w 3 + o2 * w 2 + o1 * w 1 + o0 * w 0) ∧ u.1 0 = nI (n 0 - o0) ∧ u.1 1 = nI (n 1 - o1) ∧ u.1 2 = nI (n 2 - o2) ∧ u.1 3 = nI (n 3 - o3)) ∨ (u.2.2.2.2 = nI 1 ∧ ¬ (zr y 0 40 ∧ zr x 0 2000) ∧ u.1 = nf) ∨ (u.2.2.2.2 = nI 2 ∧ u.1 = nf ∧ zr y 0 40 ∧ ∃ v : Nat, v ≤ 2000 ∧ x = nI v ∧ ¬ mx_has w n v)) (zz_B D tys (va_A (mdW cI cZ g g1 g2 g3 g4 wf nf cf kf fw mx th fr) sz) (fun u => mdW cI cZ g g1 g2 g3 g4 wf u.1 u.2.1 kf u.2.2.1 u.2.2.2.1 u.2.2.2.2 fr)) (va_A (mdW cI cZ g g1 g2 g3 g4 wf nf cf kf fw mx th fr) sz)) 0 0 (va_A (mdW cI cZ g g1 g2 g3 g4 wf nf cf kf fw mx th fr) sz) := by
  refine zz_headI (cc := cX1_pay) (by decide) rfl (Nat.le_of_ble_eq_true rfl) ?_
  intro p e s m below meth cd A ls F hr hlocks hP hK hD hA hS hl
  obtain ⟨hx, hb, hml, hown, hts⟩ := id F
  have hl : lv_has ls 7 [(0, .ref g), (1, .int x), (2, .int y)] := hl
  by_cases hz : zr y 0 40
  · have hz0 := hz
    obtain ⟨jam, hj0, hj, rfl⟩ := hz
    refine lv_aload_n hx hb dX1_pay_0 rfl (lv_at hl 0 rfl) ?_
    refine lv_iload_n hx hb dX1_pay_1 rfl (lv_at hl 2 rfl) ?_
    refine lv_iconst (v := nI 0) hx hb dX1_pay_2 (by decide +kernel) ?_
    refine lv_bipush (v := nI 40) hx hb dX1_pay_3 (by decide +kernel) ?_
    refine zz_callSi (As := [.int (nI jam), .int (nI 0), .int (nI 40)]) (rest := [.ref g]) F hK hP hD hS hA (c1_in_ok l D tys _ _ jam 0 40 hj0 hj (by decide)) (va_cwS 3 hts gX1_pay_X1_in_ rfl rfl rfl (by decide +kernel) ⟨Nat.le_of_ble_eq_true rfl, Nat.le_of_ble_eq_true rfl⟩) rfl hl.1 rfl (Nat.le_of_ble_eq_true rfl) dX1_pay_5 ⟨Nat.le_of_ble_eq_true rfl, Nat.le_of_ble_eq_true rfl⟩ (fun rr _ H locs er hP hD hS => ?_)
    try dsimp only at er
    subst er
    have hP : va_P D vwCl (mdW cI cZ g g1 g2 g3 g4 wf nf cf kf fw mx th fr) H := hP
    have hD : va_D A (mdW cI cZ g g1 g2 g3 g4 wf nf cf kf fw mx th fr) := hD
    refine zn_if_eq hx hb (by decide) dX1_pay_8 rfl (fun hc => absurd hc (by decide)) (fun _ => ?_)
    refine lv_iconst (v := nI 0) hx hb dX1_pay_11 (by decide +kernel) ?_
    refine lv_goto hx hb dX1_pay_12 rfl ?_
    refine va_put (D := D) (ci := 1) (v := .int (nI 0)) (ty := .int) (C := RX1) (T := TX1) (N := 7) hx hb hts (inX1_pay) tyX1 tyX1_ok nmX1 hown hK hP hD hS 0 rfl rfl 6 (by decide) (hts (.fieldLink RX1 23 "NoteMixModel" "thrown" "I") (by decide +kernel)) (fun _ h9 => h9) rfl (by decide +kernel) rfl rfl (Nat.le_of_ble_eq_true rfl) dX1_pay_16 (fun H locs hP hD hS => ?_)
    have hP : va_P D vwCl (mdW cI cZ g g1 g2 g3 g4 wf nf cf kf fw mx (nI 0) fr) H := hP
    have hD : va_D A (mdW cI cZ g g1 g2 g3 g4 wf nf cf kf fw mx (nI 0) fr) := hD
    refine lv_aload_n hx hb dX1_pay_19 rfl (lv_at hl 0 rfl) ?_
    refine va_get (D := D) (ci := 1) (v := .int (nI 0)) (C := RX1) (T := TX1) (N := 7) hx hb hts (inX1_pay) hown hK hP 0 rfl rfl 6 (by decide) (hts (.fieldLink RX1 23 "NoteMixModel" "thrown" "I") (by decide +kernel)) (fun _ h9 => h9) rfl dX1_pay_20 ?_
    refine lv_if_gt hx hb dX1_pay_23 rfl (fun hc => absurd hc (by decide +kernel)) (fun _ => ?_)
    refine lv_aload_n hx hb dX1_pay_26 rfl (lv_at hl 0 rfl) ?_
    refine lv_iload_n hx hb dX1_pay_27 rfl (lv_at hl 1 rfl) ?_
    refine zz_callVi (As := [.int x]) (rest := []) F hK hP hD hS hA (c1_isBest l D tys cI cZ hI hZ g g1 g2 g3 g4 fr _ wf nf cf kf fw mx (nI 0) w n ok x) (cwV 1 hts gX1_pay_X1_isBest rfl rfl rfl (by decide +kernel) ⟨Nat.le_of_ble_eq_true rfl, Nat.le_of_ble_eq_true rfl⟩) 0 rfl rfl rfl hl.1 rfl (Nat.le_of_ble_eq_true rfl) dX1_pay_28 ⟨Nat.le_of_ble_eq_true rfl, Nat.le_of_ble_eq_true rfl⟩ (fun rr u H locs hu hP hD hS => ?_)
    obtain ⟨cf, fw, mx, th⟩ := u
    dsimp only at hu
    have hP : va_P D vwCl (mdW cI cZ g g1 g2 g3 g4 wf nf cf kf fw mx th fr) H := hP
    have hD : va_D A (mdW cI cZ g g1 g2 g3 g4 wf nf cf kf fw mx th fr) := hD
    rcases hu with ⟨rfl, rfl, v, hv, hx9, bm, hB, e1, hbm⟩ | ⟨rfl, rfl, hz⟩ | ⟨rfl, rfl, v, hv, hx9, hno⟩
    · refine zn_if_ne hx hb (by decide) dX1_pay_31 rfl (fun _ => ?_) (fun hc => absurd hc (by decide))
      obtain ⟨m0, m1, m2, m3, m4, m5⟩ := hB.1
      obtain ⟨p0, q0, r0⟩ := ok.2.2 0 (by decide)
      obtain ⟨p1, q1, r1⟩ := ok.2.2 1 (by decide)
      obtain ⟨p2, q2, r2⟩ := ok.2.2 2 (by decide)
      obtain ⟨p3, q3, r3⟩ := ok.2.2 3 (by decide)
      refine lv_iload_n hx hb dX1_pay_36 rfl (lv_at hl 2 rfl) ?_
      refine lv_istore_n (lv' := [(3, .int (nI jam)), (0, .ref g), (1, .int x), (2, .int (nI jam))]) hx hb dX1_pay_37 rfl hl (by decide) rfl (fun ls hl => ?_)
      refine lv_iconst (v := nI 0) hx hb dX1_pay_38 (by decide +kernel) ?_
      refine lv_istore (lv' := [(4, .int (nI 0)), (3, .int (nI jam)), (0, .ref g), (1, .int x), (2, .int (nI jam))]) hx hb dX1_pay_39 hl (by decide) rfl (fun ls hl => ?_)
      refine lv_iconst (v := nI 3) hx hb dX1_pay_41 (by decide +kernel) ?_
      refine lv_istore (lv' := [(5, .int (nI 3)), (4, .int (nI 0)), (3, .int (nI jam)), (0, .ref g), (1, .int x), (2, .int (nI jam))]) hx hb dX1_pay_42 hl (by decide) rfl (fun ls hl => ?_)
      refine lv_iload hx hb dX1_pay_44 (lv_at hl 0 rfl) ?_
      refine lv_if_lt hx hb dX1_pay_46 rfl (fun hc => absurd hc (nI_pos (by decide))) (fun _ => ?_)
      refine lv_iload_n hx hb dX1_pay_49 rfl (lv_at hl 2 rfl) ?_
      refine lv_aload_n hx hb dX1_pay_50 rfl (lv_at hl 3 rfl) ?_
      refine va_get (D := D) (ci := 1) (v := .ref g3) (C := RX1) (T := TX1) (N := 7) hx hb hts (inX1_pay) hown hK hP 0 rfl rfl 2 (by decide) (hts (.fieldLink RX1 16 "NoteMixModel" "chosen" "[I") (by decide +kernel)) (fun _ h9 => h9) rfl dX1_pay_51 ?_
      refine lv_iload hx hb dX1_pay_54 (lv_at hl 0 rfl) ?_
      refine zn_iald (k := 3) hx hb hK hP 3 _ rfl hI (by decide) (by decide) (hbm 3 (by decide)) dX1_pay_56 ?_
      refine zn_min hx hb (hml.trans hl.1.symm) hown (hts (.methodLink RX1 37 Lib.Math.min.name) (by decide +kernel)) (hts (.static Lib.Math.min.name) (by decide +kernel)) (hts (.initialized "java/lang/Math") (by decide +kernel)) (hts (.code Lib.Math.min.name Lib.Math.min.code 2 (some .int)) (by decide +kernel)) (Nat.le_of_ble_eq_true rfl) (Nat.le_of_ble_eq_true rfl) (Nat.le_of_ble_eq_true rfl) (Nat.le_of_ble_eq_true rfl) (by omega) (by omega) dX1_pay_57 ?_
      obtain ⟨o3, ho3⟩ : ∃ z, z = min jam (bm 3) := ⟨_, rfl⟩
      rw [← ho3]
      refine lv_istore (lv' := [(6, .int (nI o3)), (5, .int (nI 3)), (4, .int (nI 0)), (3, .int (nI jam)), (0, .ref g), (1, .int x), (2, .int (nI jam))]) hx hb dX1_pay_60 hl (by decide) rfl (fun ls hl => ?_)
      refine lv_aload_n hx hb dX1_pay_62 rfl (lv_at hl 4 rfl) ?_
      refine va_get (D := D) (ci := 1) (v := .ref g2) (C := RX1) (T := TX1) (N := 7) hx hb hts (inX1_pay) hown hK hP 0 rfl rfl 1 (by decide) (hts (.fieldLink RX1 13 "NoteMixModel" "notes" "[I") (by decide +kernel)) (fun _ h9 => h9) rfl dX1_pay_63 ?_
      refine lv_iload hx hb dX1_pay_66 (lv_at hl 1 rfl) ?_
      refine lv_dup2_11 hx hb dX1_pay_68 rfl rfl ?_
      refine zn_iald (k := 3) hx hb hK hP 2 _ rfl hI (by decide) (by decide) (by rw [ok.2.1 3 (by decide)]) dX1_pay_69 ?_
      refine lv_iload hx hb dX1_pay_70 (lv_at hl 0 rfl) ?_
      refine zn_sub hx hb (by omega) dX1_pay_72 ?_
      refine zn_iast (k := 3) hx hb hK hP hD hS 2 _ rfl hI (by decide) (by decide) dX1_pay_73 (fun H locs nf3 nf3e nf3n hP hD hS => ?_)
      have hP : va_P D vwCl (mdW cI cZ g g1 g2 g3 g4 wf nf3 cf kf fw mx (nI 0) fr) H := hP
      have hD : va_D A (mdW cI cZ g g1 g2 g3 g4 wf nf3 cf kf fw mx (nI 0) fr) := hD
      refine lv_iload_n hx hb dX1_pay_74 rfl (lv_at hl 3 rfl) ?_
      refine lv_iload hx hb dX1_pay_75 (lv_at hl 0 rfl) ?_
      refine zn_sub hx hb (by omega) dX1_pay_77 ?_
      refine lv_istore_n (lv' := [(3, .int (nI (jam - o3))), (6, .int (nI o3)), (5, .int (nI 3)), (4, .int (nI 0)), (0, .ref g), (1, .int x), (2, .int (nI jam))]) hx hb dX1_pay_78 rfl hl (by decide) rfl (fun ls hl => ?_)
      refine lv_iload hx hb dX1_pay_79 (lv_at hl 3 rfl) ?_
      refine lv_iload hx hb dX1_pay_81 (lv_at hl 1 rfl) ?_
      refine lv_aload_n hx hb dX1_pay_83 rfl (lv_at hl 4 rfl) ?_
      refine va_get (D := D) (ci := 1) (v := .ref g1) (C := RX1) (T := TX1) (N := 7) hx hb hts (inX1_pay) hown hK hP 0 rfl rfl 0 (by decide) (hts (.fieldLink RX1 7 "NoteMixModel" "worth" "[I") (by decide +kernel)) (fun _ h9 => h9) rfl dX1_pay_84 ?_
      refine lv_iload hx hb dX1_pay_87 (lv_at hl 2 rfl) ?_
      refine zn_iald (k := 3) hx hb hK hP 1 _ rfl hI (by decide) (by decide) (ok.1 3 (by omega)) dX1_pay_89 ?_
      refine zn_mul hx hb dX1_pay_90 ?_
      refine zn_add hx hb dX1_pay_91 ?_
      refine lv_istore (lv' := [(4, .int (nI (0 + (o3 * (w 3))))), (3, .int (nI (jam - o3))), (6, .int (nI o3)), (5, .int (nI 3)), (0, .ref g), (1, .int x), (2, .int (nI jam))]) hx hb dX1_pay_92 hl (by decide) rfl (fun ls hl => ?_)
      refine lv_iinc (k := 3) (lv' := [(5, .int (nI 2)), (4, .int (nI (0 + (o3 * (w 3))))), (3, .int (nI (jam - o3))), (6, .int (nI o3)), (0, .ref g), (1, .int x), (2, .int (nI jam))]) hx hb dX1_pay_94 hl rfl (zz_d1 2) (by decide) rfl (fun ls hl => ?_)
      refine lv_goto hx hb dX1_pay_97 rfl ?_
      refine lv_iload hx hb dX1_pay_44 (lv_at hl 0 rfl) ?_
      refine lv_if_lt hx hb dX1_pay_46 rfl (fun hc => absurd hc (nI_pos (by decide))) (fun _ => ?_)
      refine lv_iload_n hx hb dX1_pay_49 rfl (lv_at hl 2 rfl) ?_
      refine lv_aload_n hx hb dX1_pay_50 rfl (lv_at hl 4 rfl) ?_
      refine va_get (D := D) (ci := 1) (v := .ref g3) (C := RX1) (T := TX1) (N := 7) hx hb hts (inX1_pay) hown hK hP 0 rfl rfl 2 (by decide) (hts (.fieldLink RX1 16 "NoteMixModel" "chosen" "[I") (by decide +kernel)) (fun _ h9 => h9) rfl dX1_pay_51 ?_
      refine lv_iload hx hb dX1_pay_54 (lv_at hl 0 rfl) ?_
      refine zn_iald (k := 2) hx hb hK hP 3 _ rfl hI (by decide) (by decide) (hbm 2 (by decide)) dX1_pay_56 ?_
      refine zn_min hx hb (hml.trans hl.1.symm) hown (hts (.methodLink RX1 37 Lib.Math.min.name) (by decide +kernel)) (hts (.static Lib.Math.min.name) (by decide +kernel)) (hts (.initialized "java/lang/Math") (by decide +kernel)) (hts (.code Lib.Math.min.name Lib.Math.min.code 2 (some .int)) (by decide +kernel)) (Nat.le_of_ble_eq_true rfl) (Nat.le_of_ble_eq_true rfl) (Nat.le_of_ble_eq_true rfl) (Nat.le_of_ble_eq_true rfl) (by omega) (by omega) dX1_pay_57 ?_
      obtain ⟨o2, ho2⟩ : ∃ z, z = min (jam - o3) (bm 2) := ⟨_, rfl⟩
      rw [← ho2]
      refine lv_istore (lv' := [(6, .int (nI o2)), (5, .int (nI 2)), (4, .int (nI (0 + (o3 * (w 3))))), (3, .int (nI (jam - o3))), (0, .ref g), (1, .int x), (2, .int (nI jam))]) hx hb dX1_pay_60 hl (by decide) rfl (fun ls hl => ?_)
      refine lv_aload_n hx hb dX1_pay_62 rfl (lv_at hl 4 rfl) ?_
      refine va_get (D := D) (ci := 1) (v := .ref g2) (C := RX1) (T := TX1) (N := 7) hx hb hts (inX1_pay) hown hK hP 0 rfl rfl 1 (by decide) (hts (.fieldLink RX1 13 "NoteMixModel" "notes" "[I") (by decide +kernel)) (fun _ h9 => h9) rfl dX1_pay_63 ?_
      refine lv_iload hx hb dX1_pay_66 (lv_at hl 1 rfl) ?_
      refine lv_dup2_11 hx hb dX1_pay_68 rfl rfl ?_
      refine zn_iald (k := 2) hx hb hK hP 2 _ rfl hI (by decide) (by decide) (by rw [nf3n 2 (by decide), ok.2.1 2 (by decide)]) dX1_pay_69 ?_
      refine lv_iload hx hb dX1_pay_70 (lv_at hl 0 rfl) ?_
      refine zn_sub hx hb (by omega) dX1_pay_72 ?_
      refine zn_iast (k := 2) hx hb hK hP hD hS 2 _ rfl hI (by decide) (by decide) dX1_pay_73 (fun H locs nf2 nf2e nf2n hP hD hS => ?_)
      have hP : va_P D vwCl (mdW cI cZ g g1 g2 g3 g4 wf nf2 cf kf fw mx (nI 0) fr) H := hP
      have hD : va_D A (mdW cI cZ g g1 g2 g3 g4 wf nf2 cf kf fw mx (nI 0) fr) := hD
      refine lv_iload_n hx hb dX1_pay_74 rfl (lv_at hl 3 rfl) ?_
      refine lv_iload hx hb dX1_pay_75 (lv_at hl 0 rfl) ?_
      refine zn_sub hx hb (by omega) dX1_pay_77 ?_
      refine lv_istore_n (lv' := [(3, .int (nI ((jam - o3) - o2))), (6, .int (nI o2)), (5, .int (nI 2)), (4, .int (nI (0 + (o3 * (w 3))))), (0, .ref g), (1, .int x), (2, .int (nI jam))]) hx hb dX1_pay_78 rfl hl (by decide) rfl (fun ls hl => ?_)
      refine lv_iload hx hb dX1_pay_79 (lv_at hl 3 rfl) ?_
      refine lv_iload hx hb dX1_pay_81 (lv_at hl 1 rfl) ?_
      refine lv_aload_n hx hb dX1_pay_83 rfl (lv_at hl 4 rfl) ?_
      refine va_get (D := D) (ci := 1) (v := .ref g1) (C := RX1) (T := TX1) (N := 7) hx hb hts (inX1_pay) hown hK hP 0 rfl rfl 0 (by decide) (hts (.fieldLink RX1 7 "NoteMixModel" "worth" "[I") (by decide +kernel)) (fun _ h9 => h9) rfl dX1_pay_84 ?_
      refine lv_iload hx hb dX1_pay_87 (lv_at hl 2 rfl) ?_
      refine zn_iald (k := 2) hx hb hK hP 1 _ rfl hI (by decide) (by decide) (ok.1 2 (by omega)) dX1_pay_89 ?_
      refine zn_mul hx hb dX1_pay_90 ?_
      refine zn_add hx hb dX1_pay_91 ?_
      refine lv_istore (lv' := [(4, .int (nI ((0 + (o3 * (w 3))) + (o2 * (w 2))))), (3, .int (nI ((jam - o3) - o2))), (6, .int (nI o2)), (5, .int (nI 2)), (0, .ref g), (1, .int x), (2, .int (nI jam))]) hx hb dX1_pay_92 hl (by decide) rfl (fun ls hl => ?_)
      refine lv_iinc (k := 3) (lv' := [(5, .int (nI 1)), (4, .int (nI ((0 + (o3 * (w 3))) + (o2 * (w 2))))), (3, .int (nI ((jam - o3) - o2))), (6, .int (nI o2)), (0, .ref g), (1, .int x), (2, .int (nI jam))]) hx hb dX1_pay_94 hl rfl (zz_d1 1) (by decide) rfl (fun ls hl => ?_)
      refine lv_goto hx hb dX1_pay_97 rfl ?_
      refine lv_iload hx hb dX1_pay_44 (lv_at hl 0 rfl) ?_
      refine lv_if_lt hx hb dX1_pay_46 rfl (fun hc => absurd hc (nI_pos (by decide))) (fun _ => ?_)
      refine lv_iload_n hx hb dX1_pay_49 rfl (lv_at hl 2 rfl) ?_
      refine lv_aload_n hx hb dX1_pay_50 rfl (lv_at hl 4 rfl) ?_
      refine va_get (D := D) (ci := 1) (v := .ref g3) (C := RX1) (T := TX1) (N := 7) hx hb hts (inX1_pay) hown hK hP 0 rfl rfl 2 (by decide) (hts (.fieldLink RX1 16 "NoteMixModel" "chosen" "[I") (by decide +kernel)) (fun _ h9 => h9) rfl dX1_pay_51 ?_
      refine lv_iload hx hb dX1_pay_54 (lv_at hl 0 rfl) ?_
      refine zn_iald (k := 1) hx hb hK hP 3 _ rfl hI (by decide) (by decide) (hbm 1 (by decide)) dX1_pay_56 ?_
      refine zn_min hx hb (hml.trans hl.1.symm) hown (hts (.methodLink RX1 37 Lib.Math.min.name) (by decide +kernel)) (hts (.static Lib.Math.min.name) (by decide +kernel)) (hts (.initialized "java/lang/Math") (by decide +kernel)) (hts (.code Lib.Math.min.name Lib.Math.min.code 2 (some .int)) (by decide +kernel)) (Nat.le_of_ble_eq_true rfl) (Nat.le_of_ble_eq_true rfl) (Nat.le_of_ble_eq_true rfl) (Nat.le_of_ble_eq_true rfl) (by omega) (by omega) dX1_pay_57 ?_
      obtain ⟨o1, ho1⟩ : ∃ z, z = min ((jam - o3) - o2) (bm 1) := ⟨_, rfl⟩
      rw [← ho1]
      refine lv_istore (lv' := [(6, .int (nI o1)), (5, .int (nI 1)), (4, .int (nI ((0 + (o3 * (w 3))) + (o2 * (w 2))))), (3, .int (nI ((jam - o3) - o2))), (0, .ref g), (1, .int x), (2, .int (nI jam))]) hx hb dX1_pay_60 hl (by decide) rfl (fun ls hl => ?_)
      refine lv_aload_n hx hb dX1_pay_62 rfl (lv_at hl 4 rfl) ?_
      refine va_get (D := D) (ci := 1) (v := .ref g2) (C := RX1) (T := TX1) (N := 7) hx hb hts (inX1_pay) hown hK hP 0 rfl rfl 1 (by decide) (hts (.fieldLink RX1 13 "NoteMixModel" "notes" "[I") (by decide +kernel)) (fun _ h9 => h9) rfl dX1_pay_63 ?_
      refine lv_iload hx hb dX1_pay_66 (lv_at hl 1 rfl) ?_
      refine lv_dup2_11 hx hb dX1_pay_68 rfl rfl ?_
      refine zn_iald (k := 1) hx hb hK hP 2 _ rfl hI (by decide) (by decide) (by rw [nf2n 1 (by decide), nf3n 1 (by decide), ok.2.1 1 (by decide)]) dX1_pay_69 ?_
      refine lv_iload hx hb dX1_pay_70 (lv_at hl 0 rfl) ?_
      refine zn_sub hx hb (by omega) dX1_pay_72 ?_
      refine zn_iast (k := 1) hx hb hK hP hD hS 2 _ rfl hI (by decide) (by decide) dX1_pay_73 (fun H locs nf1 nf1e nf1n hP hD hS => ?_)
      have hP : va_P D vwCl (mdW cI cZ g g1 g2 g3 g4 wf nf1 cf kf fw mx (nI 0) fr) H := hP
      have hD : va_D A (mdW cI cZ g g1 g2 g3 g4 wf nf1 cf kf fw mx (nI 0) fr) := hD
      refine lv_iload_n hx hb dX1_pay_74 rfl (lv_at hl 3 rfl) ?_
      refine lv_iload hx hb dX1_pay_75 (lv_at hl 0 rfl) ?_
      refine zn_sub hx hb (by omega) dX1_pay_77 ?_
      refine lv_istore_n (lv' := [(3, .int (nI (((jam - o3) - o2) - o1))), (6, .int (nI o1)), (5, .int (nI 1)), (4, .int (nI ((0 + (o3 * (w 3))) + (o2 * (w 2))))), (0, .ref g), (1, .int x), (2, .int (nI jam))]) hx hb dX1_pay_78 rfl hl (by decide) rfl (fun ls hl => ?_)
      refine lv_iload hx hb dX1_pay_79 (lv_at hl 3 rfl) ?_
      refine lv_iload hx hb dX1_pay_81 (lv_at hl 1 rfl) ?_
      refine lv_aload_n hx hb dX1_pay_83 rfl (lv_at hl 4 rfl) ?_
      refine va_get (D := D) (ci := 1) (v := .ref g1) (C := RX1) (T := TX1) (N := 7) hx hb hts (inX1_pay) hown hK hP 0 rfl rfl 0 (by decide) (hts (.fieldLink RX1 7 "NoteMixModel" "worth" "[I") (by decide +kernel)) (fun _ h9 => h9) rfl dX1_pay_84 ?_
      refine lv_iload hx hb dX1_pay_87 (lv_at hl 2 rfl) ?_
      refine zn_iald (k := 1) hx hb hK hP 1 _ rfl hI (by decide) (by decide) (ok.1 1 (by omega)) dX1_pay_89 ?_
      refine zn_mul hx hb dX1_pay_90 ?_
      refine zn_add hx hb dX1_pay_91 ?_
      refine lv_istore (lv' := [(4, .int (nI (((0 + (o3 * (w 3))) + (o2 * (w 2))) + (o1 * (w 1))))), (3, .int (nI (((jam - o3) - o2) - o1))), (6, .int (nI o1)), (5, .int (nI 1)), (0, .ref g), (1, .int x), (2, .int (nI jam))]) hx hb dX1_pay_92 hl (by decide) rfl (fun ls hl => ?_)
      refine lv_iinc (k := 3) (lv' := [(5, .int (nI 0)), (4, .int (nI (((0 + (o3 * (w 3))) + (o2 * (w 2))) + (o1 * (w 1))))), (3, .int (nI (((jam - o3) - o2) - o1))), (6, .int (nI o1)), (0, .ref g), (1, .int x), (2, .int (nI jam))]) hx hb dX1_pay_94 hl rfl (zz_d1 0) (by decide) rfl (fun ls hl => ?_)
      refine lv_goto hx hb dX1_pay_97 rfl ?_
      refine lv_iload hx hb dX1_pay_44 (lv_at hl 0 rfl) ?_
      refine lv_if_lt hx hb dX1_pay_46 rfl (fun hc => absurd hc (nI_pos (by decide))) (fun _ => ?_)
      refine lv_iload_n hx hb dX1_pay_49 rfl (lv_at hl 2 rfl) ?_
      refine lv_aload_n hx hb dX1_pay_50 rfl (lv_at hl 4 rfl) ?_
      refine va_get (D := D) (ci := 1) (v := .ref g3) (C := RX1) (T := TX1) (N := 7) hx hb hts (inX1_pay) hown hK hP 0 rfl rfl 2 (by decide) (hts (.fieldLink RX1 16 "NoteMixModel" "chosen" "[I") (by decide +kernel)) (fun _ h9 => h9) rfl dX1_pay_51 ?_
      refine lv_iload hx hb dX1_pay_54 (lv_at hl 0 rfl) ?_
      refine zn_iald (k := 0) hx hb hK hP 3 _ rfl hI (by decide) (by decide) (hbm 0 (by decide)) dX1_pay_56 ?_
      refine zn_min hx hb (hml.trans hl.1.symm) hown (hts (.methodLink RX1 37 Lib.Math.min.name) (by decide +kernel)) (hts (.static Lib.Math.min.name) (by decide +kernel)) (hts (.initialized "java/lang/Math") (by decide +kernel)) (hts (.code Lib.Math.min.name Lib.Math.min.code 2 (some .int)) (by decide +kernel)) (Nat.le_of_ble_eq_true rfl) (Nat.le_of_ble_eq_true rfl) (Nat.le_of_ble_eq_true rfl) (Nat.le_of_ble_eq_true rfl) (by omega) (by omega) dX1_pay_57 ?_
      obtain ⟨o0, ho0⟩ : ∃ z, z = min (((jam - o3) - o2) - o1) (bm 0) := ⟨_, rfl⟩
      rw [← ho0]
      refine lv_istore (lv' := [(6, .int (nI o0)), (5, .int (nI 0)), (4, .int (nI (((0 + (o3 * (w 3))) + (o2 * (w 2))) + (o1 * (w 1))))), (3, .int (nI (((jam - o3) - o2) - o1))), (0, .ref g), (1, .int x), (2, .int (nI jam))]) hx hb dX1_pay_60 hl (by decide) rfl (fun ls hl => ?_)
      refine lv_aload_n hx hb dX1_pay_62 rfl (lv_at hl 4 rfl) ?_
      refine va_get (D := D) (ci := 1) (v := .ref g2) (C := RX1) (T := TX1) (N := 7) hx hb hts (inX1_pay) hown hK hP 0 rfl rfl 1 (by decide) (hts (.fieldLink RX1 13 "NoteMixModel" "notes" "[I") (by decide +kernel)) (fun _ h9 => h9) rfl dX1_pay_63 ?_
      refine lv_iload hx hb dX1_pay_66 (lv_at hl 1 rfl) ?_
      refine lv_dup2_11 hx hb dX1_pay_68 rfl rfl ?_
      refine zn_iald (k := 0) hx hb hK hP 2 _ rfl hI (by decide) (by decide) (by rw [nf1n 0 (by decide), nf2n 0 (by decide), nf3n 0 (by decide), ok.2.1 0 (by decide)]) dX1_pay_69 ?_
      refine lv_iload hx hb dX1_pay_70 (lv_at hl 0 rfl) ?_
      refine zn_sub hx hb (by omega) dX1_pay_72 ?_
      refine zn_iast (k := 0) hx hb hK hP hD hS 2 _ rfl hI (by decide) (by decide) dX1_pay_73 (fun H locs nf0 nf0e nf0n hP hD hS => ?_)
      have hP : va_P D vwCl (mdW cI cZ g g1 g2 g3 g4 wf nf0 cf kf fw mx (nI 0) fr) H := hP
      have hD : va_D A (mdW cI cZ g g1 g2 g3 g4 wf nf0 cf kf fw mx (nI 0) fr) := hD
      refine lv_iload_n hx hb dX1_pay_74 rfl (lv_at hl 3 rfl) ?_
      refine lv_iload hx hb dX1_pay_75 (lv_at hl 0 rfl) ?_
      refine zn_sub hx hb (by omega) dX1_pay_77 ?_
      refine lv_istore_n (lv' := [(3, .int (nI ((((jam - o3) - o2) - o1) - o0))), (6, .int (nI o0)), (5, .int (nI 0)), (4, .int (nI (((0 + (o3 * (w 3))) + (o2 * (w 2))) + (o1 * (w 1))))), (0, .ref g), (1, .int x), (2, .int (nI jam))]) hx hb dX1_pay_78 rfl hl (by decide) rfl (fun ls hl => ?_)
      refine lv_iload hx hb dX1_pay_79 (lv_at hl 3 rfl) ?_
      refine lv_iload hx hb dX1_pay_81 (lv_at hl 1 rfl) ?_
      refine lv_aload_n hx hb dX1_pay_83 rfl (lv_at hl 4 rfl) ?_
      refine va_get (D := D) (ci := 1) (v := .ref g1) (C := RX1) (T := TX1) (N := 7) hx hb hts (inX1_pay) hown hK hP 0 rfl rfl 0 (by decide) (hts (.fieldLink RX1 7 "NoteMixModel" "worth" "[I") (by decide +kernel)) (fun _ h9 => h9) rfl dX1_pay_84 ?_
      refine lv_iload hx hb dX1_pay_87 (lv_at hl 2 rfl) ?_
      refine zn_iald (k := 0) hx hb hK hP 1 _ rfl hI (by decide) (by decide) (ok.1 0 (by omega)) dX1_pay_89 ?_
      refine zn_mul hx hb dX1_pay_90 ?_
      refine zn_add hx hb dX1_pay_91 ?_
      refine lv_istore (lv' := [(4, .int (nI ((((0 + (o3 * (w 3))) + (o2 * (w 2))) + (o1 * (w 1))) + (o0 * (w 0))))), (3, .int (nI ((((jam - o3) - o2) - o1) - o0))), (6, .int (nI o0)), (5, .int (nI 0)), (0, .ref g), (1, .int x), (2, .int (nI jam))]) hx hb dX1_pay_92 hl (by decide) rfl (fun ls hl => ?_)
      refine lv_iinc (k := 3) (lv' := [(5, .int (-1)), (4, .int (nI ((((0 + (o3 * (w 3))) + (o2 * (w 2))) + (o1 * (w 1))) + (o0 * (w 0))))), (3, .int (nI ((((jam - o3) - o2) - o1) - o0))), (6, .int (nI o0)), (0, .ref g), (1, .int x), (2, .int (nI jam))]) hx hb dX1_pay_94 hl rfl (by decide +kernel) (by decide) rfl (fun ls hl => ?_)
      refine lv_goto hx hb dX1_pay_97 rfl ?_
      refine lv_iload hx hb dX1_pay_44 (lv_at hl 0 rfl) ?_
      refine lv_if_lt hx hb dX1_pay_46 rfl (fun _ => ?_) (fun hc => absurd (by decide +kernel) hc)
      refine lv_iload hx hb dX1_pay_100 (lv_at hl 1 rfl) ?_
      exact zz_iret F hr hlocks hK hS dX1_pay_102 (by decide) (by decide) (nf0, cf, fw, mx, nI 0) (Or.inl ⟨rfl, v, jam, hv, hj, hx9, rfl, bm, o3, o2, o1, o0, hB, ho3.trans (Nat.min_comm _ _), ho2.trans (Nat.min_comm _ _), ho1.trans (Nat.min_comm _ _), ho0.trans (Nat.min_comm _ _), rfl, (by show nf0 0 = nI _; rw [nf0e]), (by show nf0 1 = nI _; rw [nf0n 1 (by decide), nf1e]), (by show nf0 2 = nI _; rw [nf0n 2 (by decide), nf1n 2 (by decide), nf2e]), (by show nf0 3 = nI _; rw [nf0n 3 (by decide), nf1n 3 (by decide), nf2n 3 (by decide), nf3e])⟩) hP hD
    · refine zn_if_ne hx hb (by decide) dX1_pay_31 rfl (fun hc => absurd hc (by decide)) (fun _ => ?_)
      refine lv_iconst (v := nI 0) hx hb dX1_pay_34 (by decide +kernel) ?_
      exact zz_iret F hr hlocks hK hS dX1_pay_35 (by decide) (by decide) (nf, cf, fw, mx, nI 1) (Or.inr (Or.inl ⟨rfl, (fun q => hz q.2), rfl⟩)) hP hD
    · refine zn_if_ne hx hb (by decide) dX1_pay_31 rfl (fun hc => absurd hc (by decide)) (fun _ => ?_)
      refine lv_iconst (v := nI 0) hx hb dX1_pay_34 (by decide +kernel) ?_
      exact zz_iret F hr hlocks hK hS dX1_pay_35 (by decide) (by decide) (nf, cf, fw, mx, nI 2) (Or.inr (Or.inr ⟨rfl, rfl, hz0, v, hv, hx9, hno⟩)) hP hD
  · refine lv_aload_n hx hb dX1_pay_0 rfl (lv_at hl 0 rfl) ?_
    refine lv_iload_n hx hb dX1_pay_1 rfl (lv_at hl 2 rfl) ?_
    refine lv_iconst (v := nI 0) hx hb dX1_pay_2 (by decide +kernel) ?_
    refine lv_bipush (v := nI 40) hx hb dX1_pay_3 (by decide +kernel) ?_
    refine zz_callSi (As := [.int y, .int (nI 0), .int (nI 40)]) (rest := [.ref g]) F hK hP hD hS hA (c1_in_bad l D tys _ _ y 0 40 hz (by decide) (by decide)) (va_cwS 3 hts gX1_pay_X1_in_ rfl rfl rfl (by decide +kernel) ⟨Nat.le_of_ble_eq_true rfl, Nat.le_of_ble_eq_true rfl⟩) rfl hl.1 rfl (Nat.le_of_ble_eq_true rfl) dX1_pay_5 ⟨Nat.le_of_ble_eq_true rfl, Nat.le_of_ble_eq_true rfl⟩ (fun rr _ H locs er hP hD hS => ?_)
    try dsimp only at er
    subst er
    have hP : va_P D vwCl (mdW cI cZ g g1 g2 g3 g4 wf nf cf kf fw mx th fr) H := hP
    have hD : va_D A (mdW cI cZ g g1 g2 g3 g4 wf nf cf kf fw mx th fr) := hD
    refine zn_if_eq hx hb (by decide) dX1_pay_8 rfl (fun _ => ?_) (fun hc => absurd hc (by decide))
    refine lv_iconst (v := nI 1) hx hb dX1_pay_15 (by decide +kernel) ?_
    refine va_put (D := D) (ci := 1) (v := .int (nI 1)) (ty := .int) (C := RX1) (T := TX1) (N := 7) hx hb hts (inX1_pay) tyX1 tyX1_ok nmX1 hown hK hP hD hS 0 rfl rfl 6 (by decide) (hts (.fieldLink RX1 23 "NoteMixModel" "thrown" "I") (by decide +kernel)) (fun _ h9 => h9) rfl (by decide +kernel) rfl rfl (Nat.le_of_ble_eq_true rfl) dX1_pay_16 (fun H locs hP hD hS => ?_)
    have hP : va_P D vwCl (mdW cI cZ g g1 g2 g3 g4 wf nf cf kf fw mx (nI 1) fr) H := hP
    have hD : va_D A (mdW cI cZ g g1 g2 g3 g4 wf nf cf kf fw mx (nI 1) fr) := hD
    refine lv_aload_n hx hb dX1_pay_19 rfl (lv_at hl 0 rfl) ?_
    refine va_get (D := D) (ci := 1) (v := .int (nI 1)) (C := RX1) (T := TX1) (N := 7) hx hb hts (inX1_pay) hown hK hP 0 rfl rfl 6 (by decide) (hts (.fieldLink RX1 23 "NoteMixModel" "thrown" "I") (by decide +kernel)) (fun _ h9 => h9) rfl dX1_pay_20 ?_
    refine lv_if_gt hx hb dX1_pay_23 rfl (fun _ => ?_) (fun hc => absurd (by decide +kernel) hc)
    refine lv_iconst (v := nI 0) hx hb dX1_pay_34 (by decide +kernel) ?_
    exact zz_iret F hr hlocks hK hS dX1_pay_35 (by decide) (by decide) (nf, cf, fw, mx, nI 1) (Or.inr (Or.inl ⟨rfl, (fun q => hz q.1), rfl⟩)) hP hD
