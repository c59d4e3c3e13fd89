set_option maxRecDepth 100000 in
set_option maxHeartbeats 4000000 in
theorem c_pay (l : Launch) (hl0 : l.stackTraces = false) (D : va_G) (tys : List (ClassId × FieldType)) (cI : ClassId) (hI : tys[0]? = some (cI, .int)) (h a1 a2 a3 a4 : Nat) (fr : va_W) (sz : Nat) (wf nf bf : Nat → Int32) (bs mc : Int32) (ff : Nat → Int32) (w n : Nat → Nat) (ok : nmOk wf nf w n) (x y : Int32) : vx_Met l yX0_pay wsX0_pay ({ frames := 9, cells := 1, slots := 6, locals := 190 }) (va_Pc [.ref h, .int x, .int y] (zx_pre D tys (nmW cI h a1 a2 a3 a4 wf nf bf bs mc ff fr) sz)) (va_Qi (fun r (u : (Nat → Int32) × (Nat → Int32) × Int32 × Int32) => ∃ v jam : Nat, v ≤ 2000 ∧ jam ≤ 40 ∧ x = nI v ∧ y = nI jam ∧ ∃ (bm : Nat → Nat) (o3 o2 o1 o0 : Nat), mx_B w n v (bm 0) (bm 1) (bm 2) (bm 3) ∧ o3 = min (bm 3) jam ∧ o2 = min (bm 2) (jam - o3) ∧ o1 = min (bm 1) (jam - o3 - o2) ∧ o0 = min (bm 0) (jam - o3 - o2 - o1) ∧ r = nI (0 + o3 * w 3 + o2 * w 2 + o1 * w 1 + o0 * w 0) ∧ u.1 0 = nI (n 0 - o0) ∧ u.1 1 = nI (n 1 - o1) ∧ u.1 2 = nI (n 2 - o2) ∧ u.1 3 = nI (n 3 - o3)) (zz_B D tys (va_A (nmW cI h a1 a2 a3 a4 wf nf bf bs mc ff fr) sz) (fun u => nmW cI h a1 a2 a3 a4 wf u.1 u.2.1 u.2.2.1 u.2.2.2 ff fr)) (va_A (nmW cI h a1 a2 a3 a4 wf nf bf bs mc ff fr) sz)) (zx_X (fun E (u : (Nat → Int32) × (Nat → Int32) × Int32 × Int32) => u.1 = nf ∧ ((E = "java/lang/IllegalArgumentException" ∧ ¬ (zr y 0 40 ∧ zr x 0 2000)) ∨ (E = "java/util/NoSuchElementException" ∧ zr y 0 40 ∧ ∃ v : Nat, v ≤ 2000 ∧ x = nI v ∧ ¬ mx_has w n v))) D tys (va_A (nmW cI h a1 a2 a3 a4 wf nf bf bs mc ff fr) sz) (fun u => nmW cI h a1 a2 a3 a4 wf u.1 u.2.1 u.2.2.1 u.2.2.2 ff fr)) 1 6 (va_A (nmW cI h a1 a2 a3 a4 wf nf bf bs mc ff fr) sz) := by
  refine zx_headI (cc := cX0_pay) (by decide) rfl (Nat.le_of_ble_eq_true rfl) ?_
  intro p e s m below meth cd A ls F hr hlocks htab hP hK hD hA hS hst hl
  obtain ⟨hx, hb, hml, hown, hts⟩ := id F
  have hl : lv_has ls 7 [(0, .ref h), (1, .int x), (2, .int y)] := hl
  by_cases hz : zr y 0 40
  · have hz0 := hz
    obtain ⟨jam, hj0, hj, rfl⟩ := hz
    refine lv_iload_n hx hb dX0_pay_0 rfl (lv_at hl 2 rfl) ?_
    refine lv_iconst (v := nI 0) hx hb dX0_pay_1 (by decide +kernel) ?_
    refine lv_bipush (v := nI 40) hx hb dX0_pay_2 (by decide +kernel) ?_
    refine zz_callSv (As := [.int (nI jam), .int (nI 0), .int (nI 40)]) (rest := []) F hK hP hD hS hA (c_rr_ok l D tys _ _ jam 0 40 hj0 hj (by decide)) (va_cwS 3 hts gX0_pay_X0_requireRange rfl rfl rfl (by decide +kernel) ⟨Nat.le_of_ble_eq_true rfl, Nat.le_of_ble_eq_true rfl⟩) rfl hl.1 rfl (by decide) dX0_pay_4 ⟨Nat.le_of_ble_eq_true rfl, Nat.le_of_ble_eq_true rfl⟩ (fun _ H locs _ hP hD hS => ?_)
    have hP : va_P D vwCl (nmW cI h a1 a2 a3 a4 wf nf bf bs mc ff fr) H := hP
    have hD : va_D A (nmW cI h a1 a2 a3 a4 wf nf bf bs mc ff fr) := hD
    refine lv_aload_n hx hb dX0_pay_7 rfl (lv_at hl 0 rfl) ?_
    refine lv_iload_n hx hb dX0_pay_8 rfl (lv_at hl 1 rfl) ?_
    refine zx_callVv (As := [.int x]) (rest := []) F hK hP hD hS hA hst (c_findBest l hl0 D tys cI hI h a1 a2 a3 a4 fr _ wf nf bf bs mc ff w n ok x) (cwV 1 hts gX0_pay_X0_findBest rfl rfl rfl (by decide +kernel) ⟨Nat.le_of_ble_eq_true rfl, Nat.le_of_ble_eq_true rfl⟩) 0 rfl rfl rfl hl.1 rfl (by decide) dX0_pay_9 ⟨Nat.le_of_ble_eq_true rfl, Nat.le_of_ble_eq_true rfl⟩ (fun E ce q9 u H locs hE hP hD hS g1 g2 g3 => zx_out htab hlocks hK hS g1 g2 g3 (by decide) (by decide) (nf, u) ⟨rfl, hE.elim (fun q => Or.inl ⟨q.1, fun q9 => q.2 q9.2⟩) (fun q => Or.inr ⟨q.1, hz0, q.2⟩)⟩ hP hD) (fun u H locs hu hP hD hS => ?_)
    obtain ⟨bf, bs, mc⟩ := u
    obtain ⟨v, hv, hx9, bm, hB, e1, hbm⟩ := hu
    obtain ⟨m0, m1, m2, m3, m4, m5⟩ := hB.1
    have hP : va_P D vwCl (nmW cI h a1 a2 a3 a4 wf nf bf bs mc ff fr) H := hP
    have hD : va_D A (nmW cI h a1 a2 a3 a4 wf nf bf bs mc ff fr) := hD
    obtain ⟨p0, q0, r0⟩ := ok.2.2 0 (by decide)
    obtain ⟨p1, q1, r1⟩ := ok.2.2 1 (by decide)
    obtain ⟨p2, q2, r2⟩ := ok.2.2 2 (by decide)
    obtain ⟨p3, q3, r3⟩ := ok.2.2 3 (by decide)
    refine lv_iload_n hx hb dX0_pay_12 rfl (lv_at hl 2 rfl) ?_
    refine lv_istore_n (lv' := [(3, .int (nI jam)), (0, .ref h), (1, .int x), (2, .int (nI jam))]) hx hb dX0_pay_13 rfl hl (by decide) rfl (fun ls hl => ?_)
    refine lv_iconst (v := nI 0) hx hb dX0_pay_14 (by decide +kernel) ?_
    refine lv_istore (lv' := [(4, .int (nI 0)), (3, .int (nI jam)), (0, .ref h), (1, .int x), (2, .int (nI jam))]) hx hb dX0_pay_15 hl (by decide) rfl (fun ls hl => ?_)
    refine lv_iconst (v := nI 3) hx hb dX0_pay_17 (by decide +kernel) ?_
    refine lv_istore (lv' := [(5, .int (nI 3)), (4, .int (nI 0)), (3, .int (nI jam)), (0, .ref h), (1, .int x), (2, .int (nI jam))]) hx hb dX0_pay_18 hl (by decide) rfl (fun ls hl => ?_)
    refine lv_iload hx hb dX0_pay_20 (lv_at hl 0 rfl) ?_
    refine lv_if_lt hx hb dX0_pay_22 rfl (fun hc => absurd hc (nI_pos (by decide))) (fun _ => ?_)
    refine lv_aload_n hx hb dX0_pay_25 rfl (lv_at hl 3 rfl) ?_
    refine va_get (D := D) (ci := 0) (v := .ref a3) (C := RX0) (T := TX0) (N := 6) hx hb hts (inX0_pay) hown hK hP 0 rfl rfl 2 (by decide) (hts (.fieldLink RX0 16 "NoteMix" "bestMix" "[I") (by decide +kernel)) (fun _ h9 => h9) rfl dX0_pay_26 ?_
    refine lv_iload hx hb dX0_pay_29 (lv_at hl 0 rfl) ?_
    refine zn_iald (k := 3) hx hb hK hP 3 _ rfl hI (by decide) (by decide) (hbm 3 (by decide)) dX0_pay_31 ?_
    refine lv_iload_n hx hb dX0_pay_32 rfl (lv_at hl 2 rfl) ?_
    refine zn_min hx hb (hml.trans hl.1.symm) hown (hts (.methodLink RX0 40 Lib.Math.min.name) (by decide +kernel)) (hts (.static Lib.Math.min.name) (by decide +kernel)) (hts (.initialized "java/lang/Math") (by decide +kernel)) (hts (.code Lib.Math.min.name Lib.Math.min.code 2 (some .int)) (by decide +kernel)) (Nat.le_of_ble_eq_true rfl) (Nat.le_of_ble_eq_true rfl) (Nat.le_of_ble_eq_true rfl) (Nat.le_of_ble_eq_true rfl) (by omega) (by omega) dX0_pay_33 ?_
    obtain ⟨o3, ho3⟩ : ∃ z, z = min (bm 3) jam := ⟨_, rfl⟩
    rw [← ho3]
    refine lv_istore (lv' := [(6, .int (nI o3)), (5, .int (nI 3)), (4, .int (nI 0)), (3, .int (nI jam)), (0, .ref h), (1, .int x), (2, .int (nI jam))]) hx hb dX0_pay_36 hl (by decide) rfl (fun ls hl => ?_)
    refine lv_aload_n hx hb dX0_pay_38 rfl (lv_at hl 4 rfl) ?_
    refine va_get (D := D) (ci := 0) (v := .ref a2) (C := RX0) (T := TX0) (N := 6) hx hb hts (inX0_pay) hown hK hP 0 rfl rfl 1 (by decide) (hts (.fieldLink RX0 13 "NoteMix" "notesIn" "[I") (by decide +kernel)) (fun _ h9 => h9) rfl dX0_pay_39 ?_
    refine lv_iload hx hb dX0_pay_42 (lv_at hl 1 rfl) ?_
    refine lv_dup2_11 hx hb dX0_pay_44 rfl rfl ?_
    refine zn_iald (k := 3) hx hb hK hP 2 _ rfl hI (by decide) (by decide) (by rw [ok.2.1 3 (by decide)]) dX0_pay_45 ?_
    refine lv_iload hx hb dX0_pay_46 (lv_at hl 0 rfl) ?_
    refine zn_sub hx hb (by omega) dX0_pay_48 ?_
    refine zn_iast (k := 3) hx hb hK hP hD hS 2 _ rfl hI (by decide) (by decide) dX0_pay_49 (fun H locs nf3 nf3e nf3n hP hD hS => ?_)
    have hP : va_P D vwCl (nmW cI h a1 a2 a3 a4 wf nf3 bf bs mc ff fr) H := hP
    have hD : va_D A (nmW cI h a1 a2 a3 a4 wf nf3 bf bs mc ff fr) := hD
    refine lv_iload_n hx hb dX0_pay_50 rfl (lv_at hl 3 rfl) ?_
    refine lv_iload hx hb dX0_pay_51 (lv_at hl 0 rfl) ?_
    refine zn_sub hx hb (by omega) dX0_pay_53 ?_
    refine lv_istore_n (lv' := [(3, .int (nI (jam - o3))), (6, .int (nI o3)), (5, .int (nI 3)), (4, .int (nI 0)), (0, .ref h), (1, .int x), (2, .int (nI jam))]) hx hb dX0_pay_54 rfl hl (by decide) rfl (fun ls hl => ?_)
    refine lv_iload hx hb dX0_pay_55 (lv_at hl 3 rfl) ?_
    refine lv_iload hx hb dX0_pay_57 (lv_at hl 1 rfl) ?_
    refine lv_aload_n hx hb dX0_pay_59 rfl (lv_at hl 4 rfl) ?_
    refine va_get (D := D) (ci := 0) (v := .ref a1) (C := RX0) (T := TX0) (N := 6) hx hb hts (inX0_pay) hown hK hP 0 rfl rfl 0 (by decide) (hts (.fieldLink RX0 9 "NoteMix" "worthOf" "[I") (by decide +kernel)) (fun _ h9 => h9) rfl dX0_pay_60 ?_
    refine lv_iload hx hb dX0_pay_63 (lv_at hl 2 rfl) ?_
    refine zn_iald (k := 3) hx hb hK hP 1 _ rfl hI (by decide) (by decide) (ok.1 3 (by omega)) dX0_pay_65 ?_
    refine zn_mul hx hb dX0_pay_66 ?_
    refine zn_add hx hb dX0_pay_67 ?_
    refine lv_istore (lv' := [(4, .int (nI (0 + (o3 * (w 3))))), (3, .int (nI (jam - o3))), (6, .int (nI o3)), (5, .int (nI 3)), (0, .ref h), (1, .int x), (2, .int (nI jam))]) hx hb dX0_pay_68 hl (by decide) rfl (fun ls hl => ?_)
    refine lv_iinc (k := 3) (lv' := [(5, .int (nI 2)), (4, .int (nI (0 + (o3 * (w 3))))), (3, .int (nI (jam - o3))), (6, .int (nI o3)), (0, .ref h), (1, .int x), (2, .int (nI jam))]) hx hb dX0_pay_70 hl rfl (zz_d1 2) (by decide) rfl (fun ls hl => ?_)
    refine lv_goto hx hb dX0_pay_73 rfl ?_
    refine lv_iload hx hb dX0_pay_20 (lv_at hl 0 rfl) ?_
    refine lv_if_lt hx hb dX0_pay_22 rfl (fun hc => absurd hc (nI_pos (by decide))) (fun _ => ?_)
    refine lv_aload_n hx hb dX0_pay_25 rfl (lv_at hl 4 rfl) ?_
    refine va_get (D := D) (ci := 0) (v := .ref a3) (C := RX0) (T := TX0) (N := 6) hx hb hts (inX0_pay) hown hK hP 0 rfl rfl 2 (by decide) (hts (.fieldLink RX0 16 "NoteMix" "bestMix" "[I") (by decide +kernel)) (fun _ h9 => h9) rfl dX0_pay_26 ?_
    refine lv_iload hx hb dX0_pay_29 (lv_at hl 0 rfl) ?_
    refine zn_iald (k := 2) hx hb hK hP 3 _ rfl hI (by decide) (by decide) (hbm 2 (by decide)) dX0_pay_31 ?_
    refine lv_iload_n hx hb dX0_pay_32 rfl (lv_at hl 2 rfl) ?_
    refine zn_min hx hb (hml.trans hl.1.symm) hown (hts (.methodLink RX0 40 Lib.Math.min.name) (by decide +kernel)) (hts (.static Lib.Math.min.name) (by decide +kernel)) (hts (.initialized "java/lang/Math") (by decide +kernel)) (hts (.code Lib.Math.min.name Lib.Math.min.code 2 (some .int)) (by decide +kernel)) (Nat.le_of_ble_eq_true rfl) (Nat.le_of_ble_eq_true rfl) (Nat.le_of_ble_eq_true rfl) (Nat.le_of_ble_eq_true rfl) (by omega) (by omega) dX0_pay_33 ?_
    obtain ⟨o2, ho2⟩ : ∃ z, z = min (bm 2) (jam - o3) := ⟨_, rfl⟩
    rw [← ho2]
    refine lv_istore (lv' := [(6, .int (nI o2)), (5, .int (nI 2)), (4, .int (nI (0 + (o3 * (w 3))))), (3, .int (nI (jam - o3))), (0, .ref h), (1, .int x), (2, .int (nI jam))]) hx hb dX0_pay_36 hl (by decide) rfl (fun ls hl => ?_)
    refine lv_aload_n hx hb dX0_pay_38 rfl (lv_at hl 4 rfl) ?_
    refine va_get (D := D) (ci := 0) (v := .ref a2) (C := RX0) (T := TX0) (N := 6) hx hb hts (inX0_pay) hown hK hP 0 rfl rfl 1 (by decide) (hts (.fieldLink RX0 13 "NoteMix" "notesIn" "[I") (by decide +kernel)) (fun _ h9 => h9) rfl dX0_pay_39 ?_
    refine lv_iload hx hb dX0_pay_42 (lv_at hl 1 rfl) ?_
    refine lv_dup2_11 hx hb dX0_pay_44 rfl rfl ?_
    refine zn_iald (k := 2) hx hb hK hP 2 _ rfl hI (by decide) (by decide) (by rw [nf3n 2 (by decide), ok.2.1 2 (by decide)]) dX0_pay_45 ?_
    refine lv_iload hx hb dX0_pay_46 (lv_at hl 0 rfl) ?_
    refine zn_sub hx hb (by omega) dX0_pay_48 ?_
    refine zn_iast (k := 2) hx hb hK hP hD hS 2 _ rfl hI (by decide) (by decide) dX0_pay_49 (fun H locs nf2 nf2e nf2n hP hD hS => ?_)
    have hP : va_P D vwCl (nmW cI h a1 a2 a3 a4 wf nf2 bf bs mc ff fr) H := hP
    have hD : va_D A (nmW cI h a1 a2 a3 a4 wf nf2 bf bs mc ff fr) := hD
    refine lv_iload_n hx hb dX0_pay_50 rfl (lv_at hl 3 rfl) ?_
    refine lv_iload hx hb dX0_pay_51 (lv_at hl 0 rfl) ?_
    refine zn_sub hx hb (by omega) dX0_pay_53 ?_
    refine lv_istore_n (lv' := [(3, .int (nI ((jam - o3) - o2))), (6, .int (nI o2)), (5, .int (nI 2)), (4, .int (nI (0 + (o3 * (w 3))))), (0, .ref h), (1, .int x), (2, .int (nI jam))]) hx hb dX0_pay_54 rfl hl (by decide) rfl (fun ls hl => ?_)
    refine lv_iload hx hb dX0_pay_55 (lv_at hl 3 rfl) ?_
    refine lv_iload hx hb dX0_pay_57 (lv_at hl 1 rfl) ?_
    refine lv_aload_n hx hb dX0_pay_59 rfl (lv_at hl 4 rfl) ?_
    refine va_get (D := D) (ci := 0) (v := .ref a1) (C := RX0) (T := TX0) (N := 6) hx hb hts (inX0_pay) hown hK hP 0 rfl rfl 0 (by decide) (hts (.fieldLink RX0 9 "NoteMix" "worthOf" "[I") (by decide +kernel)) (fun _ h9 => h9) rfl dX0_pay_60 ?_
    refine lv_iload hx hb dX0_pay_63 (lv_at hl 2 rfl) ?_
    refine zn_iald (k := 2) hx hb hK hP 1 _ rfl hI (by decide) (by decide) (ok.1 2 (by omega)) dX0_pay_65 ?_
    refine zn_mul hx hb dX0_pay_66 ?_
    refine zn_add hx hb dX0_pay_67 ?_
    refine lv_istore (lv' := [(4, .int (nI ((0 + (o3 * (w 3))) + (o2 * (w 2))))), (3, .int (nI ((jam - o3) - o2))), (6, .int (nI o2)), (5, .int (nI 2)), (0, .ref h), (1, .int x), (2, .int (nI jam))]) hx hb dX0_pay_68 hl (by decide) rfl (fun ls hl => ?_)
    refine lv_iinc (k := 3) (lv' := [(5, .int (nI 1)), (4, .int (nI ((0 + (o3 * (w 3))) + (o2 * (w 2))))), (3, .int (nI ((jam - o3) - o2))), (6, .int (nI o2)), (0, .ref h), (1, .int x), (2, .int (nI jam))]) hx hb dX0_pay_70 hl rfl (zz_d1 1) (by decide) rfl (fun ls hl => ?_)
    refine lv_goto hx hb dX0_pay_73 rfl ?_
    refine lv_iload hx hb dX0_pay_20 (lv_at hl 0 rfl) ?_
    refine lv_if_lt hx hb dX0_pay_22 rfl (fun hc => absurd hc (nI_pos (by decide))) (fun _ => ?_)
    refine lv_aload_n hx hb dX0_pay_25 rfl (lv_at hl 4 rfl) ?_
    refine va_get (D := D) (ci := 0) (v := .ref a3) (C := RX0) (T := TX0) (N := 6) hx hb hts (inX0_pay) hown hK hP 0 rfl rfl 2 (by decide) (hts (.fieldLink RX0 16 "NoteMix" "bestMix" "[I") (by decide +kernel)) (fun _ h9 => h9) rfl dX0_pay_26 ?_
    refine lv_iload hx hb dX0_pay_29 (lv_at hl 0 rfl) ?_
    refine zn_iald (k := 1) hx hb hK hP 3 _ rfl hI (by decide) (by decide) (hbm 1 (by decide)) dX0_pay_31 ?_
    refine lv_iload_n hx hb dX0_pay_32 rfl (lv_at hl 2 rfl) ?_
    refine zn_min hx hb (hml.trans hl.1.symm) hown (hts (.methodLink RX0 40 Lib.Math.min.name) (by decide +kernel)) (hts (.static Lib.Math.min.name) (by decide +kernel)) (hts (.initialized "java/lang/Math") (by decide +kernel)) (hts (.code Lib.Math.min.name Lib.Math.min.code 2 (some .int)) (by decide +kernel)) (Nat.le_of_ble_eq_true rfl) (Nat.le_of_ble_eq_true rfl) (Nat.le_of_ble_eq_true rfl) (Nat.le_of_ble_eq_true rfl) (by omega) (by omega) dX0_pay_33 ?_
    obtain ⟨o1, ho1⟩ : ∃ z, z = min (bm 1) ((jam - o3) - o2) := ⟨_, rfl⟩
    rw [← ho1]
    refine lv_istore (lv' := [(6, .int (nI o1)), (5, .int (nI 1)), (4, .int (nI ((0 + (o3 * (w 3))) + (o2 * (w 2))))), (3, .int (nI ((jam - o3) - o2))), (0, .ref h), (1, .int x), (2, .int (nI jam))]) hx hb dX0_pay_36 hl (by decide) rfl (fun ls hl => ?_)
    refine lv_aload_n hx hb dX0_pay_38 rfl (lv_at hl 4 rfl) ?_
    refine va_get (D := D) (ci := 0) (v := .ref a2) (C := RX0) (T := TX0) (N := 6) hx hb hts (inX0_pay) hown hK hP 0 rfl rfl 1 (by decide) (hts (.fieldLink RX0 13 "NoteMix" "notesIn" "[I") (by decide +kernel)) (fun _ h9 => h9) rfl dX0_pay_39 ?_
    refine lv_iload hx hb dX0_pay_42 (lv_at hl 1 rfl) ?_
    refine lv_dup2_11 hx hb dX0_pay_44 rfl rfl ?_
    refine zn_iald (k := 1) hx hb hK hP 2 _ rfl hI (by decide) (by decide) (by rw [nf2n 1 (by decide), nf3n 1 (by decide), ok.2.1 1 (by decide)]) dX0_pay_45 ?_
    refine lv_iload hx hb dX0_pay_46 (lv_at hl 0 rfl) ?_
    refine zn_sub hx hb (by omega) dX0_pay_48 ?_
    refine zn_iast (k := 1) hx hb hK hP hD hS 2 _ rfl hI (by decide) (by decide) dX0_pay_49 (fun H locs nf1 nf1e nf1n hP hD hS => ?_)
    have hP : va_P D vwCl (nmW cI h a1 a2 a3 a4 wf nf1 bf bs mc ff fr) H := hP
    have hD : va_D A (nmW cI h a1 a2 a3 a4 wf nf1 bf bs mc ff fr) := hD
    refine lv_iload_n hx hb dX0_pay_50 rfl (lv_at hl 3 rfl) ?_
    refine lv_iload hx hb dX0_pay_51 (lv_at hl 0 rfl) ?_
    refine zn_sub hx hb (by omega) dX0_pay_53 ?_
    refine lv_istore_n (lv' := [(3, .int (nI (((jam - o3) - o2) - o1))), (6, .int (nI o1)), (5, .int (nI 1)), (4, .int (nI ((0 + (o3 * (w 3))) + (o2 * (w 2))))), (0, .ref h), (1, .int x), (2, .int (nI jam))]) hx hb dX0_pay_54 rfl hl (by decide) rfl (fun ls hl => ?_)
    refine lv_iload hx hb dX0_pay_55 (lv_at hl 3 rfl) ?_
    refine lv_iload hx hb dX0_pay_57 (lv_at hl 1 rfl) ?_
    refine lv_aload_n hx hb dX0_pay_59 rfl (lv_at hl 4 rfl) ?_
    refine va_get (D := D) (ci := 0) (v := .ref a1) (C := RX0) (T := TX0) (N := 6) hx hb hts (inX0_pay) hown hK hP 0 rfl rfl 0 (by decide) (hts (.fieldLink RX0 9 "NoteMix" "worthOf" "[I") (by decide +kernel)) (fun _ h9 => h9) rfl dX0_pay_60 ?_
    refine lv_iload hx hb dX0_pay_63 (lv_at hl 2 rfl) ?_
    refine zn_iald (k := 1) hx hb hK hP 1 _ rfl hI (by decide) (by decide) (ok.1 1 (by omega)) dX0_pay_65 ?_
    refine zn_mul hx hb dX0_pay_66 ?_
    refine zn_add hx hb dX0_pay_67 ?_
    refine lv_istore (lv' := [(4, .int (nI (((0 + (o3 * (w 3))) + (o2 * (w 2))) + (o1 * (w 1))))), (3, .int (nI (((jam - o3) - o2) - o1))), (6, .int (nI o1)), (5, .int (nI 1)), (0, .ref h), (1, .int x), (2, .int (nI jam))]) hx hb dX0_pay_68 hl (by decide) rfl (fun ls hl => ?_)
    refine lv_iinc (k := 3) (lv' := [(5, .int (nI 0)), (4, .int (nI (((0 + (o3 * (w 3))) + (o2 * (w 2))) + (o1 * (w 1))))), (3, .int (nI (((jam - o3) - o2) - o1))), (6, .int (nI o1)), (0, .ref h), (1, .int x), (2, .int (nI jam))]) hx hb dX0_pay_70 hl rfl (zz_d1 0) (by decide) rfl (fun ls hl => ?_)
    refine lv_goto hx hb dX0_pay_73 rfl ?_
    refine lv_iload hx hb dX0_pay_20 (lv_at hl 0 rfl) ?_
    refine lv_if_lt hx hb dX0_pay_22 rfl (fun hc => absurd hc (nI_pos (by decide))) (fun _ => ?_)
    refine lv_aload_n hx hb dX0_pay_25 rfl (lv_at hl 4 rfl) ?_
    refine va_get (D := D) (ci := 0) (v := .ref a3) (C := RX0) (T := TX0) (N := 6) hx hb hts (inX0_pay) hown hK hP 0 rfl rfl 2 (by decide) (hts (.fieldLink RX0 16 "NoteMix" "bestMix" "[I") (by decide +kernel)) (fun _ h9 => h9) rfl dX0_pay_26 ?_
    refine lv_iload hx hb dX0_pay_29 (lv_at hl 0 rfl) ?_
    refine zn_iald (k := 0) hx hb hK hP 3 _ rfl hI (by decide) (by decide) (hbm 0 (by decide)) dX0_pay_31 ?_
    refine lv_iload_n hx hb dX0_pay_32 rfl (lv_at hl 2 rfl) ?_
    refine zn_min hx hb (hml.trans hl.1.symm) hown (hts (.methodLink RX0 40 Lib.Math.min.name) (by decide +kernel)) (hts (.static Lib.Math.min.name) (by decide +kernel)) (hts (.initialized "java/lang/Math") (by decide +kernel)) (hts (.code Lib.Math.min.name Lib.Math.min.code 2 (some .int)) (by decide +kernel)) (Nat.le_of_ble_eq_true rfl) (Nat.le_of_ble_eq_true rfl) (Nat.le_of_ble_eq_true rfl) (Nat.le_of_ble_eq_true rfl) (by omega) (by omega) dX0_pay_33 ?_
    obtain ⟨o0, ho0⟩ : ∃ z, z = min (bm 0) (((jam - o3) - o2) - o1) := ⟨_, rfl⟩
    rw [← ho0]
    refine lv_istore (lv' := [(6, .int (nI o0)), (5, .int (nI 0)), (4, .int (nI (((0 + (o3 * (w 3))) + (o2 * (w 2))) + (o1 * (w 1))))), (3, .int (nI (((jam - o3) - o2) - o1))), (0, .ref h), (1, .int x), (2, .int (nI jam))]) hx hb dX0_pay_36 hl (by decide) rfl (fun ls hl => ?_)
    refine lv_aload_n hx hb dX0_pay_38 rfl (lv_at hl 4 rfl) ?_
    refine va_get (D := D) (ci := 0) (v := .ref a2) (C := RX0) (T := TX0) (N := 6) hx hb hts (inX0_pay) hown hK hP 0 rfl rfl 1 (by decide) (hts (.fieldLink RX0 13 "NoteMix" "notesIn" "[I") (by decide +kernel)) (fun _ h9 => h9) rfl dX0_pay_39 ?_
    refine lv_iload hx hb dX0_pay_42 (lv_at hl 1 rfl) ?_
    refine lv_dup2_11 hx hb dX0_pay_44 rfl rfl ?_
    refine zn_iald (k := 0) hx hb hK hP 2 _ rfl hI (by decide) (by decide) (by rw [nf1n 0 (by decide), nf2n 0 (by decide), nf3n 0 (by decide), ok.2.1 0 (by decide)]) dX0_pay_45 ?_
    refine lv_iload hx hb dX0_pay_46 (lv_at hl 0 rfl) ?_
    refine zn_sub hx hb (by omega) dX0_pay_48 ?_
    refine zn_iast (k := 0) hx hb hK hP hD hS 2 _ rfl hI (by decide) (by decide) dX0_pay_49 (fun H locs nf0 nf0e nf0n hP hD hS => ?_)
    have hP : va_P D vwCl (nmW cI h a1 a2 a3 a4 wf nf0 bf bs mc ff fr) H := hP
    have hD : va_D A (nmW cI h a1 a2 a3 a4 wf nf0 bf bs mc ff fr) := hD
    refine lv_iload_n hx hb dX0_pay_50 rfl (lv_at hl 3 rfl) ?_
    refine lv_iload hx hb dX0_pay_51 (lv_at hl 0 rfl) ?_
    refine zn_sub hx hb (by omega) dX0_pay_53 ?_
    refine lv_istore_n (lv' := [(3, .int (nI ((((jam - o3) - o2) - o1) - o0))), (6, .int (nI o0)), (5, .int (nI 0)), (4, .int (nI (((0 + (o3 * (w 3))) + (o2 * (w 2))) + (o1 * (w 1))))), (0, .ref h), (1, .int x), (2, .int (nI jam))]) hx hb dX0_pay_54 rfl hl (by decide) rfl (fun ls hl => ?_)
    refine lv_iload hx hb dX0_pay_55 (lv_at hl 3 rfl) ?_
    refine lv_iload hx hb dX0_pay_57 (lv_at hl 1 rfl) ?_
    refine lv_aload_n hx hb dX0_pay_59 rfl (lv_at hl 4 rfl) ?_
    refine va_get (D := D) (ci := 0) (v := .ref a1) (C := RX0) (T := TX0) (N := 6) hx hb hts (inX0_pay) hown hK hP 0 rfl rfl 0 (by decide) (hts (.fieldLink RX0 9 "NoteMix" "worthOf" "[I") (by decide +kernel)) (fun _ h9 => h9) rfl dX0_pay_60 ?_
    refine lv_iload hx hb dX0_pay_63 (lv_at hl 2 rfl) ?_
    refine zn_iald (k := 0) hx hb hK hP 1 _ rfl hI (by decide) (by decide) (ok.1 0 (by omega)) dX0_pay_65 ?_
    refine zn_mul hx hb dX0_pay_66 ?_
    refine zn_add hx hb dX0_pay_67 ?_
    refine lv_istore (lv' := [(4, .int (nI ((((0 + (o3 * (w 3))) + (o2 * (w 2))) + (o1 * (w 1))) + (o0 * (w 0))))), (3, .int (nI ((((jam - o3) - o2) - o1) - o0))), (6, .int (nI o0)), (5, .int (nI 0)), (0, .ref h), (1, .int x), (2, .int (nI jam))]) hx hb dX0_pay_68 hl (by decide) rfl (fun ls hl => ?_)
    refine lv_iinc (k := 3) (lv' := [(5, .int (-1)), (4, .int (nI ((((0 + (o3 * (w 3))) + (o2 * (w 2))) + (o1 * (w 1))) + (o0 * (w 0))))), (3, .int (nI ((((jam - o3) - o2) - o1) - o0))), (6, .int (nI o0)), (0, .ref h), (1, .int x), (2, .int (nI jam))]) hx hb dX0_pay_70 hl rfl (by decide +kernel) (by decide) rfl (fun ls hl => ?_)
    refine lv_goto hx hb dX0_pay_73 rfl ?_
    refine lv_iload hx hb dX0_pay_20 (lv_at hl 0 rfl) ?_
    refine lv_if_lt hx hb dX0_pay_22 rfl (fun _ => ?_) (fun hc => absurd (by decide +kernel) hc)
    refine lv_iload hx hb dX0_pay_76 (lv_at hl 1 rfl) ?_
    refine vx_ret ?_
    exact zz_iret F hr hlocks hK hS dX0_pay_78 (by decide) (by decide) (nf0, bf, bs, mc) ⟨v, jam, hv, hj, hx9, rfl, bm, o3, o2, o1, o0, hB, ho3, ho2, ho1, ho0, rfl, (by show nf0 0 = nI _; rw [nf0e]), (by show nf0 1 = nI _; rw [nf0n 1 (by decide), nf1e]), (by show nf0 2 = nI _; rw [nf0n 2 (by decide), nf1n 2 (by decide), nf2e]), (by show nf0 3 = nI _; rw [nf0n 3 (by decide), nf1n 3 (by decide), nf2n 3 (by decide), nf3e])⟩ hP hD
  · refine lv_iload_n hx hb dX0_pay_0 rfl (lv_at hl 2 rfl) ?_
    refine lv_iconst (v := nI 0) hx hb dX0_pay_1 (by decide +kernel) ?_
    refine lv_bipush (v := nI 40) hx hb dX0_pay_2 (by decide +kernel) ?_
    refine zx_callSv (As := [.int y, .int (nI 0), .int (nI 40)]) (rest := []) F hK hP hD hS hA hst (c_rr_bad l hl0 D tys _ _ y 0 40 hz (by decide) (by decide)) (va_cwS 3 hts gX0_pay_X0_requireRange rfl rfl rfl (by decide +kernel) ⟨Nat.le_of_ble_eq_true rfl, Nat.le_of_ble_eq_true rfl⟩) rfl hl.1 rfl (by decide) dX0_pay_4 ⟨Nat.le_of_ble_eq_true rfl, Nat.le_of_ble_eq_true rfl⟩ (fun E ce q9 _ H locs hE hP hD hS g1 g2 g3 => ?_) (fun _ _ _ h9 => h9.elim)
    exact zx_out htab hlocks hK hS g1 g2 g3 (by decide) (by decide) (nf, bf, bs, mc) ⟨rfl, Or.inl ⟨hE, fun q => hz q.1⟩⟩ hP hD
