set_option maxRecDepth 100000 in
set_option maxHeartbeats 4000000 in
theorem c1_reach (l : Launch) (D : va_G) (tys : List (ClassId × FieldType)) (cI cZ : ClassId) (hI : tys[0]? = some (cI, .int)) (hZ : tys[1]? = some (cZ, .boolean)) (g g1 g2 g3 g4 : Nat) (fr : va_W) (sz : Nat) (wf nf cf kf : Nat → Int32) (fw mx th : Int32) (w n : Nat → Nat) (ok : nmOk wf nf w n)  : Met l yX1_reach wsX1_reach ({ frames := 3, cells := 0, slots := 0, locals := 90 }) (va_Pc [.ref g] (zz_pre D tys (mdW cI cZ g g1 g2 g3 g4 wf nf cf kf fw mx th fr) sz)) (va_Qi (fun r (u : Nat → Int32) => r = nI (mx_r w n 2001)) (zz_B D tys (va_A (mdW cI cZ g g1 g2 g3 g4 wf nf cf kf fw mx th fr) sz) (fun u => mdW cI cZ g g1 g2 g3 g4 wf nf cf u fw mx (nI 0) fr)) (va_A (mdW cI cZ g g1 g2 g3 g4 wf nf cf kf fw mx th fr) sz)) 0 0 (va_A (mdW cI cZ g g1 g2 g3 g4 wf nf cf kf fw mx th fr) sz) := by
  refine zz_headI (cc := cX1_reach) (by decide) rfl (Nat.le_of_ble_eq_true rfl) ?_
  intro p e s m below meth cd A ls F hr hlocks hP hK hD hA hS hl
  obtain ⟨hx, hb, hml, hown, hts⟩ := id F
  have hl : lv_has ls 3 [(0, .ref g)] := hl
  refine lv_aload_n hx hb dX1_reach_0 rfl (lv_at hl 0 rfl) ?_
  refine lv_iconst (v := nI 0) hx hb dX1_reach_1 (by decide +kernel) ?_
  refine va_put (D := D) (ci := 1) (v := .int (nI 0)) (ty := .int) (C := RX1) (T := TX1) (N := 7) hx hb hts (inX1_reach) tyX1 tyX1_ok nmX1 hown hK hP hD hS 0 rfl rfl 6 (by decide) (hts (.fieldLink RX1 23 "NoteMixModel" "thrown" "I") (by decide +kernel)) (fun _ h9 => h9) rfl (by decide +kernel) rfl rfl (Nat.le_of_ble_eq_true rfl) dX1_reach_2 (fun H locs hP hD hS => ?_)
  have hP : va_P D vwCl (mdW cI cZ g g1 g2 g3 g4 wf nf cf kf fw mx (nI 0) fr) H := hP
  have hD : va_D A (mdW cI cZ g g1 g2 g3 g4 wf nf cf kf fw mx (nI 0) fr) := hD
  refine lv_aload_n hx hb dX1_reach_5 rfl (lv_at hl 0 rfl) ?_
  refine zz_callVv (As := []) (rest := []) F hK hP hD hS hA (c1_all l D tys cI cZ hI hZ g g1 g2 g3 g4 fr _ wf nf cf kf fw mx (nI 0) w n ok) (cwV 0 hts gX1_reach_X1_all rfl rfl rfl (by decide +kernel) ⟨Nat.le_of_ble_eq_true rfl, Nat.le_of_ble_eq_true rfl⟩) 0 rfl rfl rfl hl.1 rfl (Nat.le_of_ble_eq_true rfl) dX1_reach_6 ⟨Nat.le_of_ble_eq_true rfl, Nat.le_of_ble_eq_true rfl⟩ (fun kf H locs hk hP hD hS => ?_)
  have hP : va_P D vwCl (mdW cI cZ g g1 g2 g3 g4 wf nf cf kf fw mx (nI 0) fr) H := hP
  have hD : va_D A (mdW cI cZ g g1 g2 g3 g4 wf nf cf kf fw mx (nI 0) fr) := hD
  refine lv_iconst (v := nI 0) hx hb dX1_reach_9 (by decide +kernel) ?_
  refine lv_istore_n (lv' := [(1, .int (nI 0)), (0, .ref g)]) hx hb dX1_reach_10 rfl hl (by decide) rfl (fun ls hl => ?_)
  refine lv_iconst (v := nI 0) hx hb dX1_reach_11 (by decide +kernel) ?_
  refine lv_istore_n (lv' := [(2, .int (nI 0)), (1, .int (nI 0)), (0, .ref g)]) hx hb dX1_reach_12 rfl hl (by decide) rfl (fun ls hl => ?_)
  have hl : lv_has ls 3 [(2, .int (nI 0)), (1, .int (nI 0)), (0, .ref g)] := lv_sub hl [0, 1, 2] rfl
  refine zz_loop (fun ls H locs (u : Nat) => lv_has ls 3 [(2, .int (nI u)), (1, .int (nI (mx_r w n u))), (0, .ref g)] ∧ va_P D vwCl (mdW cI cZ g g1 g2 g3 g4 wf nf cf kf fw mx (nI 0) fr) H ∧ va_D A (mdW cI cZ g g1 g2 g3 g4 wf nf cf kf fw mx (nI 0) fr) ∧ va_S A s.heap H locs ∧ u ≤ 2001) (fun u => 2001 - u) ?_ 0 ⟨hl, hP, hD, hS, Nat.zero_le _⟩
  rintro ls H locs a ⟨hl, hP, hD, hS, ha⟩ kk
  refine lv_iload_n hx hb dX1_reach_13 rfl (lv_at hl 0 rfl) ?_
  refine lv_sipush (v := nI 2000) hx hb dX1_reach_14 (by decide +kernel) ?_
  refine zn_gt hx hb (by omega) (by omega) dX1_reach_17 rfl (fun hc => ?_) (fun hc => ?_)
  · have e9 : a = 2001 := by omega
    subst e9
    refine lv_iload_n hx hb dX1_reach_38 rfl (lv_at hl 1 rfl) ?_
    exact zz_iret F hr hlocks hK hS dX1_reach_39 (by decide) (by decide) kf rfl hP hD
  · rcases hk a hc with ⟨e1, hh⟩ | ⟨e1, hh⟩
    · have hr9 := mx_r1 hh
      refine lv_aload_n hx hb dX1_reach_20 rfl (lv_at hl 2 rfl) ?_
      refine va_get (D := D) (ci := 1) (v := .ref g4) (C := RX1) (T := TX1) (N := 7) hx hb hts (inX1_reach) hown hK hP 0 rfl rfl 3 (by decide) (hts (.fieldLink RX1 19 "NoteMixModel" "can" "[Z") (by decide +kernel)) (fun _ h9 => h9) rfl dX1_reach_21 ?_
      refine lv_iload_n hx hb dX1_reach_24 rfl (lv_at hl 0 rfl) ?_
      refine zn_zald (k := a) hx hb hK hP 4 _ rfl hZ (by omega) (by decide) e1 dX1_reach_25 ?_
      refine zn_if_eq hx hb (by decide) dX1_reach_26 rfl (fun hc => absurd hc (by decide)) (fun _ => ?_)
      refine lv_iinc (k := 1) (lv' := [(1, .int (nI (mx_r w n a + 1))), (2, .int (nI a)), (0, .ref g)]) hx hb dX1_reach_29 hl rfl (zz_i1 _) (by decide) rfl (fun ls hl => ?_)
      refine lv_iinc (k := 1) (lv' := [(2, .int (nI (a + 1))), (1, .int (nI (mx_r w n a + 1))), (0, .ref g)]) hx hb dX1_reach_32 hl rfl (zz_i1 _) (by decide) rfl (fun ls hl => ?_)
      refine lv_goto hx hb dX1_reach_35 rfl ?_
      have hl : lv_has ls 3 [(2, .int (nI (a + 1))), (1, .int (nI (mx_r w n a + 1))), (0, .ref g)] := lv_sub hl [0, 1, 2] rfl
      rw [← hr9] at hl
      exact kk _ _ _ (a + 1) ⟨hl, hP, hD, hS, by omega⟩ (by omega)
    · have hr9 := mx_r0 hh
      refine lv_aload_n hx hb dX1_reach_20 rfl (lv_at hl 2 rfl) ?_
      refine va_get (D := D) (ci := 1) (v := .ref g4) (C := RX1) (T := TX1) (N := 7) hx hb hts (inX1_reach) hown hK hP 0 rfl rfl 3 (by decide) (hts (.fieldLink RX1 19 "NoteMixModel" "can" "[Z") (by decide +kernel)) (fun _ h9 => h9) rfl dX1_reach_21 ?_
      refine lv_iload_n hx hb dX1_reach_24 rfl (lv_at hl 0 rfl) ?_
      refine zn_zald (k := a) hx hb hK hP 4 _ rfl hZ (by omega) (by decide) e1 dX1_reach_25 ?_
      refine zn_if_eq hx hb (by decide) dX1_reach_26 rfl (fun _ => ?_) (fun hc => absurd hc (by decide))
      refine lv_iinc (k := 0) (lv' := [(2, .int (nI (a + 1))), (1, .int (nI (mx_r w n a))), (0, .ref g)]) hx hb dX1_reach_32 hl rfl (zz_i1 _) (by decide) rfl (fun ls hl => ?_)
      refine lv_goto hx hb dX1_reach_35 rfl ?_
      have hl : lv_has ls 3 [(2, .int (nI (a + 1))), (1, .int (nI (mx_r w n a))), (0, .ref g)] := lv_sub hl [0, 1, 2] rfl
      rw [← hr9] at hl
      exact kk _ _ _ (a + 1) ⟨hl, hP, hD, hS, by omega⟩ (by omega)
