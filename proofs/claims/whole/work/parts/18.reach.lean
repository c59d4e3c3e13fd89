set_option maxRecDepth 100000 in
set_option maxHeartbeats 4000000 in
theorem c_reach (l : Launch) (D : va_G) (tys : List (ClassId × FieldType)) (cI : ClassId) (hI : tys[0]? = some (cI, .int)) (h a1 a2 a3 a4 : Nat) (fr : va_W) (sz : Nat) (wf nf bf : Nat → Int32) (bs mc : Int32) (ff : Nat → Int32) (w n : Nat → Nat) (ok : nmOk wf nf w n) : Met l yX0_reach wsX0_reach ({ frames := 9, cells := 0, slots := 0, locals := 190 }) (va_Pc [.ref h] (zz_pre D tys (nmW cI h a1 a2 a3 a4 wf nf bf bs mc ff fr) sz)) (va_Qi (fun r (_ : Nat → Int32) => r = nI (mx_r w n 2001)) (zz_B D tys (va_A (nmW cI h a1 a2 a3 a4 wf nf bf bs mc ff fr) sz) (fun u => nmW cI h a1 a2 a3 a4 wf nf bf bs mc u fr)) (va_A (nmW cI h a1 a2 a3 a4 wf nf bf bs mc ff fr) sz)) 0 0 (va_A (nmW cI h a1 a2 a3 a4 wf nf bf bs mc ff fr) sz) := by
  refine zz_headI (cc := cX0_reach) (by decide) rfl (Nat.le_of_ble_eq_true rfl) ?_
  intro p e s m below meth cd A ls F hr hlocks hP hK hD hA hS hl
  obtain ⟨hx, hb, hml, hown, hts⟩ := id F
  have hl : lv_has ls 3 [(0, .ref h)] := hl
  refine lv_aload_n hx hb dX0_reach_0 rfl (lv_at hl 0 rfl) ?_
  refine zz_callVv (As := []) (rest := []) F hK hP hD hS hA (c_fillFewest l D tys cI hI h a1 a2 a3 a4 fr _ wf nf bf bs mc ff w n ok) (cwV 0 hts gX0_reach_X0_fillFewest rfl rfl rfl (by decide +kernel) ⟨Nat.le_of_ble_eq_true rfl, Nat.le_of_ble_eq_true rfl⟩) 0 rfl rfl rfl hl.1 rfl (by decide) dX0_reach_1 ⟨Nat.le_of_ble_eq_true rfl, Nat.le_of_ble_eq_true rfl⟩ (fun g H locs hg hP hD hS => ?_)
  have hP : va_P D vwCl (nmW cI h a1 a2 a3 a4 wf nf bf bs mc g fr) H := hP
  have hD : va_D A (nmW cI h a1 a2 a3 a4 wf nf bf bs mc g fr) := hD
  obtain ⟨f, hg, hf⟩ := hg
  refine lv_iconst (v := nI 0) hx hb dX0_reach_4 (by decide +kernel) ?_
  refine lv_istore_n (lv' := [(1, .int (nI 0)), (0, .ref h)]) hx hb dX0_reach_5 rfl hl (by decide) rfl (fun ls hl => ?_)
  refine lv_iconst (v := nI 0) hx hb dX0_reach_6 (by decide +kernel) ?_
  refine lv_istore_n (lv' := [(2, .int (nI 0)), (1, .int (nI 0)), (0, .ref h)]) hx hb dX0_reach_7 rfl hl (by decide) rfl (fun ls hl => ?_)
  have hl : lv_has ls 3 [(2, .int (nI 0)), (1, .int (nI 0)), (0, .ref h)] := lv_sub hl [0, 1, 2] rfl
  refine zz_loop (fun ls H locs (u : Nat) => lv_has ls 3 [(2, .int (nI u)), (1, .int (nI (mx_r w n u))), (0, .ref h)] ∧ va_P D vwCl (nmW cI h a1 a2 a3 a4 wf nf bf bs mc g fr) H ∧ va_D A (nmW cI h a1 a2 a3 a4 wf nf bf bs mc g fr) ∧ va_S A s.heap H locs ∧ u ≤ 2001) (fun u => 2001 - u) ?_ 0 ⟨hl, hP, hD, hS, Nat.zero_le _⟩
  rintro ls H locs a ⟨hl, hP, hD, hS, ha⟩ kk
  refine lv_iload_n hx hb dX0_reach_8 rfl (lv_at hl 0 rfl) ?_
  refine lv_sipush (v := nI 2000) hx hb dX0_reach_9 (by decide +kernel) ?_
  refine zn_gt hx hb (by omega) (by omega) dX0_reach_12 rfl (fun hc => ?_) (fun hc => ?_)
  · have e9 : a = 2001 := by omega
    subst e9
    refine lv_iload_n hx hb dX0_reach_35 rfl (lv_at hl 1 rfl) ?_
    exact zz_iret F hr hlocks hK hS dX0_reach_36 (by decide) (by decide) g rfl hP hD
  · obtain ⟨f1, f2⟩ := hf a hc
    refine lv_aload_n hx hb dX0_reach_15 rfl (lv_at hl 2 rfl) ?_
    refine va_get (D := D) (ci := 0) (v := .ref a4) (C := RX0) (T := TX0) (N := 6) hx hb hts (inX0_reach) hown hK hP 0 rfl rfl 5 (by decide) (hts (.fieldLink RX0 26 "NoteMix" "fewest" "[I") (by decide +kernel)) (fun _ h9 => h9) rfl dX0_reach_16 ?_
    refine lv_iload_n hx hb dX0_reach_19 rfl (lv_at hl 0 rfl) ?_
    refine zn_iald (k := a) hx hb hK hP 4 _ rfl hI (by omega) (by decide) (hg a (by omega)) dX0_reach_20 ?_
    refine lv_bipush (v := nI 41) hx hb dX0_reach_21 (by decide +kernel) ?_
    refine zn_ge hx hb (by omega) (by omega) dX0_reach_23 rfl (fun hq => ?_) (fun hq => ?_)
    · have hr9 := mx_r0 (w := w) (n := n) (k := a) (fun h9 => absurd (f2.2 h9) (by omega))
      refine lv_iinc (k := 0) (lv' := [(2, .int (nI (a + 1))), (1, .int (nI (mx_r w n a))), (0, .ref h)]) hx hb dX0_reach_29 hl rfl (zz_i1 _) (by decide) rfl (fun ls hl => ?_)
      refine lv_goto hx hb dX0_reach_32 rfl ?_
      have hl : lv_has ls 3 [(2, .int (nI (a + 1))), (1, .int (nI (mx_r w n a))), (0, .ref h)] := lv_sub hl [0, 1, 2] rfl
      rw [← hr9] at hl
      exact kk _ _ _ (a + 1) ⟨hl, hP, hD, hS, by omega⟩ (by omega)
    · have hr9 := mx_r1 (f2.1 hq)
      refine lv_iinc (k := 1) (lv' := [(1, .int (nI (mx_r w n a + 1))), (2, .int (nI a)), (0, .ref h)]) hx hb dX0_reach_26 hl rfl (zz_i1 _) (by decide) rfl (fun ls hl => ?_)
      refine lv_iinc (k := 1) (lv' := [(2, .int (nI (a + 1))), (1, .int (nI (mx_r w n a + 1))), (0, .ref h)]) hx hb dX0_reach_29 hl rfl (zz_i1 _) (by decide) rfl (fun ls hl => ?_)
      refine lv_goto hx hb dX0_reach_32 rfl ?_
      have hl : lv_has ls 3 [(2, .int (nI (a + 1))), (1, .int (nI (mx_r w n a + 1))), (0, .ref h)] := lv_sub hl [0, 1, 2] rfl
      rw [← hr9] at hl
      exact kk _ _ _ (a + 1) ⟨hl, hP, hD, hS, by omega⟩ (by omega)
