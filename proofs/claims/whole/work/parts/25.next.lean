set_option maxRecDepth 100000 in
set_option maxHeartbeats 4000000 in
theorem c_next (l : Launch) (hl0 : l.stackTraces = false) (D : va_G) (tys : List (ClassId × FieldType)) (cI : ClassId) (hI : tys[0]? = some (cI, .int)) (h a1 a2 a3 a4 : Nat) (fr : va_W) (sz : Nat) (wf nf bf : Nat → Int32) (bs mc : Int32) (ff : Nat → Int32) (w n : Nat → Nat) (ok : nmOk wf nf w n) (x : Int32) : vx_Met l yX0_next wsX0_next ({ frames := 9, cells := 1, slots := 6, locals := 190 }) (va_Pc [.ref h, .int x] (zx_pre D tys (nmW cI h a1 a2 a3 a4 wf nf bf bs mc ff fr) sz)) (va_Qi (fun r (u : Nat → Int32) => ∃ v : Nat, v ≤ 2000 ∧ x = nI v ∧ mx_N w n v r) (zz_B D tys (va_A (nmW cI h a1 a2 a3 a4 wf nf bf bs mc ff fr) sz) (fun u => nmW cI h a1 a2 a3 a4 wf nf bf bs mc u fr)) (va_A (nmW cI h a1 a2 a3 a4 wf nf bf bs mc ff fr) sz)) (zx_X (fun E (u : Nat → Int32) => E = "java/lang/IllegalArgumentException" ∧ ¬ zr x 0 2000) D tys (va_A (nmW cI h a1 a2 a3 a4 wf nf bf bs mc ff fr) sz) (fun u => nmW cI h a1 a2 a3 a4 wf nf bf bs mc u fr)) 1 6 (va_A (nmW cI h a1 a2 a3 a4 wf nf bf bs mc ff fr) sz) := by
  refine zx_headI (cc := cX0_next) (by decide) rfl (Nat.le_of_ble_eq_true rfl) ?_
  intro p e s m below meth cd A ls F hr hlocks htab hP hK hD hA hS hst hl
  obtain ⟨hx, hb, hml, hown, hts⟩ := id F
  have hl : lv_has ls 3 [(0, .ref h), (1, .int x)] := hl
  by_cases hz : zr x 0 2000
  · obtain ⟨v, hv0, hv, rfl⟩ := hz
    refine lv_iload_n hx hb dX0_next_0 rfl (lv_at hl 1 rfl) ?_
    refine lv_iconst (v := nI 0) hx hb dX0_next_1 (by decide +kernel) ?_
    refine lv_sipush (v := nI 2000) hx hb dX0_next_2 (by decide +kernel) ?_
    refine zz_callSv (As := [.int (nI v), .int (nI 0), .int (nI 2000)]) (rest := []) F hK hP hD hS hA (c_rr_ok l D tys _ _ v 0 2000 hv0 hv (by decide)) (va_cwS 3 hts gX0_next_X0_requireRange rfl rfl rfl (by decide +kernel) ⟨Nat.le_of_ble_eq_true rfl, Nat.le_of_ble_eq_true rfl⟩) rfl hl.1 rfl (by decide) dX0_next_5 ⟨Nat.le_of_ble_eq_true rfl, Nat.le_of_ble_eq_true rfl⟩ (fun _ H locs _ hP hD hS => ?_)
    have hP : va_P D vwCl (nmW cI h a1 a2 a3 a4 wf nf bf bs mc ff fr) H := hP
    have hD : va_D A (nmW cI h a1 a2 a3 a4 wf nf bf bs mc ff fr) := hD
    refine lv_aload_n hx hb dX0_next_8 rfl (lv_at hl 0 rfl) ?_
    refine zz_callVv (As := []) (rest := []) F hK hP hD hS hA (c_fillFewest l D tys cI hI h a1 a2 a3 a4 fr _ wf nf bf bs mc ff w n ok) (cwV 0 hts gX0_next_X0_fillFewest rfl rfl rfl (by decide +kernel) ⟨Nat.le_of_ble_eq_true rfl, Nat.le_of_ble_eq_true rfl⟩) 0 rfl rfl rfl hl.1 rfl (by decide) dX0_next_9 ⟨Nat.le_of_ble_eq_true rfl, Nat.le_of_ble_eq_true rfl⟩ (fun g H locs hg hP hD hS => ?_)
    have hP : va_P D vwCl (nmW cI h a1 a2 a3 a4 wf nf bf bs mc g fr) H := hP
    have hD : va_D A (nmW cI h a1 a2 a3 a4 wf nf bf bs mc g fr) := hD
    obtain ⟨f, hg, hf⟩ := hg
    refine lv_iload_n hx hb dX0_next_12 rfl (lv_at hl 1 rfl) ?_
    refine lv_istore_n (lv' := [(2, .int (nI v)), (0, .ref h), (1, .int (nI v))]) hx hb dX0_next_13 rfl hl (by decide) rfl (fun ls hl => ?_)
    have hl : lv_has ls 3 [(2, .int (nI v)), (1, .int (nI v)), (0, .ref h)] := lv_sub hl [0, 2, 1] rfl
    refine zz_loop (fun ls H locs (u : Nat) => lv_has ls 3 [(2, .int (nI u)), (1, .int (nI v)), (0, .ref h)] ∧ va_P D vwCl (nmW cI h a1 a2 a3 a4 wf nf bf bs mc g fr) H ∧ va_D A (nmW cI h a1 a2 a3 a4 wf nf bf bs mc g fr) ∧ va_S A s.heap H locs ∧ u ≤ 2001 ∧ v ≤ u ∧ ∀ j, v ≤ j → j < u → ¬ mx_has w n j) (fun u => 2001 - u) ?_ v ⟨hl, hP, hD, hS, by omega, Nat.le_refl _, fun j h1 h2 => absurd h1 (by omega)⟩
    rintro ls H locs a ⟨hl, hP, hD, hS, ha, hva, hno⟩ kk
    refine lv_iload_n hx hb dX0_next_14 rfl (lv_at hl 0 rfl) ?_
    refine lv_sipush (v := nI 2000) hx hb dX0_next_15 (by decide +kernel) ?_
    refine zn_gt hx hb (by omega) (by omega) dX0_next_18 rfl (fun hc => ?_) (fun hc => ?_)
    · refine lv_iconst (v := -1) hx hb dX0_next_40 (by decide +kernel) ?_
      refine vx_ret ?_
      exact zz_iret F hr hlocks hK hS dX0_next_41 (by decide) (by decide) g ⟨v, hv, rfl, Or.inr ⟨fun j h1 h2 => hno j h1 (by omega), rfl⟩⟩ hP hD
    · obtain ⟨f1, f2⟩ := hf a hc
      refine lv_aload_n hx hb dX0_next_21 rfl (lv_at hl 2 rfl) ?_
      refine va_get (D := D) (ci := 0) (v := .ref a4) (C := RX0) (T := TX0) (N := 6) hx hb hts (inX0_next) hown hK hP 0 rfl rfl 5 (by decide) (hts (.fieldLink RX0 26 "NoteMix" "fewest" "[I") (by decide +kernel)) (fun _ h9 => h9) rfl dX0_next_22 ?_
      refine lv_iload_n hx hb dX0_next_25 rfl (lv_at hl 0 rfl) ?_
      refine zn_iald (k := a) hx hb hK hP 4 _ rfl hI (by omega) (by decide) (hg a (by omega)) dX0_next_26 ?_
      refine lv_bipush (v := nI 41) hx hb dX0_next_27 (by decide +kernel) ?_
      refine zn_ge hx hb (by omega) (by omega) dX0_next_29 rfl (fun hq => ?_) (fun hq => ?_)
      · refine lv_iinc (k := 0) (lv' := [(2, .int (nI (a + 1))), (1, .int (nI v)), (0, .ref h)]) hx hb dX0_next_34 hl rfl (zz_i1 _) (by decide) rfl (fun ls hl => ?_)
        refine lv_goto hx hb dX0_next_37 rfl ?_
        have hl : lv_has ls 3 [(2, .int (nI (a + 1))), (1, .int (nI v)), (0, .ref h)] := lv_sub hl [0, 1, 2] rfl
        refine kk _ _ _ (a + 1) ⟨hl, hP, hD, hS, by omega, by omega, fun j h1 h2 => ?_⟩ (by omega)
        · by_cases e9 : j = a
          · subst e9
            exact fun h9 => absurd (f2.2 h9) (by omega)
          · exact hno j h1 (by omega)
      · refine lv_iload_n hx hb dX0_next_32 rfl (lv_at hl 0 rfl) ?_
        refine vx_ret ?_
        exact zz_iret F hr hlocks hK hS dX0_next_33 (by decide) (by decide) g ⟨v, hv, rfl, Or.inl ⟨a, hva, hc, f2.1 hq, hno, rfl⟩⟩ hP hD
  · refine lv_iload_n hx hb dX0_next_0 rfl (lv_at hl 1 rfl) ?_
    refine lv_iconst (v := nI 0) hx hb dX0_next_1 (by decide +kernel) ?_
    refine lv_sipush (v := nI 2000) hx hb dX0_next_2 (by decide +kernel) ?_
    refine zx_callSv (As := [.int x, .int (nI 0), .int (nI 2000)]) (rest := []) F hK hP hD hS hA hst (c_rr_bad l hl0 D tys _ _ x 0 2000 hz (by decide) (by decide)) (va_cwS 3 hts gX0_next_X0_requireRange rfl rfl rfl (by decide +kernel) ⟨Nat.le_of_ble_eq_true rfl, Nat.le_of_ble_eq_true rfl⟩) rfl hl.1 rfl (by decide) dX0_next_5 ⟨Nat.le_of_ble_eq_true rfl, Nat.le_of_ble_eq_true rfl⟩ (fun E ce q9 _ H locs hE hP hD hS g1 g2 g3 => ?_) (fun _ _ _ h9 => h9.elim)
    exact zx_out htab hlocks hK hS g1 g2 g3 (by decide) (by decide) ff ⟨hE, hz⟩ hP hD
