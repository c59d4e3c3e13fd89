set_option maxRecDepth 100000 in
set_option maxHeartbeats 4000000 in
theorem c_cassette (l : Launch) (hl0 : l.stackTraces = false) (D : va_G) (tys : List (ClassId × FieldType)) (cI : ClassId) (hI : tys[0]? = some (cI, .int)) (h a1 a2 a3 a4 : Nat) (fr : va_W) (sz : Nat) (wf nf bf : Nat → Int32) (bs mc : Int32) (ff : Nat → Int32) (w n : Nat → Nat) (ok : nmOk wf nf w n) (x y : Int32) : vx_Met l yX0_cassette wsX0_cassette ({ frames := 9, cells := 1, slots := 6, locals := 190 }) (va_Pc [.ref h, .int x, .int y] (zx_pre D tys (nmW cI h a1 a2 a3 a4 wf nf bf bs mc ff fr) sz)) (va_Qi (fun r (u : Unit) => ∃ c : Nat, c < 4 ∧ x = nI c ∧ r = if y = 0 then nI (n c) else nI (w c)) (zz_B D tys (va_A (nmW cI h a1 a2 a3 a4 wf nf bf bs mc ff fr) sz) (fun u => nmW cI h a1 a2 a3 a4 wf nf bf bs mc ff fr)) (va_A (nmW cI h a1 a2 a3 a4 wf nf bf bs mc ff fr) sz)) (zx_X (fun E (u : Unit) => E = "java/lang/IllegalArgumentException" ∧ ¬ zr x 0 3) D tys (va_A (nmW cI h a1 a2 a3 a4 wf nf bf bs mc ff fr) sz) (fun u => nmW cI h a1 a2 a3 a4 wf nf bf bs mc ff fr)) 1 6 (va_A (nmW cI h a1 a2 a3 a4 wf nf bf bs mc ff fr) sz) := by
  refine zx_headI (cc := cX0_cassette) (by decide) rfl (Nat.le_of_ble_eq_true rfl) ?_
  intro p e s m below meth cd A ls F hr hlocks htab hP hK hD hA hS hst hl
  obtain ⟨hx, hb, hml, hown, hts⟩ := id F
  have hl : lv_has ls 3 [(0, .ref h), (1, .int x), (2, .int y)] := hl
  by_cases hz : zr x 0 3
  · obtain ⟨c, hc0, hc, rfl⟩ := hz
    refine lv_iload_n hx hb dX0_cassette_0 rfl (lv_at hl 1 rfl) ?_
    refine lv_iconst (v := nI 0) hx hb dX0_cassette_1 (by decide +kernel) ?_
    refine lv_iconst (v := nI 3) hx hb dX0_cassette_2 (by decide +kernel) ?_
    refine zz_callSv (As := [.int (nI c), .int (nI 0), .int (nI 3)]) (rest := []) F hK hP hD hS hA (c_rr_ok l D tys _ _ c 0 3 hc0 hc (by decide)) (va_cwS 3 hts gX0_cassette_X0_requireRange rfl rfl rfl (by decide +kernel) ⟨Nat.le_of_ble_eq_true rfl, Nat.le_of_ble_eq_true rfl⟩) rfl hl.1 rfl (by decide) dX0_cassette_3 ⟨Nat.le_of_ble_eq_true rfl, Nat.le_of_ble_eq_true rfl⟩ (fun _ H locs _ hP hD hS => ?_)
    have hP : va_P D vwCl (nmW cI h a1 a2 a3 a4 wf nf bf bs mc ff fr) H := hP
    have hD : va_D A (nmW cI h a1 a2 a3 a4 wf nf bf bs mc ff fr) := hD
    refine lv_iload_n hx hb dX0_cassette_6 rfl (lv_at hl 2 rfl) ?_
    refine lv_if_eq hx hb dX0_cassette_7 rfl (fun hq => ?_) (fun hq => ?_)
    · refine lv_aload_n hx hb dX0_cassette_19 rfl (lv_at hl 0 rfl) ?_
      refine va_get (D := D) (ci := 0) (v := .ref a2) (C := RX0) (T := TX0) (N := 6) hx hb hts (inX0_cassette) hown hK hP 0 rfl rfl 1 (by decide) (hts (.fieldLink RX0 13 "NoteMix" "notesIn" "[I") (by decide +kernel)) (fun _ h9 => h9) rfl dX0_cassette_20 ?_
      refine lv_iload_n hx hb dX0_cassette_23 rfl (lv_at hl 1 rfl) ?_
      refine zn_iald (k := c) hx hb hK hP 2 _ rfl hI (by omega) (by decide) (ok.2.1 c (by omega)) dX0_cassette_24 ?_
      refine vx_ret ?_
      exact zz_iret F hr hlocks hK hS dX0_cassette_25 (by decide) (by decide) () ⟨c, by omega, rfl, by rw [if_pos hq]⟩ hP hD
    · refine lv_aload_n hx hb dX0_cassette_10 rfl (lv_at hl 0 rfl) ?_
      refine va_get (D := D) (ci := 0) (v := .ref a1) (C := RX0) (T := TX0) (N := 6) hx hb hts (inX0_cassette) hown hK hP 0 rfl rfl 0 (by decide) (hts (.fieldLink RX0 9 "NoteMix" "worthOf" "[I") (by decide +kernel)) (fun _ h9 => h9) rfl dX0_cassette_11 ?_
      refine lv_iload_n hx hb dX0_cassette_14 rfl (lv_at hl 1 rfl) ?_
      refine zn_iald (k := c) hx hb hK hP 1 _ rfl hI (by omega) (by decide) (ok.1 c (by omega)) dX0_cassette_15 ?_
      refine lv_goto hx hb dX0_cassette_16 rfl ?_
      refine vx_ret ?_
      exact zz_iret F hr hlocks hK hS dX0_cassette_25 (by decide) (by decide) () ⟨c, by omega, rfl, by rw [if_neg hq]⟩ hP hD
  · refine lv_iload_n hx hb dX0_cassette_0 rfl (lv_at hl 1 rfl) ?_
    refine lv_iconst (v := nI 0) hx hb dX0_cassette_1 (by decide +kernel) ?_
    refine lv_iconst (v := nI 3) hx hb dX0_cassette_2 (by decide +kernel) ?_
    refine zx_callSv (As := [.int x, .int (nI 0), .int (nI 3)]) (rest := []) F hK hP hD hS hA hst (c_rr_bad l hl0 D tys _ _ x 0 3 hz (by decide) (by decide)) (va_cwS 3 hts gX0_cassette_X0_requireRange rfl rfl rfl (by decide +kernel) ⟨Nat.le_of_ble_eq_true rfl, Nat.le_of_ble_eq_true rfl⟩) rfl hl.1 rfl (by decide) dX0_cassette_3 ⟨Nat.le_of_ble_eq_true rfl, Nat.le_of_ble_eq_true rfl⟩ (fun E ce q9 _ H locs hE hP hD hS g1 g2 g3 => ?_) (fun _ _ _ h9 => h9.elim)
    exact zx_out htab hlocks hK hS g1 g2 g3 (by decide) (by decide) () ⟨hE, hz⟩ hP hD
