set_option maxRecDepth 100000 in
set_option maxHeartbeats 4000000 in
theorem c_load (l : Launch) (hl0 : l.stackTraces = false) (D : va_G) (tys : List (ClassId × FieldType)) (cI : ClassId) (hI : tys[0]? = some (cI, .int)) (h a1 a2 a3 a4 : Nat) (fr : va_W) (sz : Nat) (wf nf bf : Nat → Int32) (bs mc : Int32) (ff : Nat → Int32) (w n : Nat → Nat) (ok : nmOk wf nf w n) (x y z : Int32) : vx_Met l yX0_load wsX0_load ({ frames := 9, cells := 1, slots := 6, locals := 190 }) (va_Pc [.ref h, .int x, .int y, .int z] (zx_pre D tys (nmW cI h a1 a2 a3 a4 wf nf bf bs mc ff fr) sz)) (va_Qv (fun (u : (Nat → Int32) × (Nat → Int32)) => ∃ c a b : Nat, c < 4 ∧ 1 ≤ a ∧ a ≤ 500 ∧ b ≤ 500 ∧ x = nI c ∧ y = nI a ∧ z = nI b ∧ nmOk u.1 u.2 (fun j => if j = c then a else w j) (fun j => if j = c then b else n j)) (zz_B D tys (va_A (nmW cI h a1 a2 a3 a4 wf nf bf bs mc ff fr) sz) (fun u => nmW cI h a1 a2 a3 a4 u.1 u.2 bf bs mc ff fr)) (va_A (nmW cI h a1 a2 a3 a4 wf nf bf bs mc ff fr) sz)) (zx_X (fun E (u : (Nat → Int32) × (Nat → Int32)) => E = "java/lang/IllegalArgumentException" ∧ ¬ (zr x 0 3 ∧ zr y 1 500 ∧ zr z 0 500) ∧ u = (wf, nf)) D tys (va_A (nmW cI h a1 a2 a3 a4 wf nf bf bs mc ff fr) sz) (fun u => nmW cI h a1 a2 a3 a4 u.1 u.2 bf bs mc ff fr)) 1 6 (va_A (nmW cI h a1 a2 a3 a4 wf nf bf bs mc ff fr) sz) := by
  refine zx_headV (cc := cX0_load) (by decide) rfl (Nat.le_of_ble_eq_true rfl) ?_
  intro p e s m below meth cd A ls F hr hlocks htab hP hK hD hA hS hst hl
  obtain ⟨hx, hb, hml, hown, hts⟩ := id F
  have hl : lv_has ls 4 [(0, .ref h), (1, .int x), (2, .int y), (3, .int z)] := hl
  by_cases hz : zr x 0 3
  · obtain ⟨c, hc0, hc, rfl⟩ := hz
    refine lv_iload_n hx hb dX0_load_0 rfl (lv_at hl 1 rfl) ?_
    refine lv_iconst (v := nI 0) hx hb dX0_load_1 (by decide +kernel) ?_
    refine lv_iconst (v := nI 3) hx hb dX0_load_2 (by decide +kernel) ?_
    refine zz_callSv (As := [.int (nI c), .int (nI 0), .int (nI 3)]) (rest := []) F hK hP hD hS hA (c_rr_ok l D tys _ _ c 0 3 hc0 hc (by decide)) (va_cwS 3 hts gX0_load_X0_requireRange rfl rfl rfl (by decide +kernel) ⟨Nat.le_of_ble_eq_true rfl, Nat.le_of_ble_eq_true rfl⟩) rfl hl.1 rfl (by decide) dX0_load_3 ⟨Nat.le_of_ble_eq_true rfl, Nat.le_of_ble_eq_true rfl⟩ (fun _ H locs _ hP hD hS => ?_)
    have hP : va_P D vwCl (nmW cI h a1 a2 a3 a4 wf nf bf bs mc ff fr) H := hP
    have hD : va_D A (nmW cI h a1 a2 a3 a4 wf nf bf bs mc ff fr) := hD
    by_cases hz : zr y 1 500
    · obtain ⟨a, ha0, ha, rfl⟩ := hz
      refine lv_iload_n hx hb dX0_load_6 rfl (lv_at hl 2 rfl) ?_
      refine lv_iconst (v := nI 1) hx hb dX0_load_7 (by decide +kernel) ?_
      refine lv_sipush (v := nI 500) hx hb dX0_load_8 (by decide +kernel) ?_
      refine zz_callSv (As := [.int (nI a), .int (nI 1), .int (nI 500)]) (rest := []) F hK hP hD hS hA (c_rr_ok l D tys _ _ a 1 500 ha0 ha (by decide)) (va_cwS 3 hts gX0_load_X0_requireRange rfl rfl rfl (by decide +kernel) ⟨Nat.le_of_ble_eq_true rfl, Nat.le_of_ble_eq_true rfl⟩) rfl hl.1 rfl (by decide) dX0_load_11 ⟨Nat.le_of_ble_eq_true rfl, Nat.le_of_ble_eq_true rfl⟩ (fun _ H locs _ hP hD hS => ?_)
      have hP : va_P D vwCl (nmW cI h a1 a2 a3 a4 wf nf bf bs mc ff fr) H := hP
      have hD : va_D A (nmW cI h a1 a2 a3 a4 wf nf bf bs mc ff fr) := hD
      by_cases hz : zr z 0 500
      · obtain ⟨b, hb0, hb9, rfl⟩ := hz
        refine lv_iload_n hx hb dX0_load_14 rfl (lv_at hl 3 rfl) ?_
        refine lv_iconst (v := nI 0) hx hb dX0_load_15 (by decide +kernel) ?_
        refine lv_sipush (v := nI 500) hx hb dX0_load_16 (by decide +kernel) ?_
        refine zz_callSv (As := [.int (nI b), .int (nI 0), .int (nI 500)]) (rest := []) F hK hP hD hS hA (c_rr_ok l D tys _ _ b 0 500 hb0 hb9 (by decide)) (va_cwS 3 hts gX0_load_X0_requireRange rfl rfl rfl (by decide +kernel) ⟨Nat.le_of_ble_eq_true rfl, Nat.le_of_ble_eq_true rfl⟩) rfl hl.1 rfl (by decide) dX0_load_19 ⟨Nat.le_of_ble_eq_true rfl, Nat.le_of_ble_eq_true rfl⟩ (fun _ H locs _ hP hD hS => ?_)
        have hP : va_P D vwCl (nmW cI h a1 a2 a3 a4 wf nf bf bs mc ff fr) H := hP
        have hD : va_D A (nmW cI h a1 a2 a3 a4 wf nf bf bs mc ff fr) := hD
        refine lv_aload_n hx hb dX0_load_22 rfl (lv_at hl 0 rfl) ?_
        refine va_get (D := D) (ci := 0) (v := .ref a1) (C := RX0) (T := TX0) (N := 6) hx hb hts (inX0_load) hown hK hP 0 rfl rfl 0 (by decide) (hts (.fieldLink RX0 9 "NoteMix" "worthOf" "[I") (by decide +kernel)) (fun _ h9 => h9) rfl dX0_load_23 ?_
        refine lv_iload_n hx hb dX0_load_26 rfl (lv_at hl 1 rfl) ?_
        refine lv_iload_n hx hb dX0_load_27 rfl (lv_at hl 2 rfl) ?_
        refine zn_iast (k := c) hx hb hK hP hD hS 1 _ rfl hI (by omega) (by decide) dX0_load_28 (fun H locs wf1 wf1e wf1n hP hD hS => ?_)
        have hP : va_P D vwCl (nmW cI h a1 a2 a3 a4 wf1 nf bf bs mc ff fr) H := hP
        have hD : va_D A (nmW cI h a1 a2 a3 a4 wf1 nf bf bs mc ff fr) := hD
        refine lv_aload_n hx hb dX0_load_29 rfl (lv_at hl 0 rfl) ?_
        refine va_get (D := D) (ci := 0) (v := .ref a2) (C := RX0) (T := TX0) (N := 6) hx hb hts (inX0_load) hown hK hP 0 rfl rfl 1 (by decide) (hts (.fieldLink RX0 13 "NoteMix" "notesIn" "[I") (by decide +kernel)) (fun _ h9 => h9) rfl dX0_load_30 ?_
        refine lv_iload_n hx hb dX0_load_33 rfl (lv_at hl 1 rfl) ?_
        refine lv_iload_n hx hb dX0_load_34 rfl (lv_at hl 3 rfl) ?_
        refine zn_iast (k := c) hx hb hK hP hD hS 2 _ rfl hI (by omega) (by decide) dX0_load_35 (fun H locs nf1 nf1e nf1n hP hD hS => ?_)
        have hP : va_P D vwCl (nmW cI h a1 a2 a3 a4 wf1 nf1 bf bs mc ff fr) H := hP
        have hD : va_D A (nmW cI h a1 a2 a3 a4 wf1 nf1 bf bs mc ff fr) := hD
        refine vx_ret ?_
        refine zz_vret F hr hlocks hK hS dX0_load_36 (by decide) (by decide) (wf1, nf1) ⟨c, a, b, by omega, ha0, ha, hb9, rfl, rfl, rfl, fun j hj => ?_, fun j hj => ?_, fun j hj => ?_⟩ hP hD
        · by_cases e9 : j = c
          · subst e9
            show wf1 j = nI (if j = j then _ else _)
            rw [if_pos rfl]
            exact wf1e
          · show wf1 j = nI (if j = c then _ else _)
            rw [if_neg e9, wf1n j e9]
            exact ok.1 j hj
        · by_cases e9 : j = c
          · subst e9
            show nf1 j = nI (if j = j then _ else _)
            rw [if_pos rfl]
            exact nf1e
          · show nf1 j = nI (if j = c then _ else _)
            rw [if_neg e9, nf1n j e9]
            exact ok.2.1 j hj
        · obtain ⟨k1, k2, k3⟩ := ok.2.2 j hj
          by_cases e9 : j = c
          · simp only [if_pos e9]
            omega
          · simp only [if_neg e9]
            omega
      · refine lv_iload_n hx hb dX0_load_14 rfl (lv_at hl 3 rfl) ?_
        refine lv_iconst (v := nI 0) hx hb dX0_load_15 (by decide +kernel) ?_
        refine lv_sipush (v := nI 500) hx hb dX0_load_16 (by decide +kernel) ?_
        refine zx_callSv (As := [.int z, .int (nI 0), .int (nI 500)]) (rest := []) F hK hP hD hS hA hst (c_rr_bad l hl0 D tys _ _ z 0 500 hz (by decide) (by decide)) (va_cwS 3 hts gX0_load_X0_requireRange rfl rfl rfl (by decide +kernel) ⟨Nat.le_of_ble_eq_true rfl, Nat.le_of_ble_eq_true rfl⟩) rfl hl.1 rfl (by decide) dX0_load_19 ⟨Nat.le_of_ble_eq_true rfl, Nat.le_of_ble_eq_true rfl⟩ (fun E ce q9 _ H locs hE hP hD hS g1 g2 g3 => ?_) (fun _ _ _ h9 => h9.elim)
        exact zx_out htab hlocks hK hS g1 g2 g3 (by decide) (by decide) (wf, nf) ⟨hE, fun q => hz q.2.2, rfl⟩ hP hD
    · refine lv_iload_n hx hb dX0_load_6 rfl (lv_at hl 2 rfl) ?_
      refine lv_iconst (v := nI 1) hx hb dX0_load_7 (by decide +kernel) ?_
      refine lv_sipush (v := nI 500) hx hb dX0_load_8 (by decide +kernel) ?_
      refine zx_callSv (As := [.int y, .int (nI 1), .int (nI 500)]) (rest := []) F hK hP hD hS hA hst (c_rr_bad l hl0 D tys _ _ y 1 500 hz (by decide) (by decide)) (va_cwS 3 hts gX0_load_X0_requireRange rfl rfl rfl (by decide +kernel) ⟨Nat.le_of_ble_eq_true rfl, Nat.le_of_ble_eq_true rfl⟩) rfl hl.1 rfl (by decide) dX0_load_11 ⟨Nat.le_of_ble_eq_true rfl, Nat.le_of_ble_eq_true rfl⟩ (fun E ce q9 _ H locs hE hP hD hS g1 g2 g3 => ?_) (fun _ _ _ h9 => h9.elim)
      exact zx_out htab hlocks hK hS g1 g2 g3 (by decide) (by decide) (wf, nf) ⟨hE, fun q => hz q.2.1, rfl⟩ hP hD
  · refine lv_iload_n hx hb dX0_load_0 rfl (lv_at hl 1 rfl) ?_
    refine lv_iconst (v := nI 0) hx hb dX0_load_1 (by decide +kernel) ?_
    refine lv_iconst (v := nI 3) hx hb dX0_load_2 (by decide +kernel) ?_
    refine zx_callSv (As := [.int x, .int (nI 0), .int (nI 3)]) (rest := []) F hK hP hD hS hA hst (c_rr_bad l hl0 D tys _ _ x 0 3 hz (by decide) (by decide)) (va_cwS 3 hts gX0_load_X0_requireRange rfl rfl rfl (by decide +kernel) ⟨Nat.le_of_ble_eq_true rfl, Nat.le_of_ble_eq_true rfl⟩) rfl hl.1 rfl (by decide) dX0_load_3 ⟨Nat.le_of_ble_eq_true rfl, Nat.le_of_ble_eq_true rfl⟩ (fun E ce q9 _ H locs hE hP hD hS g1 g2 g3 => ?_) (fun _ _ _ h9 => h9.elim)
    exact zx_out htab hlocks hK hS g1 g2 g3 (by decide) (by decide) (wf, nf) ⟨hE, fun q => hz q.1, rfl⟩ hP hD
