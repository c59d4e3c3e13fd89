set_option maxRecDepth 100000 in
set_option maxHeartbeats 4000000 in
theorem c_part (l : Launch) (hl0 : l.stackTraces = false) (D : va_G) (tys : List (ClassId × FieldType)) (cI : ClassId) (hI : tys[0]? = some (cI, .int)) (h a1 a2 a3 a4 : Nat) (fr : va_W) (sz : Nat) (wf nf bf : Nat → Int32) (bs mc : Int32) (ff : Nat → Int32) (w n : Nat → Nat) (ok : nmOk wf nf w n) (x y : Int32) : vx_Met l yX0_part wsX0_part ({ frames := 9, cells := 1, slots := 6, locals := 190 }) (va_Pc [.ref h, .int x, .int y] (zx_pre D tys (nmW cI h a1 a2 a3 a4 wf nf bf bs mc ff fr) sz)) (va_Qi (fun r (u : (Nat → Int32) × Int32 × Int32) => ∃ v c : Nat, v ≤ 2000 ∧ c < 4 ∧ x = nI v ∧ y = nI c ∧ ∃ bm : Nat → Nat, mx_B w n v (bm 0) (bm 1) (bm 2) (bm 3) ∧ r = nI (bm c)) (zz_B D tys (va_A (nmW cI h a1 a2 a3 a4 wf nf bf bs mc ff fr) sz) (fun u => nmW cI h a1 a2 a3 a4 wf nf u.1 u.2.1 u.2.2 ff fr)) (va_A (nmW cI h a1 a2 a3 a4 wf nf bf bs mc ff fr) sz)) (zx_X (fun E (u : (Nat → Int32) × Int32 × Int32) => (E = "java/lang/IllegalArgumentException" ∧ ¬ (zr y 0 3 ∧ zr x 0 2000)) ∨ (E = "java/util/NoSuchElementException" ∧ zr y 0 3 ∧ ∃ v : Nat, v ≤ 2000 ∧ x = nI v ∧ ¬ mx_has w n v)) D tys (va_A (nmW cI h a1 a2 a3 a4 wf nf bf bs mc ff fr) sz) (fun u => nmW cI h a1 a2 a3 a4 wf nf u.1 u.2.1 u.2.2 ff fr)) 1 6 (va_A (nmW cI h a1 a2 a3 a4 wf nf bf bs mc ff fr) sz) := by
  refine zx_headI (cc := cX0_part) (by decide) rfl (Nat.le_of_ble_eq_true rfl) ?_
  intro p e s m below meth cd A ls F hr hlocks htab hP hK hD hA hS hst hl
  obtain ⟨hx, hb, hml, hown, hts⟩ := id F
  have hl : lv_has ls 3 [(0, .ref h), (1, .int x), (2, .int y)] := hl
  by_cases hz : zr y 0 3
  · have hz0 := hz
    obtain ⟨c, hc0, hc, rfl⟩ := hz
    refine lv_iload_n hx hb dX0_part_0 rfl (lv_at hl 2 rfl) ?_
    refine lv_iconst (v := nI 0) hx hb dX0_part_1 (by decide +kernel) ?_
    refine lv_iconst (v := nI 3) hx hb dX0_part_2 (by decide +kernel) ?_
    refine zz_callSv (As := [.int (nI c), .int (nI 0), .int (nI 3)]) (rest := []) F hK hP hD hS hA (c_rr_ok l D tys _ _ c 0 3 hc0 hc (by decide)) (va_cwS 3 hts gX0_part_X0_requireRange rfl rfl rfl (by decide +kernel) ⟨Nat.le_of_ble_eq_true rfl, Nat.le_of_ble_eq_true rfl⟩) rfl hl.1 rfl (by decide) dX0_part_3 ⟨Nat.le_of_ble_eq_true rfl, Nat.le_of_ble_eq_true rfl⟩ (fun _ H locs _ hP hD hS => ?_)
    have hP : va_P D vwCl (nmW cI h a1 a2 a3 a4 wf nf bf bs mc ff fr) H := hP
    have hD : va_D A (nmW cI h a1 a2 a3 a4 wf nf bf bs mc ff fr) := hD
    refine lv_aload_n hx hb dX0_part_6 rfl (lv_at hl 0 rfl) ?_
    refine lv_iload_n hx hb dX0_part_7 rfl (lv_at hl 1 rfl) ?_
    refine zx_callVv (As := [.int x]) (rest := []) F hK hP hD hS hA hst (c_findBest l hl0 D tys cI hI h a1 a2 a3 a4 fr _ wf nf bf bs mc ff w n ok x) (cwV 1 hts gX0_part_X0_findBest rfl rfl rfl (by decide +kernel) ⟨Nat.le_of_ble_eq_true rfl, Nat.le_of_ble_eq_true rfl⟩) 0 rfl rfl rfl hl.1 rfl (by decide) dX0_part_8 ⟨Nat.le_of_ble_eq_true rfl, Nat.le_of_ble_eq_true rfl⟩ (fun E ce q9 u H locs hE hP hD hS g1 g2 g3 => zx_out htab hlocks hK hS g1 g2 g3 (by decide) (by decide) u (hE.elim (fun q => Or.inl ⟨q.1, fun q9 => q.2 q9.2⟩) (fun q => Or.inr ⟨q.1, hz0, q.2⟩)) hP hD) (fun u H locs hu hP hD hS => ?_)
    obtain ⟨bf, bs, mc⟩ := u
    obtain ⟨v, hv, hx9, bm, hB, e1, hbm⟩ := hu
    have hP : va_P D vwCl (nmW cI h a1 a2 a3 a4 wf nf bf bs mc ff fr) H := hP
    have hD : va_D A (nmW cI h a1 a2 a3 a4 wf nf bf bs mc ff fr) := hD
    refine lv_aload_n hx hb dX0_part_11 rfl (lv_at hl 0 rfl) ?_
    refine va_get (D := D) (ci := 0) (v := .ref a3) (C := RX0) (T := TX0) (N := 6) hx hb hts (inX0_part) hown hK hP 0 rfl rfl 2 (by decide) (hts (.fieldLink RX0 16 "NoteMix" "bestMix" "[I") (by decide +kernel)) (fun _ h9 => h9) rfl dX0_part_12 ?_
    refine lv_iload_n hx hb dX0_part_15 rfl (lv_at hl 2 rfl) ?_
    refine zn_iald (k := c) hx hb hK hP 3 _ rfl hI (by omega) (by decide) (hbm c (by omega)) dX0_part_16 ?_
    refine vx_ret ?_
    exact zz_iret F hr hlocks hK hS dX0_part_17 (by decide) (by decide) (bf, bs, mc) ⟨v, c, hv, by omega, hx9, rfl, bm, hB, rfl⟩ hP hD
  · refine lv_iload_n hx hb dX0_part_0 rfl (lv_at hl 2 rfl) ?_
    refine lv_iconst (v := nI 0) hx hb dX0_part_1 (by decide +kernel) ?_
    refine lv_iconst (v := nI 3) hx hb dX0_part_2 (by decide +kernel) ?_
    refine zx_callSv (As := [.int y, .int (nI 0), .int (nI 3)]) (rest := []) F hK hP hD hS hA hst (c_rr_bad l hl0 D tys _ _ y 0 3 hz (by decide) (by decide)) (va_cwS 3 hts gX0_part_X0_requireRange rfl rfl rfl (by decide +kernel) ⟨Nat.le_of_ble_eq_true rfl, Nat.le_of_ble_eq_true rfl⟩) rfl hl.1 rfl (by decide) dX0_part_3 ⟨Nat.le_of_ble_eq_true rfl, Nat.le_of_ble_eq_true rfl⟩ (fun E ce q9 _ H locs hE hP hD hS g1 g2 g3 => ?_) (fun _ _ _ h9 => h9.elim)
    exact zx_out htab hlocks hK hS g1 g2 g3 (by decide) (by decide) (bf, bs, mc) (Or.inl ⟨hE, fun q => hz q.1⟩) hP hD
