set_option maxRecDepth 100000 in
set_option maxHeartbeats 4000000 in
theorem c_best (l : Launch) (hl0 : l.stackTraces = false) (D : va_G) (tys : List (ClassId × FieldType)) (cI : ClassId) (hI : tys[0]? = some (cI, .int)) (h a1 a2 a3 a4 : Nat) (fr : va_W) (sz : Nat) (wf nf bf : Nat → Int32) (bs mc : Int32) (ff : Nat → Int32) (w n : Nat → Nat) (ok : nmOk wf nf w n) (x : Int32) : vx_Met l yX0_best wsX0_best ({ frames := 9, cells := 1, slots := 6, locals := 190 }) (va_Pc [.ref h, .int x] (zx_pre D tys (nmW cI h a1 a2 a3 a4 wf nf bf bs mc ff fr) sz)) (va_Qi (fun r (u : (Nat → Int32) × Int32 × Int32) => ∃ v : Nat, v ≤ 2000 ∧ x = nI v ∧ ∃ bm : Nat → Nat, mx_B w n v (bm 0) (bm 1) (bm 2) (bm 3) ∧ r = nI (bm 0 + bm 1 + bm 2 + bm 3)) (zz_B D tys (va_A (nmW cI h a1 a2 a3 a4 wf nf bf bs mc ff fr) sz) (fun u => nmW cI h a1 a2 a3 a4 wf nf u.1 u.2.1 u.2.2 ff fr)) (va_A (nmW cI h a1 a2 a3 a4 wf nf bf bs mc ff fr) sz)) (zx_X (fun E (u : (Nat → Int32) × Int32 × Int32) => (E = "java/lang/IllegalArgumentException" ∧ ¬ zr x 0 2000) ∨ (E = "java/util/NoSuchElementException" ∧ ∃ v : Nat, v ≤ 2000 ∧ x = nI v ∧ ¬ mx_has w n v)) D tys (va_A (nmW cI h a1 a2 a3 a4 wf nf bf bs mc ff fr) sz) (fun u => nmW cI h a1 a2 a3 a4 wf nf u.1 u.2.1 u.2.2 ff fr)) 1 6 (va_A (nmW cI h a1 a2 a3 a4 wf nf bf bs mc ff fr) sz) := by
  refine zx_headI (cc := cX0_best) (by decide) rfl (Nat.le_of_ble_eq_true rfl) ?_
  intro p e s m below meth cd A ls F hr hlocks htab hP hK hD hA hS hst hl
  obtain ⟨hx, hb, hml, hown, hts⟩ := id F
  have hl : lv_has ls 2 [(0, .ref h), (1, .int x)] := hl
  refine lv_aload_n hx hb dX0_best_0 rfl (lv_at hl 0 rfl) ?_
  refine lv_iload_n hx hb dX0_best_1 rfl (lv_at hl 1 rfl) ?_
  refine zx_callVv (As := [.int x]) (rest := []) F hK hP hD hS hA hst (c_findBest l hl0 D tys cI hI h a1 a2 a3 a4 fr _ wf nf bf bs mc ff w n ok x) (cwV 1 hts gX0_best_X0_findBest rfl rfl rfl (by decide +kernel) ⟨Nat.le_of_ble_eq_true rfl, Nat.le_of_ble_eq_true rfl⟩) 0 rfl rfl rfl hl.1 rfl (by decide) dX0_best_2 ⟨Nat.le_of_ble_eq_true rfl, Nat.le_of_ble_eq_true rfl⟩ (fun E ce q9 u H locs hE hP hD hS g1 g2 g3 => zx_out htab hlocks hK hS g1 g2 g3 (by decide) (by decide) u hE hP hD) (fun u H locs hu hP hD hS => ?_)
  obtain ⟨bf, bs, mc⟩ := u
  obtain ⟨v, hv, hx9, bm, hB, e1, hbm⟩ := hu
  have hP : va_P D vwCl (nmW cI h a1 a2 a3 a4 wf nf bf bs mc ff fr) H := hP
  have hD : va_D A (nmW cI h a1 a2 a3 a4 wf nf bf bs mc ff fr) := hD
  refine lv_aload_n hx hb dX0_best_5 rfl (lv_at hl 0 rfl) ?_
  refine va_get (D := D) (ci := 0) (v := .int bs) (C := RX0) (T := TX0) (N := 6) hx hb hts (inX0_best) hown hK hP 0 rfl rfl 3 (by decide) (hts (.fieldLink RX0 19 "NoteMix" "bestSize" "I") (by decide +kernel)) (fun _ h9 => h9) rfl dX0_best_6 ?_
  refine vx_ret ?_
  exact zz_iret F hr hlocks hK hS dX0_best_9 (by decide) (by decide) (bf, bs, mc) ⟨v, hv, hx9, bm, hB, e1⟩ hP hD
