set_option maxRecDepth 100000 in
set_option maxHeartbeats 4000000 in
theorem c_fillFewest (l : Launch) (D : va_G) (tys : List (ClassId × FieldType)) (cI : ClassId) (hI : tys[0]? = some (cI, .int)) (h a1 a2 a3 a4 : Nat) (fr : va_W) (sz : Nat) (wf nf bf : Nat → Int32) (bs mc : Int32) (ff : Nat → Int32) (w n : Nat → Nat) (ok : nmOk wf nf w n) : Met l yX0_fillFewest wsX0_fillFewest ({ frames := 3, cells := 0, slots := 0, locals := 90 }) (va_Pc [.ref h] (zz_pre D tys (nmW cI h a1 a2 a3 a4 wf nf bf bs mc ff fr) sz)) (va_Qv (fun (u : Nat → Int32) => ∃ f : Nat → Nat, (∀ j, j ≤ 2000 → u j = nI (f j)) ∧ ∀ v, v ≤ 2000 → f v ≤ 41 ∧ (f v < 41 ↔ mx_has w n v)) (zz_B D tys (va_A (nmW cI h a1 a2 a3 a4 wf nf bf bs mc ff fr) sz) (fun u => nmW cI h a1 a2 a3 a4 wf nf bf bs mc u fr)) (va_A (nmW cI h a1 a2 a3 a4 wf nf bf bs mc ff fr) sz)) 0 0 (va_A (nmW cI h a1 a2 a3 a4 wf nf bf bs mc ff fr) sz) := by
  refine zz_headV (cc := cX0_fillFewest) (by decide) rfl (Nat.le_of_ble_eq_true rfl) ?_
  intro p e s m below meth cd A ls F hr hlocks hin hP hK hD hA hS hl
  obtain ⟨hx, hb, hml, hown, hts⟩ := id F
  have hl : lv_has ls 2 [(0, .ref h)] := hl
  refine lv_aload_n hx hb dX0_fillFewest_0 rfl (lv_at hl 0 rfl) ?_
  refine va_get (D := D) (ci := 0) (v := .ref a4) (C := RX0) (T := TX0) (N := 6) hx hb hts (inX0_fillFewest) hown hK hP 0 rfl rfl 5 (by decide) (hts (.fieldLink RX0 26 "NoteMix" "fewest" "[I") (by decide +kernel)) (fun _ h9 => h9) rfl dX0_fillFewest_1 ?_
  refine lv_bipush (v := nI 41) hx hb dX0_fillFewest_4 (by decide +kernel) ?_
  refine zz_callSv (As := [.ref a4, .int (nI 41)]) (rest := []) F hK hP hD hS hA (c_fill l D tys cI hI _ 4 a4 2001 ff _ rfl (by decide) (nI 41)) (va_cwS 2 hts gX0_fillFewest_J7_fill_53178 rfl rfl rfl (by decide +kernel) ⟨Nat.le_of_ble_eq_true rfl, Nat.le_of_ble_eq_true rfl⟩) rfl hl.1 rfl (by decide) dX0_fillFewest_6 ⟨Nat.le_of_ble_eq_true rfl, Nat.le_of_ble_eq_true rfl⟩ (fun g H locs hg hP hD hS => ?_)
  have hP : va_P D vwCl (nmW cI h a1 a2 a3 a4 wf nf bf bs mc g fr) H := hP
  have hD : va_D A (nmW cI h a1 a2 a3 a4 wf nf bf bs mc g fr) := hD
  refine lv_aload_n hx hb dX0_fillFewest_9 rfl (lv_at hl 0 rfl) ?_
  refine va_get (D := D) (ci := 0) (v := .ref a4) (C := RX0) (T := TX0) (N := 6) hx hb hts (inX0_fillFewest) hown hK hP 0 rfl rfl 5 (by decide) (hts (.fieldLink RX0 26 "NoteMix" "fewest" "[I") (by decide +kernel)) (fun _ h9 => h9) rfl dX0_fillFewest_10 ?_
  refine lv_iconst (v := nI 0) hx hb dX0_fillFewest_13 (by decide +kernel) ?_
  refine lv_iconst (v := nI 0) hx hb dX0_fillFewest_14 (by decide +kernel) ?_
  refine zn_iast (k := 0) hx hb hK hP hD hS 4 _ rfl hI (by decide) (by decide) dX0_fillFewest_15 (fun H locs g1 g1e g1n hP hD hS => ?_)
  have hP : va_P D vwCl (nmW cI h a1 a2 a3 a4 wf nf bf bs mc g1 fr) H := hP
  have hD : va_D A (nmW cI h a1 a2 a3 a4 wf nf bf bs mc g1 fr) := hD
  refine lv_iconst (v := nI 0) hx hb dX0_fillFewest_16 (by decide +kernel) ?_
  refine lv_istore_n (lv' := [(1, .int (nI 0)), (0, .ref h)]) hx hb dX0_fillFewest_17 rfl hl (by decide) rfl (fun ls hl => ?_)
  have hl : lv_has ls 2 [(1, .int (nI 0)), (0, .ref h)] := lv_sub hl [0, 1] rfl
  refine zz_loop (fun ls H locs (u : Nat × (Nat → Int32) × (Nat → Nat) × (Nat → Nat)) => lv_has ls 2 [(1, .int (nI u.1)), (0, .ref h)] ∧ va_P D vwCl (nmW cI h a1 a2 a3 a4 wf nf bf bs mc u.2.1 fr) H ∧ va_D A (nmW cI h a1 a2 a3 a4 wf nf bf bs mc u.2.1 fr) ∧ va_S A s.heap H locs ∧ u.1 ≤ 4 ∧ (∀ j, j ≤ 2000 → u.2.1 j = nI (u.2.2.1 j)) ∧ rc_F w u.2.2.2 u.2.2.1 ∧ (∀ j, j < u.1 → u.2.2.2 j = min (n j) 40) ∧ (∀ j, u.1 ≤ j → j < 4 → u.2.2.2 j = 0)) (fun u => 4 - u.1) ?_ (0, g1, (fun j => if j = 0 then 0 else 41), (fun _ => 0)) ⟨hl, hP, hD, hS, Nat.zero_le _, fun j hj => ?_, rc_F0 (fun _ _ => rfl) rfl (fun v _ hv => if_neg (by omega)), fun j hj => absurd hj (Nat.not_lt_zero _), fun _ _ _ => rfl⟩
  · rintro ls H locs ⟨c, g, f, L⟩ ⟨hl, hP, hD, hS, hc, hg, hF, hL1, hL2⟩ kk
    dsimp only at hl hP hD hc hg hF hL1 hL2 kk
    refine lv_iload_n hx hb dX0_fillFewest_18 rfl (lv_at hl 0 rfl) ?_
    refine lv_iconst (v := nI 3) hx hb dX0_fillFewest_19 (by decide +kernel) ?_
    refine zn_gt hx hb (by omega) (by omega) dX0_fillFewest_20 rfl (fun hc1 => ?_) (fun hc1 => ?_)
    · exact zz_vret F hr hlocks hK hS dX0_fillFewest_34 (by decide) (by decide) g ⟨f, hg, fun v hv => ⟨(hF v hv).1, rc_has (L := L) (fun j hj => hL1 j (by omega)) hF hv⟩⟩ hP hD
    · refine lv_aload_n hx hb dX0_fillFewest_23 rfl (lv_at hl 1 rfl) ?_
      refine lv_iload_n hx hb dX0_fillFewest_24 rfl (lv_at hl 0 rfl) ?_
      refine zz_callVv (As := [.int (nI c)]) (rest := []) F hK hP hD hS hA (c_addCassette l D tys cI hI h a1 a2 a3 a4 fr _ wf nf bf bs mc g w n ok f L hg hF c (by omega) (hL2 c (Nat.le_refl _) (by omega))) (cwV 1 hts gX0_fillFewest_X0_addCassette rfl rfl rfl (by decide +kernel) ⟨Nat.le_of_ble_eq_true rfl, Nat.le_of_ble_eq_true rfl⟩) 0 rfl rfl rfl hl.1 rfl (by decide) dX0_fillFewest_25 ⟨Nat.le_of_ble_eq_true rfl, Nat.le_of_ble_eq_true rfl⟩ (fun g1 H locs hg1 hP hD hS => ?_)
      have hP : va_P D vwCl (nmW cI h a1 a2 a3 a4 wf nf bf bs mc g1 fr) H := hP
      have hD : va_D A (nmW cI h a1 a2 a3 a4 wf nf bf bs mc g1 fr) := hD
      obtain ⟨f1, L1, hg1, e1, e2, hF1⟩ := hg1
      refine lv_iinc (k := 0) (lv' := [(1, .int (nI (c + 1))), (0, .ref h)]) hx hb dX0_fillFewest_28 hl rfl (zz_i1 _) (by decide) rfl (fun ls hl => ?_)
      refine lv_goto hx hb dX0_fillFewest_31 rfl ?_
      have hl : lv_has ls 2 [(1, .int (nI (c + 1))), (0, .ref h)] := lv_sub hl [0, 1] rfl
      refine kk _ _ _ (c + 1, g1, f1, L1) ⟨hl, hP, hD, hS, by show c + 1 ≤ 4; omega, hg1, hF1, fun j hj => ?_, fun j hj1 hj2 => ?_⟩ (by show 4 - (c + 1) < 4 - c; omega)
      · by_cases e9 : j = c
        · subst e9
          exact e1
        · have hj9 : j < c + 1 := hj
          exact (e2 j (by omega) e9).trans (hL1 j (by omega))
      · have hj9 : c + 1 ≤ j := hj1
        exact (e2 j hj2 (by omega)).trans (hL2 j (by omega) hj2)
  · show g1 j = nI (if j = 0 then 0 else 41)
    by_cases e9 : j = 0
    · subst e9
      rw [if_pos rfl]
      exact g1e
    · rw [if_neg e9, g1n j e9]
      exact hg j (by omega)
