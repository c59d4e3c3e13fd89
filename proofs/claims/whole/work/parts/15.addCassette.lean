set_option maxRecDepth 100000 in
set_option maxHeartbeats 4000000 in
theorem c_addCassette (l : Launch) (D : va_G) (tys : List (ClassId × FieldType)) (cI : ClassId) (hI : tys[0]? = some (cI, .int)) (h a1 a2 a3 a4 : Nat) (fr : va_W) (sz : Nat) (wf nf bf : Nat → Int32) (bs mc : Int32) (ff : Nat → Int32) (w n : Nat → Nat) (ok : nmOk wf nf w n) (f L : Nat → Nat) (hff : ∀ j, j ≤ 2000 → ff j = nI (f j)) (hF : rc_F w L f) (c : Nat) (hc : c < 4) (hL0 : L c = 0) : Met l yX0_addCassette wsX0_addCassette ({ frames := 2, cells := 0, slots := 0, locals := 60 }) (va_Pc [.ref h, .int (nI c)] (zz_pre D tys (nmW cI h a1 a2 a3 a4 wf nf bf bs mc ff fr) sz)) (va_Qv (fun (u : Nat → Int32) => ∃ (f1 L1 : Nat → Nat), (∀ j, j ≤ 2000 → u j = nI (f1 j)) ∧ L1 c = min (n c) 40 ∧ (∀ j, j < 4 → j ≠ c → L1 j = L j) ∧ rc_F w L1 f1) (zz_B D tys (va_A (nmW cI h a1 a2 a3 a4 wf nf bf bs mc ff fr) sz) (fun u => nmW cI h a1 a2 a3 a4 wf nf bf bs mc u fr)) (va_A (nmW cI h a1 a2 a3 a4 wf nf bf bs mc ff fr) sz)) 0 0 (va_A (nmW cI h a1 a2 a3 a4 wf nf bf bs mc ff fr) sz) := by
  refine zz_headV (cc := cX0_addCassette) (by decide) rfl (Nat.le_of_ble_eq_true rfl) ?_
  intro p e s m below meth cd A ls F hr hlocks hin hP hK hD hA hS hl
  obtain ⟨hx, hb, hml, hown, hts⟩ := id F
  have hl : lv_has ls 5 [(0, .ref h), (1, .int (nI c))] := hl
  obtain ⟨k1, k2, k3⟩ := ok.2.2 c hc
  refine lv_aload_n hx hb dX0_addCassette_0 rfl (lv_at hl 0 rfl) ?_
  refine va_get (D := D) (ci := 0) (v := .ref a2) (C := RX0) (T := TX0) (N := 6) hx hb hts (inX0_addCassette) hown hK hP 0 rfl rfl 1 (by decide) (hts (.fieldLink RX0 13 "NoteMix" "notesIn" "[I") (by decide +kernel)) (fun _ h9 => h9) rfl dX0_addCassette_1 ?_
  refine lv_iload_n hx hb dX0_addCassette_4 rfl (lv_at hl 1 rfl) ?_
  refine zn_iald (k := c) hx hb hK hP 2 _ rfl hI (by omega) (by decide) (ok.2.1 c (by omega)) dX0_addCassette_5 ?_
  refine lv_bipush (v := nI 40) hx hb dX0_addCassette_6 (by decide +kernel) ?_
  refine zn_min hx hb (hml.trans hl.1.symm) hown (hts (.methodLink RX0 40 Lib.Math.min.name) (by decide +kernel)) (hts (.static Lib.Math.min.name) (by decide +kernel)) (hts (.initialized "java/lang/Math") (by decide +kernel)) (hts (.code Lib.Math.min.name Lib.Math.min.code 2 (some .int)) (by decide +kernel)) (Nat.le_of_ble_eq_true rfl) (Nat.le_of_ble_eq_true rfl) (Nat.le_of_ble_eq_true rfl) (Nat.le_of_ble_eq_true rfl) (by omega) (by omega) dX0_addCassette_8 ?_
  refine lv_istore_n (lv' := [(2, .int (nI (min (n c) 40))), (0, .ref h), (1, .int (nI c))]) hx hb dX0_addCassette_11 rfl hl (by decide) rfl (fun ls hl => ?_)
  refine lv_iconst (v := nI 1) hx hb dX0_addCassette_12 (by decide +kernel) ?_
  refine lv_istore_n (lv' := [(3, .int (nI 1)), (2, .int (nI (min (n c) 40))), (0, .ref h), (1, .int (nI c))]) hx hb dX0_addCassette_13 rfl hl (by decide) rfl (fun ls hl => ?_)
  have hl : lv_has ls 5 [(3, .int (nI 1)), (2, .int (nI (min (n c) 40))), (1, .int (nI c)), (0, .ref h)] := lv_sub hl [0, 1, 3, 2] rfl
  refine zz_loop (fun ls H locs (u : Nat × Nat × (Nat → Int32) × (Nat → Nat) × (Nat → Nat)) => lv_has ls 5 [(3, .int (nI u.1)), (2, .int (nI u.2.1)), (1, .int (nI c)), (0, .ref h)] ∧ va_P D vwCl (nmW cI h a1 a2 a3 a4 wf nf bf bs mc u.2.2.1 fr) H ∧ va_D A (nmW cI h a1 a2 a3 a4 wf nf bf bs mc u.2.2.1 fr) ∧ va_S A s.heap H locs ∧ (∀ j, j ≤ 2000 → u.2.2.1 j = nI (u.2.2.2.1 j)) ∧ rc_F w u.2.2.2.2 u.2.2.2.1 ∧ (∀ j, j < 4 → j ≠ c → u.2.2.2.2 j = L j) ∧ u.2.2.2.2 c + u.2.1 = min (n c) 40 ∧ (u.2.2.2.2 c + 1 = u.1 ∨ u.2.1 = 0) ∧ u.1 ≤ 100) (fun u => u.2.1) ?_ (1, min (n c) 40, ff, f, L) ⟨hl, hP, hD, hS, hff, hF, fun _ _ _ => rfl, by show L c + min (n c) 40 = min (n c) 40; omega, Or.inl (by show L c + 1 = 1; omega), by show 1 ≤ 100; omega⟩
  rintro ls H locs ⟨size, left, g, f, L1⟩ ⟨hl, hP, hD, hS, hg, hF, hL1, hL2, hL3, hL4⟩ kk
  dsimp only at hl hP hD hg hF hL1 hL2 hL3 hL4 kk
  refine lv_iload_n hx hb dX0_addCassette_14 rfl (lv_at hl 0 rfl) ?_
  refine lv_bipush (v := nI 40) hx hb dX0_addCassette_15 (by decide +kernel) ?_
  refine zn_gt hx hb (by omega) (by omega) dX0_addCassette_17 rfl (fun hc1 => ?_) (fun hc1 => ?_)
  · exact zz_vret F hr hlocks hK hS dX0_addCassette_58 (by decide) (by decide) g ⟨f, L1, hg, by omega, hL1, hF⟩ hP hD
  · refine lv_iload_n hx hb dX0_addCassette_20 rfl (lv_at hl 1 rfl) ?_
    refine zn_if_le hx hb (by omega) dX0_addCassette_21 rfl (fun hc2 => ?_) (fun hc2 => ?_)
    · exact zz_vret F hr hlocks hK hS dX0_addCassette_58 (by decide) (by decide) g ⟨f, L1, hg, by omega, hL1, hF⟩ hP hD
    · refine lv_iload_n hx hb dX0_addCassette_24 rfl (lv_at hl 0 rfl) ?_
      refine lv_iload_n hx hb dX0_addCassette_25 rfl (lv_at hl 1 rfl) ?_
      refine zn_min hx hb (hml.trans hl.1.symm) hown (hts (.methodLink RX0 40 Lib.Math.min.name) (by decide +kernel)) (hts (.static Lib.Math.min.name) (by decide +kernel)) (hts (.initialized "java/lang/Math") (by decide +kernel)) (hts (.code Lib.Math.min.name Lib.Math.min.code 2 (some .int)) (by decide +kernel)) (Nat.le_of_ble_eq_true rfl) (Nat.le_of_ble_eq_true rfl) (Nat.le_of_ble_eq_true rfl) (Nat.le_of_ble_eq_true rfl) (by omega) (by omega) dX0_addCassette_26 ?_
      obtain ⟨k, hk⟩ : ∃ k, k = min size left := ⟨_, rfl⟩
      rw [← hk]
      have hkw : 1 ≤ k * w c := Nat.mul_pos (show 0 < k by omega) k1
      have hkw2 : k * w c ≤ 40 * 500 := Nat.mul_le_mul (by omega) k2
      refine lv_istore (lv' := [(4, .int (nI k)), (3, .int (nI size)), (2, .int (nI left)), (1, .int (nI c)), (0, .ref h)]) hx hb dX0_addCassette_29 hl (by decide) rfl (fun ls hl => ?_)
      refine lv_aload_n hx hb dX0_addCassette_31 rfl (lv_at hl 4 rfl) ?_
      refine lv_iload hx hb dX0_addCassette_32 (lv_at hl 0 rfl) ?_
      refine lv_iload hx hb dX0_addCassette_34 (lv_at hl 0 rfl) ?_
      refine lv_aload_n hx hb dX0_addCassette_36 rfl (lv_at hl 4 rfl) ?_
      refine va_get (D := D) (ci := 0) (v := .ref a1) (C := RX0) (T := TX0) (N := 6) hx hb hts (inX0_addCassette) hown hK hP 0 rfl rfl 0 (by decide) (hts (.fieldLink RX0 9 "NoteMix" "worthOf" "[I") (by decide +kernel)) (fun _ h9 => h9) rfl dX0_addCassette_37 ?_
      refine lv_iload_n hx hb dX0_addCassette_40 rfl (lv_at hl 3 rfl) ?_
      refine zn_iald (k := c) hx hb hK hP 1 _ rfl hI (by omega) (by decide) (ok.1 c (by omega)) dX0_addCassette_41 ?_
      refine zn_mul hx hb dX0_addCassette_42 ?_
      refine zz_callVv (As := [.int (nI k), .int (nI (k * (w c)))]) (rest := []) F hK hP hD hS hA (c_addBundle l D tys cI hI h a1 a2 a3 a4 fr _ wf nf bf bs mc g f hg (fun j hj => (hF j hj).1) k (k * w c) (by omega) hkw (by omega)) (cwV 2 hts gX0_addCassette_X0_addBundle rfl rfl rfl (by decide +kernel) ⟨Nat.le_of_ble_eq_true rfl, Nat.le_of_ble_eq_true rfl⟩) 0 rfl rfl rfl hl.1 rfl (by decide) dX0_addCassette_43 ⟨Nat.le_of_ble_eq_true rfl, Nat.le_of_ble_eq_true rfl⟩ (fun g1 H locs hg1 hP hD hS => ?_)
      have hP : va_P D vwCl (nmW cI h a1 a2 a3 a4 wf nf bf bs mc g1 fr) H := hP
      have hD : va_D A (nmW cI h a1 a2 a3 a4 wf nf bf bs mc g1 fr) := hD
      refine lv_iload_n hx hb dX0_addCassette_46 rfl (lv_at hl 2 rfl) ?_
      refine lv_iload hx hb dX0_addCassette_47 (lv_at hl 0 rfl) ?_
      refine zn_sub hx hb (by omega) dX0_addCassette_49 ?_
      refine lv_istore_n (lv' := [(2, .int (nI (left - k))), (4, .int (nI k)), (3, .int (nI size)), (1, .int (nI c)), (0, .ref h)]) hx hb dX0_addCassette_50 rfl hl (by decide) rfl (fun ls hl => ?_)
      refine lv_iload_n hx hb dX0_addCassette_51 rfl (lv_at hl 2 rfl) ?_
      refine lv_iconst (v := nI 2) hx hb dX0_addCassette_52 (by decide +kernel) ?_
      refine zn_mul hx hb dX0_addCassette_53 ?_
      refine lv_istore_n (lv' := [(3, .int (nI (size * 2))), (2, .int (nI (left - k))), (4, .int (nI k)), (1, .int (nI c)), (0, .ref h)]) hx hb dX0_addCassette_54 rfl hl (by decide) rfl (fun ls hl => ?_)
      refine lv_goto hx hb dX0_addCassette_55 rfl ?_
      have hl : lv_has ls 5 [(3, .int (nI (size * 2))), (2, .int (nI (left - k))), (1, .int (nI c)), (0, .ref h)] := lv_sub hl [0, 1, 3, 4] rfl
      exact kk _ _ _ (size * 2, left - k, g1, (fun j => if k * w c ≤ j then min (f j) (f (j - k * w c) + k) else f j), (fun j => if j = c then L1 c + k else L1 j)) ⟨hl, hP, hD, hS, hg1, rc_step (k := k) hc (fun j _ hj => if_neg hj) (if_pos rfl) (by omega) hF (fun v _ hv => if_pos hv) (fun v _ hv => if_neg (by omega)), fun j hj hjc => (if_neg hjc).trans (hL1 j hj hjc), by show (if c = c then L1 c + k else L1 c) + (left - k) = _; rw [if_pos rfl]; omega, by show (if c = c then L1 c + k else L1 c) + 1 = size * 2 ∨ left - k = 0; rw [if_pos rfl]; omega, by show size * 2 ≤ 100; omega⟩ (by show left - k < left; omega)
