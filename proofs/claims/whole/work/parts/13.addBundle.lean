set_option maxRecDepth 100000 in
set_option maxHeartbeats 4000000 in
theorem c_addBundle (l : Launch) (D : va_G) (tys : List (ClassId × FieldType)) (cI : ClassId) (hI : tys[0]? = some (cI, .int)) (h a1 a2 a3 a4 : Nat) (fr : va_W) (sz : Nat) (wf nf bf : Nat → Int32) (bs mc : Int32) (ff : Nat → Int32) (f : Nat → Nat) (hff : ∀ j, j ≤ 2000 → ff j = nI (f j)) (hf41 : ∀ j, j ≤ 2000 → f j ≤ 41) (k am : Nat) (hk : k ≤ 40) (ha1 : 1 ≤ am) (ha2 : am ≤ 20000) : Met l yX0_addBundle wsX0_addBundle ({ frames := 1, cells := 0, slots := 0, locals := 20 }) (va_Pc [.ref h, .int (nI k), .int (nI am)] (zz_pre D tys (nmW cI h a1 a2 a3 a4 wf nf bf bs mc ff fr) sz)) (va_Qv (fun (u : Nat → Int32) => ∀ j, j ≤ 2000 → u j = nI (if am ≤ j then min (f j) (f (j - am) + k) else f j)) (zz_B D tys (va_A (nmW cI h a1 a2 a3 a4 wf nf bf bs mc ff fr) sz) (fun u => nmW cI h a1 a2 a3 a4 wf nf bf bs mc u fr)) (va_A (nmW cI h a1 a2 a3 a4 wf nf bf bs mc ff fr) sz)) 0 0 (va_A (nmW cI h a1 a2 a3 a4 wf nf bf bs mc ff fr) sz) := by
  refine zz_headV (cc := cX0_addBundle) (by decide) rfl (Nat.le_of_ble_eq_true rfl) ?_
  intro p e s m below meth cd A ls F hr hlocks hin hP hK hD hA hS hl
  obtain ⟨hx, hb, hml, hown, hts⟩ := id F
  have hl : lv_has ls 4 [(0, .ref h), (1, .int (nI k)), (2, .int (nI am))] := hl
  refine lv_sipush (v := nI 2000) hx hb dX0_addBundle_0 (by decide +kernel) ?_
  refine lv_istore_n (lv' := [(3, .int (nI 2000)), (0, .ref h), (1, .int (nI k)), (2, .int (nI am))]) hx hb dX0_addBundle_3 rfl hl (by decide) rfl (fun ls hl => ?_)
  have hl : lv_has ls 4 [(3, .int (nI 2000)), (2, .int (nI am)), (1, .int (nI k)), (0, .ref h)] := lv_sub hl [0, 3, 2, 1] rfl
  refine zz_loop (fun ls H locs (u : Nat × (Nat → Int32)) => lv_has ls 4 [(3, .int (nI u.1)), (2, .int (nI am)), (1, .int (nI k)), (0, .ref h)] ∧ va_P D vwCl (nmW cI h a1 a2 a3 a4 wf nf bf bs mc u.2 fr) H ∧ va_D A (nmW cI h a1 a2 a3 a4 wf nf bf bs mc u.2 fr) ∧ va_S A s.heap H locs ∧ u.1 ≤ 2000 ∧ (am ≤ 2000 → am ≤ u.1 + 1) ∧ (∀ j, j ≤ u.1 → u.2 j = nI (f j)) ∧ (∀ j, u.1 < j → j ≤ 2000 → u.2 j = nI (if am ≤ j then min (f j) (f (j - am) + k) else f j))) (fun u => u.1) ?_ (2000, ff) ⟨hl, hP, hD, hS, Nat.le_refl _, fun h9 => by show am ≤ 2000 + 1; omega, fun j hj => hff j hj, fun j h1 h2 => absurd h1 (by show ¬ 2000 < j; omega)⟩
  rintro ls H locs ⟨v, g⟩ ⟨hl, hP, hD, hS, h1, h2, h3, h4⟩ kk
  dsimp only at hl hP hD h1 h2 h3 h4 kk
  refine lv_iload_n hx hb dX0_addBundle_4 rfl (lv_at hl 0 rfl) ?_
  refine lv_iload_n hx hb dX0_addBundle_5 rfl (lv_at hl 1 rfl) ?_
  refine zn_lt hx hb (by omega) (by omega) dX0_addBundle_6 rfl (fun hc => ?_) (fun hc => ?_)
  · exact zz_vret F hr hlocks hK hS dX0_addBundle_40 (by decide) (by decide) g (fun j hj => (Nat.lt_or_ge v j).elim (fun q9 => h4 j q9 hj) (fun q9 => (h3 j q9).trans (by rw [if_neg (by omega)]))) hP hD
  · have hfv := hf41 v h1
    have hfa := hf41 (v - am) (by omega)
    refine lv_aload_n hx hb dX0_addBundle_9 rfl (lv_at hl 3 rfl) ?_
    refine va_get (D := D) (ci := 0) (v := .ref a4) (C := RX0) (T := TX0) (N := 6) hx hb hts (inX0_addBundle) hown hK hP 0 rfl rfl 5 (by decide) (hts (.fieldLink RX0 26 "NoteMix" "fewest" "[I") (by decide +kernel)) (fun _ h9 => h9) rfl dX0_addBundle_10 ?_
    refine lv_iload_n hx hb dX0_addBundle_13 rfl (lv_at hl 0 rfl) ?_
    refine lv_aload_n hx hb dX0_addBundle_14 rfl (lv_at hl 3 rfl) ?_
    refine va_get (D := D) (ci := 0) (v := .ref a4) (C := RX0) (T := TX0) (N := 6) hx hb hts (inX0_addBundle) hown hK hP 0 rfl rfl 5 (by decide) (hts (.fieldLink RX0 26 "NoteMix" "fewest" "[I") (by decide +kernel)) (fun _ h9 => h9) rfl dX0_addBundle_15 ?_
    refine lv_iload_n hx hb dX0_addBundle_18 rfl (lv_at hl 0 rfl) ?_
    refine zn_iald (k := v) hx hb hK hP 4 _ rfl hI (by omega) (by decide) (h3 v (by omega)) dX0_addBundle_19 ?_
    refine lv_aload_n hx hb dX0_addBundle_20 rfl (lv_at hl 3 rfl) ?_
    refine va_get (D := D) (ci := 0) (v := .ref a4) (C := RX0) (T := TX0) (N := 6) hx hb hts (inX0_addBundle) hown hK hP 0 rfl rfl 5 (by decide) (hts (.fieldLink RX0 26 "NoteMix" "fewest" "[I") (by decide +kernel)) (fun _ h9 => h9) rfl dX0_addBundle_21 ?_
    refine lv_iload_n hx hb dX0_addBundle_24 rfl (lv_at hl 0 rfl) ?_
    refine lv_iload_n hx hb dX0_addBundle_25 rfl (lv_at hl 1 rfl) ?_
    refine zn_sub hx hb (by omega) dX0_addBundle_26 ?_
    refine zn_iald (k := v - am) hx hb hK hP 4 _ rfl hI (by omega) (by decide) (h3 (v - am) (by omega)) dX0_addBundle_27 ?_
    refine lv_iload_n hx hb dX0_addBundle_28 rfl (lv_at hl 2 rfl) ?_
    refine zn_add hx hb dX0_addBundle_29 ?_
    refine zn_min hx hb (hml.trans hl.1.symm) hown (hts (.methodLink RX0 40 Lib.Math.min.name) (by decide +kernel)) (hts (.static Lib.Math.min.name) (by decide +kernel)) (hts (.initialized "java/lang/Math") (by decide +kernel)) (hts (.code Lib.Math.min.name Lib.Math.min.code 2 (some .int)) (by decide +kernel)) (Nat.le_of_ble_eq_true rfl) (Nat.le_of_ble_eq_true rfl) (Nat.le_of_ble_eq_true rfl) (Nat.le_of_ble_eq_true rfl) (by omega) (by omega) dX0_addBundle_30 ?_
    refine zn_iast (k := v) hx hb hK hP hD hS 4 _ rfl hI (by omega) (by decide) dX0_addBundle_33 (fun H locs g1 g1e g1n hP hD hS => ?_)
    have hP : va_P D vwCl (nmW cI h a1 a2 a3 a4 wf nf bf bs mc g1 fr) H := hP
    have hD : va_D A (nmW cI h a1 a2 a3 a4 wf nf bf bs mc g1 fr) := hD
    obtain ⟨v1, rfl⟩ : ∃ v1, v = v1 + 1 := ⟨v - 1, by omega⟩
    refine lv_iinc (k := 0) (lv' := [(3, .int (nI v1)), (2, .int (nI am)), (1, .int (nI k)), (0, .ref h)]) hx hb dX0_addBundle_34 hl rfl (zz_d1 _) (by decide) rfl (fun ls hl => ?_)
    refine lv_goto hx hb dX0_addBundle_37 rfl ?_
    refine kk _ _ _ (v1, g1) ⟨hl, hP, hD, hS, by show v1 ≤ 2000; omega, fun _ => by show am ≤ v1 + 1; omega, fun j hj => (g1n j (by have h9 : j ≤ v1 := hj; omega)).trans (h3 j (by have h9 : j ≤ v1 := hj; omega)), fun j hj1 hj2 => ?_⟩ (by show v1 < v1 + 1; omega)
    show g1 j = nI (if am ≤ j then min (f j) (f (j - am) + k) else f j)
    by_cases e9 : j = v1 + 1
    · subst e9
      rw [if_pos (by omega)]
      exact g1e
    · rw [g1n j e9]
      exact h4 j (by have h9 : v1 < j := hj1; omega) hj2
