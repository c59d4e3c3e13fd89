set_option maxRecDepth 100000 in
set_option maxHeartbeats 4000000 in
theorem c_findBest (l : Launch) (hl0 : l.stackTraces = false) (D : va_G) (tys : List (ClassId × FieldType)) (cI : ClassId) (hI : tys[0]? = some (cI, .int)) (h a1 a2 a3 a4 : Nat) (fr : va_W) (sz : Nat) (wf nf bf : Nat → Int32) (bs mc : Int32) (ff : Nat → Int32) (w n : Nat → Nat) (ok : nmOk wf nf w n) (x : Int32) : vx_Met l yX0_findBest wsX0_findBest ({ frames := 8, cells := 1, slots := 6, locals := 160 }) (va_Pc [.ref h, .int x] (zx_pre D tys (nmW cI h a1 a2 a3 a4 wf nf bf bs mc ff fr) sz)) (va_Qv (fun (u : (Nat → Int32) × Int32 × Int32) => ∃ v : Nat, v ≤ 2000 ∧ x = nI v ∧ ∃ bm : Nat → Nat, mx_B w n v (bm 0) (bm 1) (bm 2) (bm 3) ∧ u.2.1 = nI (bm 0 + bm 1 + bm 2 + bm 3) ∧ ∀ j, j < 4 → u.1 j = nI (bm j)) (zz_B D tys (va_A (nmW cI h a1 a2 a3 a4 wf nf bf bs mc ff fr) sz) (fun u => nmW cI h a1 a2 a3 a4 wf nf u.1 u.2.1 u.2.2 ff fr)) (va_A (nmW cI h a1 a2 a3 a4 wf nf bf bs mc ff fr) sz)) (zx_X (fun E (u : (Nat → Int32) × Int32 × Int32) => (E = "java/lang/IllegalArgumentException" ∧ ¬ zr x 0 2000) ∨ (E = "java/util/NoSuchElementException" ∧ ∃ v : Nat, v ≤ 2000 ∧ x = nI v ∧ ¬ mx_has w n v)) D tys (va_A (nmW cI h a1 a2 a3 a4 wf nf bf bs mc ff fr) sz) (fun u => nmW cI h a1 a2 a3 a4 wf nf u.1 u.2.1 u.2.2 ff fr)) 1 6 (va_A (nmW cI h a1 a2 a3 a4 wf nf bf bs mc ff fr) sz) := by
  refine zx_headV (cc := cX0_findBest) (by decide) rfl (Nat.le_of_ble_eq_true rfl) ?_
  intro p e s m below meth cd A ls F hr hlocks htab hP hK hD hA hS hst hl
  obtain ⟨hx, hb, hml, hown, hts⟩ := id F
  have hl : lv_has ls 2 [(0, .ref h), (1, .int x)] := hl
  by_cases hz : zr x 0 2000
  · obtain ⟨v, hv0, hv, rfl⟩ := hz
    refine lv_iload_n hx hb dX0_findBest_0 rfl (lv_at hl 1 rfl) ?_
    refine lv_iconst (v := nI 0) hx hb dX0_findBest_1 (by decide +kernel) ?_
    refine lv_sipush (v := nI 2000) hx hb dX0_findBest_2 (by decide +kernel) ?_
    refine zz_callSv (As := [.int (nI v), .int (nI 0), .int (nI 2000)]) (rest := []) F hK hP hD hS hA (c_rr_ok l D tys _ _ v 0 2000 hv0 hv (by decide)) (va_cwS 3 hts gX0_findBest_X0_requireRange rfl rfl rfl (by decide +kernel) ⟨Nat.le_of_ble_eq_true rfl, Nat.le_of_ble_eq_true rfl⟩) rfl hl.1 rfl (by decide) dX0_findBest_5 ⟨Nat.le_of_ble_eq_true rfl, Nat.le_of_ble_eq_true rfl⟩ (fun _ H locs _ hP hD hS => ?_)
    have hP : va_P D vwCl (nmW cI h a1 a2 a3 a4 wf nf bf bs mc ff fr) H := hP
    have hD : va_D A (nmW cI h a1 a2 a3 a4 wf nf bf bs mc ff fr) := hD
    refine lv_aload_n hx hb dX0_findBest_8 rfl (lv_at hl 0 rfl) ?_
    refine lv_iload_n hx hb dX0_findBest_9 rfl (lv_at hl 1 rfl) ?_
    refine zz_callVv (As := [.int (nI v)]) (rest := []) F hK hP hD hS hA (c_survey l D tys cI hI h a1 a2 a3 a4 fr _ wf nf bf bs mc ff w n ok v hv) (cwV 1 hts gX0_findBest_X0_survey rfl rfl rfl (by decide +kernel) ⟨Nat.le_of_ble_eq_true rfl, Nat.le_of_ble_eq_true rfl⟩) 0 rfl rfl rfl hl.1 rfl (by decide) dX0_findBest_10 ⟨Nat.le_of_ble_eq_true rfl, Nat.le_of_ble_eq_true rfl⟩ (fun u H locs hu hP hD hS => ?_)
    obtain ⟨bf, bs, mc⟩ := u
    obtain ⟨cnt, b, bm, e1, e2, hbm, hc1, hc2, hc3, hE⟩ := hu
    dsimp only at e1 e2 hbm
    subst e1 e2
    have hP : va_P D vwCl (nmW cI h a1 a2 a3 a4 wf nf bf (nI b) (nI cnt) ff fr) H := hP
    have hD : va_D A (nmW cI h a1 a2 a3 a4 wf nf bf (nI b) (nI cnt) ff fr) := hD
    refine lv_aload_n hx hb dX0_findBest_13 rfl (lv_at hl 0 rfl) ?_
    refine va_get (D := D) (ci := 0) (v := .int (nI cnt)) (C := RX0) (T := TX0) (N := 6) hx hb hts (inX0_findBest) hown hK hP 0 rfl rfl 4 (by decide) (hts (.fieldLink RX0 23 "NoteMix" "mixCount" "I") (by decide +kernel)) (fun _ h9 => h9) rfl dX0_findBest_14 ?_
    refine zn_if_ne hx hb (by omega) dX0_findBest_17 rfl (fun hq => ?_) (fun hq => ?_)
    · rcases hE with ⟨h9, _⟩ | ⟨_, _, e3, hB⟩
      · omega
      · refine vx_ret ?_
        exact zz_vret F hr hlocks hK hS dX0_findBest_28 (by decide) (by decide) (bf, nI b, nI cnt) ⟨v, hv, rfl, bm, hB, by show nI b = _; rw [e3], hbm hq⟩ hP hD
    · rcases hE with ⟨_, h9⟩ | ⟨h8, _⟩
      · exact zx_throw (names := ["java/lang/RuntimeException", "java/lang/Exception"]) F hl0 htab hlocks hK hS hst (by decide +kernel) (by decide +kernel) (hts (.classLink RX0 52 "java/util/NoSuchElementException") (by decide +kernel)) (hts (.initialized "java/util/NoSuchElementException") (by decide +kernel)) (vx_hat (B := [.castable "java/util/NoSuchElementException" "java/util/NoSuchElementException", .declares ⟨"java/lang/RuntimeException", "<init>", "()V"⟩, .declares ⟨"java/lang/Exception", "<init>", "()V"⟩, .declares ⟨"java/lang/Throwable", "<init>", "()V"⟩]) (fun w h9 => hts w (List.mem_cons_of_mem _ (List.mem_append_left _ (List.mem_append_right _ h9)))) (by decide +kernel) (vx_c (va_Nw.use rfl hst.2.2.2.1) (vx_c (va_Nw.use rfl hst.2.2.2.2.1) (vx_c (va_Nw.use rfl hst.2.2.2.2.2.1) (vx_c (va_Nw.use rfl hst.2.2.2.2.2.2) vx_n))))) (by decide +kernel) hl.1 dX0_findBest_20 dX0_findBest_23 dX0_findBest_24 dX0_findBest_27 (Nat.le_of_ble_eq_true rfl) (Nat.le_of_ble_eq_true rfl) (Nat.le_of_ble_eq_true rfl) (Nat.le_of_ble_eq_true rfl) (by decide) (by decide) (bf, nI b, nI cnt) (Or.inr ⟨rfl, v, hv, rfl, h9⟩) hP hD
      · omega
  · refine lv_iload_n hx hb dX0_findBest_0 rfl (lv_at hl 1 rfl) ?_
    refine lv_iconst (v := nI 0) hx hb dX0_findBest_1 (by decide +kernel) ?_
    refine lv_sipush (v := nI 2000) hx hb dX0_findBest_2 (by decide +kernel) ?_
    refine zx_callSv (As := [.int x, .int (nI 0), .int (nI 2000)]) (rest := []) F hK hP hD hS hA hst (c_rr_bad l hl0 D tys _ _ x 0 2000 hz (by decide) (by decide)) (va_cwS 3 hts gX0_findBest_X0_requireRange rfl rfl rfl (by decide +kernel) ⟨Nat.le_of_ble_eq_true rfl, Nat.le_of_ble_eq_true rfl⟩) rfl hl.1 rfl (by decide) dX0_findBest_5 ⟨Nat.le_of_ble_eq_true rfl, Nat.le_of_ble_eq_true rfl⟩ (fun E ce q9 _ H locs hE hP hD hS g1 g2 g3 => ?_) (fun _ _ _ h9 => h9.elim)
    exact zx_out htab hlocks hK hS g1 g2 g3 (by decide) (by decide) (bf, bs, mc) (Or.inl ⟨hE, hz⟩) hP hD
