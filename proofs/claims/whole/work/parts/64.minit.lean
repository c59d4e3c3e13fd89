def wsX1_ini : List Cond := wsX1_init ++ [.arrayClass .boolean]
set_option maxRecDepth 100000 in
set_option maxHeartbeats 4000000 in
theorem inX1_init : ∀ w ∈ u_ws RX1 TX1 7, w ∈ wsX1_ini := by decide +kernel
set_option maxRecDepth 100000 in
set_option maxHeartbeats 4000000 in
theorem c1_init (l : Launch) (D : va_G) (tys : List (ClassId × FieldType)) (cI cZ : ClassId) (hI : tys[0]? = some (cI, .int)) (hZ : tys[1]? = some (cZ, .boolean)) (g sz : Nat) : Met l yX1_init wsX1_ini ({ frames := 1, cells := 4, slots := 2013, locals := 20 }) (va_Pc [.ref g] (zz_pre D tys [(g, .inr (1, [.null, .null, .null, .null, .int 0, .int 0, .int 0]))] sz)) (va_Qv (fun (u : Nat × Nat × Nat × Nat × (Nat → Int32) × (Nat → Int32)) => nmOk u.2.2.2.2.1 u.2.2.2.2.2 nm_w0 nm_n0) (zz_B D tys (va_A [(g, .inr (1, [.null, .null, .null, .null, .int 0, .int 0, .int 0]))] sz) (fun u => mdW cI cZ g u.1 u.2.1 u.2.2.1 u.2.2.2.1 u.2.2.2.2.1 u.2.2.2.2.2 (fun _ => 0) (fun _ => 0) 0 0 0 [])) (va_A [(g, .inr (1, [.null, .null, .null, .null, .int 0, .int 0, .int 0]))] sz)) 4 2013 (va_A [(g, .inr (1, [.null, .null, .null, .null, .int 0, .int 0, .int 0]))] sz) := by
  refine zz_headV (cc := cX1_init) (by decide) rfl (Nat.le_of_ble_eq_true rfl) ?_
  intro p e s m below meth cd A ls F hr hlocks hin hP hK hD hA hS hl
  obtain ⟨hx, hb, hml, hown, hts⟩ := id F
  have hl : lv_has ls 1 [(0, .ref g)] := hl
  have hin : meth.name = "<init>" := hin
  refine lv_aload_n hx hb dX1_init_0 rfl (lv_at hl 0 rfl) ?_
  refine W.objInit hx hb hown (hts (.methodLink RX1 1 objectInit) (by decide +kernel)) (hts (.instanceMethod objectInit) (by decide +kernel)) (hts (.code objectInit ⟨#[0xb1]⟩ 1 none) (by decide +kernel)) rfl (by rw [hml]; exact hl.1) rfl dX1_init_1 (Nat.le_of_ble_eq_true rfl) (Nat.le_of_ble_eq_true rfl) ?_
  refine W.eq (g2 := F0 m 4 ls []) rfl ?_
  refine lv_aload_n hx hb dX1_init_4 rfl (lv_at hl 0 rfl) ?_
  refine lv_iconst (v := nI 4) hx hb dX1_init_5 (by decide +kernel) ?_
  have hK0 := hK
  refine va_newa (atype := .int) (ty := .int) (N' := 4) (a0 := (4, .inl (fun _ => 0))) hx hb (hts (.arrayClass .int) (by decide +kernel)) rfl hK hP hD hS hA (fun cA => zz_cellI 4 cA) (by decide +kernel) (by decide +kernel) (by decide +kernel) (Nat.le_of_ble_eq_true rfl) (Nat.le_of_ble_eq_true rfl) dX1_init_6 (fun g1 cA H hK hP hD hS => ?_)
  have hcA := zz_arrI hK0 hI hK
  rw [hcA] at hP hD
  have hK := hK0
  have hP : va_P D vwCl ((g, .inr (1, [.null, .null, .null, .null, .int 0, .int 0, .int 0])) :: (g1, .inl (cI, 4, .inl (fun _ => 0))) :: []) H := hP
  have hD : va_D A ((g, .inr (1, [.null, .null, .null, .null, .int 0, .int 0, .int 0])) :: (g1, .inl (cI, 4, .inl (fun _ => 0))) :: []) := hD
  refine lv_dup hx hb dX1_init_8 rfl ?_
  refine lv_iconst (v := nI 0) hx hb dX1_init_9 (by decide +kernel) ?_
  refine lv_iconst (v := nI 5) hx hb dX1_init_10 (by decide +kernel) ?_
  refine zn_iast (k := 0) hx hb hK hP hD hS 1 _ rfl hI (by decide) (by decide) dX1_init_11 (fun H locs wf1 wf1e wf1n hP hD hS => ?_)
  have hP : va_P D vwCl ((g, .inr (1, [.null, .null, .null, .null, .int 0, .int 0, .int 0])) :: (g1, .inl (cI, 4, .inl wf1)) :: []) H := hP
  have hD : va_D A ((g, .inr (1, [.null, .null, .null, .null, .int 0, .int 0, .int 0])) :: (g1, .inl (cI, 4, .inl wf1)) :: []) := hD
  refine lv_dup hx hb dX1_init_12 rfl ?_
  refine lv_iconst (v := nI 1) hx hb dX1_init_13 (by decide +kernel) ?_
  refine lv_bipush (v := nI 10) hx hb dX1_init_14 (by decide +kernel) ?_
  refine zn_iast (k := 1) hx hb hK hP hD hS 1 _ rfl hI (by decide) (by decide) dX1_init_16 (fun H locs wf2 wf2e wf2n hP hD hS => ?_)
  have hP : va_P D vwCl ((g, .inr (1, [.null, .null, .null, .null, .int 0, .int 0, .int 0])) :: (g1, .inl (cI, 4, .inl wf2)) :: []) H := hP
  have hD : va_D A ((g, .inr (1, [.null, .null, .null, .null, .int 0, .int 0, .int 0])) :: (g1, .inl (cI, 4, .inl wf2)) :: []) := hD
  refine lv_dup hx hb dX1_init_17 rfl ?_
  refine lv_iconst (v := nI 2) hx hb dX1_init_18 (by decide +kernel) ?_
  refine lv_bipush (v := nI 20) hx hb dX1_init_19 (by decide +kernel) ?_
  refine zn_iast (k := 2) hx hb hK hP hD hS 1 _ rfl hI (by decide) (by decide) dX1_init_21 (fun H locs wf3 wf3e wf3n hP hD hS => ?_)
  have hP : va_P D vwCl ((g, .inr (1, [.null, .null, .null, .null, .int 0, .int 0, .int 0])) :: (g1, .inl (cI, 4, .inl wf3)) :: []) H := hP
  have hD : va_D A ((g, .inr (1, [.null, .null, .null, .null, .int 0, .int 0, .int 0])) :: (g1, .inl (cI, 4, .inl wf3)) :: []) := hD
  refine lv_dup hx hb dX1_init_22 rfl ?_
  refine lv_iconst (v := nI 3) hx hb dX1_init_23 (by decide +kernel) ?_
  refine lv_bipush (v := nI 50) hx hb dX1_init_24 (by decide +kernel) ?_
  refine zn_iast (k := 3) hx hb hK hP hD hS 1 _ rfl hI (by decide) (by decide) dX1_init_26 (fun H locs wf4 wf4e wf4n hP hD hS => ?_)
  have hP : va_P D vwCl ((g, .inr (1, [.null, .null, .null, .null, .int 0, .int 0, .int 0])) :: (g1, .inl (cI, 4, .inl wf4)) :: []) H := hP
  have hD : va_D A ((g, .inr (1, [.null, .null, .null, .null, .int 0, .int 0, .int 0])) :: (g1, .inl (cI, 4, .inl wf4)) :: []) := hD
  refine va_putF (D := D) (ci := 1) (v := .ref g1) (ty := .array .int) (C := RX1) (T := TX1) (N := 7) hx hb hts (inX1_init) tyX1 tyX1_ok nmX1 hown hK hP hD hS 0 rfl rfl 0 (by decide) (hts (.fieldLink RX1 7 "NoteMixModel" "worth" "[I") (by decide +kernel)) (fun _ h9 => h9) rfl hin rfl (by decide +kernel) rfl rfl (Nat.le_of_ble_eq_true rfl) dX1_init_27 (fun H locs hP hD hS => ?_)
  have hP : va_P D vwCl ((g, .inr (1, [.ref g1, .null, .null, .null, .int 0, .int 0, .int 0])) :: (g1, .inl (cI, 4, .inl wf4)) :: []) H := hP
  have hD : va_D A ((g, .inr (1, [.ref g1, .null, .null, .null, .int 0, .int 0, .int 0])) :: (g1, .inl (cI, 4, .inl wf4)) :: []) := hD
  refine lv_aload_n hx hb dX1_init_30 rfl (lv_at hl 0 rfl) ?_
  refine lv_iconst (v := nI 4) hx hb dX1_init_31 (by decide +kernel) ?_
  have hK0 := hK
  refine va_newa (atype := .int) (ty := .int) (N' := 4) (a0 := (4, .inl (fun _ => 0))) hx hb (hts (.arrayClass .int) (by decide +kernel)) rfl hK hP hD hS hA (fun cA => zz_cellI 4 cA) (by decide +kernel) (by decide +kernel) (by decide +kernel) (Nat.le_of_ble_eq_true rfl) (Nat.le_of_ble_eq_true rfl) dX1_init_32 (fun g2 cA H hK hP hD hS => ?_)
  have hcA := zz_arrI hK0 hI hK
  rw [hcA] at hP hD
  have hK := hK0
  have hP : va_P D vwCl ((g, .inr (1, [.ref g1, .null, .null, .null, .int 0, .int 0, .int 0])) :: (g1, .inl (cI, 4, .inl wf4)) :: (g2, .inl (cI, 4, .inl (fun _ => 0))) :: []) H := hP
  have hD : va_D A ((g, .inr (1, [.ref g1, .null, .null, .null, .int 0, .int 0, .int 0])) :: (g1, .inl (cI, 4, .inl wf4)) :: (g2, .inl (cI, 4, .inl (fun _ => 0))) :: []) := hD
  refine lv_dup hx hb dX1_init_34 rfl ?_
  refine lv_iconst (v := nI 0) hx hb dX1_init_35 (by decide +kernel) ?_
  refine lv_bipush (v := nI 30) hx hb dX1_init_36 (by decide +kernel) ?_
  refine zn_iast (k := 0) hx hb hK hP hD hS 2 _ rfl hI (by decide) (by decide) dX1_init_38 (fun H locs nf1 nf1e nf1n hP hD hS => ?_)
  have hP : va_P D vwCl ((g, .inr (1, [.ref g1, .null, .null, .null, .int 0, .int 0, .int 0])) :: (g1, .inl (cI, 4, .inl wf4)) :: (g2, .inl (cI, 4, .inl nf1)) :: []) H := hP
  have hD : va_D A ((g, .inr (1, [.ref g1, .null, .null, .null, .int 0, .int 0, .int 0])) :: (g1, .inl (cI, 4, .inl wf4)) :: (g2, .inl (cI, 4, .inl nf1)) :: []) := hD
  refine lv_dup hx hb dX1_init_39 rfl ?_
  refine lv_iconst (v := nI 1) hx hb dX1_init_40 (by decide +kernel) ?_
  refine lv_bipush (v := nI 30) hx hb dX1_init_41 (by decide +kernel) ?_
  refine zn_iast (k := 1) hx hb hK hP hD hS 2 _ rfl hI (by decide) (by decide) dX1_init_43 (fun H locs nf2 nf2e nf2n hP hD hS => ?_)
  have hP : va_P D vwCl ((g, .inr (1, [.ref g1, .null, .null, .null, .int 0, .int 0, .int 0])) :: (g1, .inl (cI, 4, .inl wf4)) :: (g2, .inl (cI, 4, .inl nf2)) :: []) H := hP
  have hD : va_D A ((g, .inr (1, [.ref g1, .null, .null, .null, .int 0, .int 0, .int 0])) :: (g1, .inl (cI, 4, .inl wf4)) :: (g2, .inl (cI, 4, .inl nf2)) :: []) := hD
  refine lv_dup hx hb dX1_init_44 rfl ?_
  refine lv_iconst (v := nI 2) hx hb dX1_init_45 (by decide +kernel) ?_
  refine lv_bipush (v := nI 30) hx hb dX1_init_46 (by decide +kernel) ?_
  refine zn_iast (k := 2) hx hb hK hP hD hS 2 _ rfl hI (by decide) (by decide) dX1_init_48 (fun H locs nf3 nf3e nf3n hP hD hS => ?_)
  have hP : va_P D vwCl ((g, .inr (1, [.ref g1, .null, .null, .null, .int 0, .int 0, .int 0])) :: (g1, .inl (cI, 4, .inl wf4)) :: (g2, .inl (cI, 4, .inl nf3)) :: []) H := hP
  have hD : va_D A ((g, .inr (1, [.ref g1, .null, .null, .null, .int 0, .int 0, .int 0])) :: (g1, .inl (cI, 4, .inl wf4)) :: (g2, .inl (cI, 4, .inl nf3)) :: []) := hD
  refine lv_dup hx hb dX1_init_49 rfl ?_
  refine lv_iconst (v := nI 3) hx hb dX1_init_50 (by decide +kernel) ?_
  refine lv_bipush (v := nI 30) hx hb dX1_init_51 (by decide +kernel) ?_
  refine zn_iast (k := 3) hx hb hK hP hD hS 2 _ rfl hI (by decide) (by decide) dX1_init_53 (fun H locs nf4 nf4e nf4n hP hD hS => ?_)
  have hP : va_P D vwCl ((g, .inr (1, [.ref g1, .null, .null, .null, .int 0, .int 0, .int 0])) :: (g1, .inl (cI, 4, .inl wf4)) :: (g2, .inl (cI, 4, .inl nf4)) :: []) H := hP
  have hD : va_D A ((g, .inr (1, [.ref g1, .null, .null, .null, .int 0, .int 0, .int 0])) :: (g1, .inl (cI, 4, .inl wf4)) :: (g2, .inl (cI, 4, .inl nf4)) :: []) := hD
  refine va_putF (D := D) (ci := 1) (v := .ref g2) (ty := .array .int) (C := RX1) (T := TX1) (N := 7) hx hb hts (inX1_init) tyX1 tyX1_ok nmX1 hown hK hP hD hS 0 rfl rfl 1 (by decide) (hts (.fieldLink RX1 13 "NoteMixModel" "notes" "[I") (by decide +kernel)) (fun _ h9 => h9) rfl hin rfl (by decide +kernel) rfl rfl (Nat.le_of_ble_eq_true rfl) dX1_init_54 (fun H locs hP hD hS => ?_)
  have hP : va_P D vwCl ((g, .inr (1, [.ref g1, .ref g2, .null, .null, .int 0, .int 0, .int 0])) :: (g1, .inl (cI, 4, .inl wf4)) :: (g2, .inl (cI, 4, .inl nf4)) :: []) H := hP
  have hD : va_D A ((g, .inr (1, [.ref g1, .ref g2, .null, .null, .int 0, .int 0, .int 0])) :: (g1, .inl (cI, 4, .inl wf4)) :: (g2, .inl (cI, 4, .inl nf4)) :: []) := hD
  refine lv_aload_n hx hb dX1_init_57 rfl (lv_at hl 0 rfl) ?_
  refine lv_iconst (v := nI 4) hx hb dX1_init_58 (by decide +kernel) ?_
  have hK0 := hK
  refine va_newa (atype := .int) (ty := .int) (N' := 4) (a0 := (4, .inl (fun _ => 0))) hx hb (hts (.arrayClass .int) (by decide +kernel)) rfl hK hP hD hS hA (fun cA => zz_cellI 4 cA) (by decide +kernel) (by decide +kernel) (by decide +kernel) (Nat.le_of_ble_eq_true rfl) (Nat.le_of_ble_eq_true rfl) dX1_init_59 (fun g3 cA H hK hP hD hS => ?_)
  have hcA := zz_arrI hK0 hI hK
  rw [hcA] at hP hD
  have hK := hK0
  have hP : va_P D vwCl ((g, .inr (1, [.ref g1, .ref g2, .null, .null, .int 0, .int 0, .int 0])) :: (g1, .inl (cI, 4, .inl wf4)) :: (g2, .inl (cI, 4, .inl nf4)) :: (g3, .inl (cI, 4, .inl (fun _ => 0))) :: []) H := hP
  have hD : va_D A ((g, .inr (1, [.ref g1, .ref g2, .null, .null, .int 0, .int 0, .int 0])) :: (g1, .inl (cI, 4, .inl wf4)) :: (g2, .inl (cI, 4, .inl nf4)) :: (g3, .inl (cI, 4, .inl (fun _ => 0))) :: []) := hD
  refine va_putF (D := D) (ci := 1) (v := .ref g3) (ty := .array .int) (C := RX1) (T := TX1) (N := 7) hx hb hts (inX1_init) tyX1 tyX1_ok nmX1 hown hK hP hD hS 0 rfl rfl 2 (by decide) (hts (.fieldLink RX1 16 "NoteMixModel" "chosen" "[I") (by decide +kernel)) (fun _ h9 => h9) rfl hin rfl (by decide +kernel) rfl rfl (Nat.le_of_ble_eq_true rfl) dX1_init_61 (fun H locs hP hD hS => ?_)
  have hP : va_P D vwCl ((g, .inr (1, [.ref g1, .ref g2, .ref g3, .null, .int 0, .int 0, .int 0])) :: (g1, .inl (cI, 4, .inl wf4)) :: (g2, .inl (cI, 4, .inl nf4)) :: (g3, .inl (cI, 4, .inl (fun _ => 0))) :: []) H := hP
  have hD : va_D A ((g, .inr (1, [.ref g1, .ref g2, .ref g3, .null, .int 0, .int 0, .int 0])) :: (g1, .inl (cI, 4, .inl wf4)) :: (g2, .inl (cI, 4, .inl nf4)) :: (g3, .inl (cI, 4, .inl (fun _ => 0))) :: []) := hD
  refine lv_aload_n hx hb dX1_init_64 rfl (lv_at hl 0 rfl) ?_
  refine lv_sipush (v := nI 2001) hx hb dX1_init_65 (by decide +kernel) ?_
  have hK0 := hK
  refine va_newa (atype := .boolean) (ty := .boolean) (N' := 2001) (a0 := (2001, .inl (fun _ => 0))) hx hb (hts (.arrayClass .boolean) (by decide +kernel)) rfl hK hP hD hS hA (fun cA => zz_cellZ 2001 cA) (by decide +kernel) (by decide +kernel) (by decide +kernel) (Nat.le_of_ble_eq_true rfl) (Nat.le_of_ble_eq_true rfl) dX1_init_68 (fun g4 cA H hK hP hD hS => ?_)
  have hcA := zz_arrZ hK0 hZ hK
  rw [hcA] at hP hD
  have hK := hK0
  have hP : va_P D vwCl ((g, .inr (1, [.ref g1, .ref g2, .ref g3, .null, .int 0, .int 0, .int 0])) :: (g1, .inl (cI, 4, .inl wf4)) :: (g2, .inl (cI, 4, .inl nf4)) :: (g3, .inl (cI, 4, .inl (fun _ => 0))) :: (g4, .inl (cZ, 2001, .inl (fun _ => 0))) :: []) H := hP
  have hD : va_D A ((g, .inr (1, [.ref g1, .ref g2, .ref g3, .null, .int 0, .int 0, .int 0])) :: (g1, .inl (cI, 4, .inl wf4)) :: (g2, .inl (cI, 4, .inl nf4)) :: (g3, .inl (cI, 4, .inl (fun _ => 0))) :: (g4, .inl (cZ, 2001, .inl (fun _ => 0))) :: []) := hD
  refine va_putF (D := D) (ci := 1) (v := .ref g4) (ty := .array .boolean) (C := RX1) (T := TX1) (N := 7) hx hb hts (inX1_init) tyX1 tyX1_ok nmX1 hown hK hP hD hS 0 rfl rfl 3 (by decide) (hts (.fieldLink RX1 19 "NoteMixModel" "can" "[Z") (by decide +kernel)) (fun _ h9 => h9) rfl hin rfl (by decide +kernel) rfl rfl (Nat.le_of_ble_eq_true rfl) dX1_init_70 (fun H locs hP hD hS => ?_)
  have hP : va_P D vwCl ((g, .inr (1, [.ref g1, .ref g2, .ref g3, .ref g4, .int 0, .int 0, .int 0])) :: (g1, .inl (cI, 4, .inl wf4)) :: (g2, .inl (cI, 4, .inl nf4)) :: (g3, .inl (cI, 4, .inl (fun _ => 0))) :: (g4, .inl (cZ, 2001, .inl (fun _ => 0))) :: []) H := hP
  have hD : va_D A ((g, .inr (1, [.ref g1, .ref g2, .ref g3, .ref g4, .int 0, .int 0, .int 0])) :: (g1, .inl (cI, 4, .inl wf4)) :: (g2, .inl (cI, 4, .inl nf4)) :: (g3, .inl (cI, 4, .inl (fun _ => 0))) :: (g4, .inl (cZ, 2001, .inl (fun _ => 0))) :: []) := hD
  refine zz_vret F hr hlocks hK hS dX1_init_73 (Nat.le_of_ble_eq_true rfl) (Nat.le_of_ble_eq_true rfl) (g1, g2, g3, g4, wf4, nf4) ⟨fun j hj => ?_, fun j hj => ?_, fun j hj => ?_⟩ hP hD
  · rcases (show j = 0 ∨ j = 1 ∨ j = 2 ∨ j = 3 by omega) with rfl | rfl | rfl | rfl
    · exact ((by rw [wf4n 0 (by decide), wf3n 0 (by decide), wf2n 0 (by decide), wf1e]) : wf4 0 = nI 5)
    · exact ((by rw [wf4n 1 (by decide), wf3n 1 (by decide), wf2e]) : wf4 1 = nI 10)
    · exact ((by rw [wf4n 2 (by decide), wf3e]) : wf4 2 = nI 20)
    · exact ((by rw [wf4e]) : wf4 3 = nI 50)
  · rcases (show j = 0 ∨ j = 1 ∨ j = 2 ∨ j = 3 by omega) with rfl | rfl | rfl | rfl
    · exact ((by rw [nf4n 0 (by decide), nf3n 0 (by decide), nf2n 0 (by decide), nf1e]) : nf4 0 = nI 30)
    · exact ((by rw [nf4n 1 (by decide), nf3n 1 (by decide), nf2e]) : nf4 1 = nI 30)
    · exact ((by rw [nf4n 2 (by decide), nf3e]) : nf4 2 = nI 30)
    · exact ((by rw [nf4e]) : nf4 3 = nI 30)
  · rcases (show j = 0 ∨ j = 1 ∨ j = 2 ∨ j = 3 by omega) with rfl | rfl | rfl | rfl <;> exact ⟨by decide, by decide, by decide⟩
