set_option maxRecDepth 100000 in
set_option maxHeartbeats 4000000 in
theorem c_rr_ok (l : Launch) (D : va_G) (tys : List (ClassId × FieldType)) (wl : va_W) (sz : Nat) (k lo hi : Nat) (h1 : lo ≤ k) (h2 : k ≤ hi) (h3 : hi < 2 ^ 31) : Met l yX0_requireRange wsX0_requireRange ({ frames := 7, cells := 0, slots := 0, locals := 120 }) (va_Pc [.int (nI k), .int (nI lo), .int (nI hi)] (zz_pre D tys wl sz)) (va_Qv (fun (_ : Unit) => True) (zz_B D tys (va_A wl sz) (fun _ => wl)) (va_A wl sz)) 0 0 (va_A wl sz) := by
  refine zz_headV (cc := cX0_requireRange) (by decide) rfl (Nat.le_of_ble_eq_true rfl) ?_
  intro p e s m below meth cd A ls F hr hlocks hin hP hK hD hA hS hl
  obtain ⟨hx, hb, hml, hown, hts⟩ := id F
  have hl : lv_has ls 3 [(0, .int (nI k)), (1, .int (nI lo)), (2, .int (nI hi))] := hl
  refine lv_iload_n hx hb dX0_requireRange_0 rfl (lv_at hl 0 rfl) ?_
  refine lv_iload_n hx hb dX0_requireRange_1 rfl (lv_at hl 1 rfl) ?_
  refine zn_lt hx hb (by omega) (by omega) dX0_requireRange_2 rfl (fun hc => absurd hc (by omega)) (fun _ => ?_)
  refine lv_iload_n hx hb dX0_requireRange_5 rfl (lv_at hl 0 rfl) ?_
  refine lv_iload_n hx hb dX0_requireRange_6 rfl (lv_at hl 2 rfl) ?_
  refine zn_le hx hb (by omega) (by omega) dX0_requireRange_7 rfl (fun _ => ?_) (fun hc => absurd hc (by omega))
  exact zz_vret F hr hlocks hK hS dX0_requireRange_18 (by decide) (by decide) () trivial hP hD
set_option maxRecDepth 100000 in
set_option maxHeartbeats 4000000 in
theorem c_rr_bad (l : Launch) (hl0 : l.stackTraces = false) (D : va_G) (tys : List (ClassId × FieldType)) (wl : va_W) (sz : Nat) (x : Int32) (lo hi : Nat) (hz : ¬ zr x lo hi) (h3 : hi < 2 ^ 31) (h4 : lo < 2 ^ 31) : vx_Met l yX0_requireRange wsX0_requireRange ({ frames := 7, cells := 1, slots := 6, locals := 120 }) (va_Pc [.int x, .int (nI lo), .int (nI hi)] (zx_pre D tys wl sz)) (va_Qv (fun (_ : Unit) => False) (zz_B D tys (va_A wl sz) (fun _ => wl)) (va_A wl sz)) (zx_X (fun E (_ : Unit) => E = "java/lang/IllegalArgumentException") D tys (va_A wl sz) (fun _ => wl)) 1 6 (va_A wl sz) := by
  refine zx_headV (cc := cX0_requireRange) (by decide) rfl (Nat.le_of_ble_eq_true rfl) ?_
  intro p e s m below meth cd A ls F hr hlocks htab hP hK hD hA hS hst hl
  obtain ⟨hx, hb, hml, hown, hts⟩ := id F
  have hl : lv_has ls 3 [(0, .int x), (1, .int (nI lo)), (2, .int (nI hi))] := hl
  refine lv_iload_n hx hb dX0_requireRange_0 rfl (lv_at hl 0 rfl) ?_
  refine lv_iload_n hx hb dX0_requireRange_1 rfl (lv_at hl 1 rfl) ?_
  refine lv_icmp_lt hx hb dX0_requireRange_2 rfl (fun hc => ?_) (fun hc => ?_)
  · exact zx_throw (names := ["java/lang/RuntimeException", "java/lang/Exception"]) F hl0 htab hlocks hK hS hst (by decide +kernel) (by decide +kernel) (hts (.classLink RX0 49 "java/lang/IllegalArgumentException") (by decide +kernel)) (hts (.initialized "java/lang/IllegalArgumentException") (by decide +kernel)) (vx_hat (B := [.castable "java/lang/IllegalArgumentException" "java/lang/IllegalArgumentException", .declares ⟨"java/lang/RuntimeException", "<init>", "()V"⟩, .declares ⟨"java/lang/Exception", "<init>", "()V"⟩, .declares ⟨"java/lang/Throwable", "<init>", "()V"⟩]) (fun w h9 => hts w (List.mem_cons_of_mem _ (List.mem_append_right _ h9))) (by decide +kernel) (vx_c (va_Nw.use rfl hst.2.2.1) (vx_c (va_Nw.use rfl hst.2.2.2.2.1) (vx_c (va_Nw.use rfl hst.2.2.2.2.2.1) (vx_c (va_Nw.use rfl hst.2.2.2.2.2.2) vx_n))))) (by decide +kernel) hl.1 dX0_requireRange_10 dX0_requireRange_13 dX0_requireRange_14 dX0_requireRange_17 (Nat.le_of_ble_eq_true rfl) (Nat.le_of_ble_eq_true rfl) (Nat.le_of_ble_eq_true rfl) (Nat.le_of_ble_eq_true rfl) (by decide) (by decide) () rfl hP hD
  · refine lv_iload_n hx hb dX0_requireRange_5 rfl (lv_at hl 0 rfl) ?_
    refine lv_iload_n hx hb dX0_requireRange_6 rfl (lv_at hl 2 rfl) ?_
    refine lv_icmp_le hx hb dX0_requireRange_7 rfl (fun hc2 => ?_) (fun hc2 => ?_)
    · exact absurd (zr_of h3 h4 hc hc2) hz
    · exact zx_throw (names := ["java/lang/RuntimeException", "java/lang/Exception"]) F hl0 htab hlocks hK hS hst (by decide +kernel) (by decide +kernel) (hts (.classLink RX0 49 "java/lang/IllegalArgumentException") (by decide +kernel)) (hts (.initialized "java/lang/IllegalArgumentException") (by decide +kernel)) (vx_hat (B := [.castable "java/lang/IllegalArgumentException" "java/lang/IllegalArgumentException", .declares ⟨"java/lang/RuntimeException", "<init>", "()V"⟩, .declares ⟨"java/lang/Exception", "<init>", "()V"⟩, .declares ⟨"java/lang/Throwable", "<init>", "()V"⟩]) (fun w h9 => hts w (List.mem_cons_of_mem _ (List.mem_append_right _ h9))) (by decide +kernel) (vx_c (va_Nw.use rfl hst.2.2.1) (vx_c (va_Nw.use rfl hst.2.2.2.2.1) (vx_c (va_Nw.use rfl hst.2.2.2.2.2.1) (vx_c (va_Nw.use rfl hst.2.2.2.2.2.2) vx_n))))) (by decide +kernel) hl.1 dX0_requireRange_10 dX0_requireRange_13 dX0_requireRange_14 dX0_requireRange_17 (Nat.le_of_ble_eq_true rfl) (Nat.le_of_ble_eq_true rfl) (Nat.le_of_ble_eq_true rfl) (Nat.le_of_ble_eq_true rfl) (by decide) (by decide) () rfl hP hD
