set_option maxRecDepth 100000 in
set_option maxHeartbeats 4000000 in
theorem c1_in_ok (l : Launch) (D : va_G) (tys : List (ClassId × FieldType)) (wl : va_W) (sz : Nat) (k lo hi : Nat) (h1 : lo ≤ k) (h2 : k ≤ hi) (h3 : hi < 2 ^ 31) : Met l yX1_in_ wsX1_in_ ({ frames := 0, cells := 0, slots := 0, locals := 0 }) (va_Pc [.int (nI k), .int (nI lo), .int (nI hi)] (zz_pre D tys wl sz)) (va_Qi (fun r (_ : Unit) => r = nI 1) (zz_B D tys (va_A wl sz) (fun _ => wl)) (va_A wl sz)) 0 0 (va_A wl sz) := by
  refine zz_headZ (cc := cX1_in_) (by decide) rfl (Nat.le_of_ble_eq_true rfl) ?_
  intro p e s m below meth cd A ls F hr hlocks hP hK hD hA hS hl
  obtain ⟨hx, hb, hml, hown, hts⟩ := id F
  have hl : lv_has ls 3 [(0, .int (nI k)), (1, .int (nI lo)), (2, .int (nI hi))] := hl
  refine lv_iload_n hx hb dX1_in__0 rfl (lv_at hl 0 rfl) ?_
  refine lv_iload_n hx hb dX1_in__1 rfl (lv_at hl 1 rfl) ?_
  refine zn_lt hx hb (by omega) (by omega) dX1_in__2 rfl (fun hc => absurd hc (by omega)) (fun _ => ?_)
  refine lv_iload_n hx hb dX1_in__5 rfl (lv_at hl 0 rfl) ?_
  refine lv_iload_n hx hb dX1_in__6 rfl (lv_at hl 2 rfl) ?_
  refine zn_gt hx hb (by omega) (by omega) dX1_in__7 rfl (fun hc => absurd hc (by omega)) (fun _ => ?_)
  refine lv_iconst (v := nI 1) hx hb dX1_in__10 (by decide +kernel) ?_
  refine lv_goto hx hb dX1_in__11 rfl ?_
  exact zz_zret F hr hlocks (by decide +kernel) hK hS dX1_in__15 (by decide) (by decide) () rfl hP hD
set_option maxRecDepth 100000 in
set_option maxHeartbeats 4000000 in
theorem c1_in_bad (l : Launch) (D : va_G) (tys : List (ClassId × FieldType)) (wl : va_W) (sz : Nat) (x : Int32) (lo hi : Nat) (hz : ¬ zr x lo hi) (h3 : hi < 2 ^ 31) (h4 : lo < 2 ^ 31) : Met l yX1_in_ wsX1_in_ ({ frames := 0, cells := 0, slots := 0, locals := 0 }) (va_Pc [.int x, .int (nI lo), .int (nI hi)] (zz_pre D tys wl sz)) (va_Qi (fun r (_ : Unit) => r = nI 0) (zz_B D tys (va_A wl sz) (fun _ => wl)) (va_A wl sz)) 0 0 (va_A wl sz) := by
  refine zz_headZ (cc := cX1_in_) (by decide) rfl (Nat.le_of_ble_eq_true rfl) ?_
  intro p e s m below meth cd A ls F hr hlocks hP hK hD hA hS hl
  obtain ⟨hx, hb, hml, hown, hts⟩ := id F
  have hl : lv_has ls 3 [(0, .int x), (1, .int (nI lo)), (2, .int (nI hi))] := hl
  refine lv_iload_n hx hb dX1_in__0 rfl (lv_at hl 0 rfl) ?_
  refine lv_iload_n hx hb dX1_in__1 rfl (lv_at hl 1 rfl) ?_
  refine lv_icmp_lt hx hb dX1_in__2 rfl (fun hc => ?_) (fun hc => ?_)
  · refine lv_iconst (v := nI 0) hx hb dX1_in__14 (by decide +kernel) ?_
    exact zz_zret F hr hlocks (by decide +kernel) hK hS dX1_in__15 (by decide) (by decide) () rfl hP hD
  · refine lv_iload_n hx hb dX1_in__5 rfl (lv_at hl 0 rfl) ?_
    refine lv_iload_n hx hb dX1_in__6 rfl (lv_at hl 2 rfl) ?_
    refine lv_icmp_gt hx hb dX1_in__7 rfl (fun hc2 => ?_) (fun hc2 => ?_)
    · refine lv_iconst (v := nI 0) hx hb dX1_in__14 (by decide +kernel) ?_
      exact zz_zret F hr hlocks (by decide +kernel) hK hS dX1_in__15 (by decide) (by decide) () rfl hP hD
    · exact absurd (zr_of h3 h4 hc (Int32.not_lt.mp hc2)) hz
