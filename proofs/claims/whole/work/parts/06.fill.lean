theorem zz_setat {α : Type} {wl : List α} {q0 : Nat} {x y : α} (he : wl[q0]? = some x) : (wl.set q0 y)[q0]? = some y := by
  have h := (List.getElem?_eq_some_iff.mp he).1
  rw [List.getElem?_set, if_pos rfl, if_pos h]
set_option maxRecDepth 100000 in
set_option maxHeartbeats 4000000 in
/-- java.util.Arrays.fill(int[], int), on an array of any world -/
theorem c_fill (l : Launch) (D : va_G) (tys : List (ClassId × FieldType)) (cI : ClassId) (hI : tys[0]? = some (cI, .int)) (wl : va_W) (q0 a n : Nat) (f : Nat → Int32) (sz : Nat) (he : wl[q0]? = some (a, .inl (cI, n, .inl f))) (hn : n < 2 ^ 31) (x : Int32) : Met l yJ7_fill_53178 wsJ7_fill_53178 ({ frames := 0, cells := 0, slots := 0, locals := 0 }) (va_Pc [.ref a, .int x] (zz_pre D tys wl sz)) (va_Qv (fun (u : Nat → Int32) => ∀ j, j < n → u j = x) (zz_B D tys (va_A wl sz) (fun u => wl.set q0 (a, .inl (cI, n, .inl u)))) (va_A wl sz)) 0 0 (va_A wl sz) := by
  refine zz_headV (cc := cJ7_fill_53178) (by decide) rfl (Nat.le_of_ble_eq_true rfl) ?_
  intro p e s m below meth cd A ls F hr hlocks hin hP hK hD hA hS hl
  obtain ⟨hx, hb, hml, hown, hts⟩ := id F
  have hl : lv_has ls 4 [(0, .ref a), (1, .int x)] := hl
  refine lv_iconst (v := nI 0) hx hb dJ7_fill_53178_0 (by decide +kernel) ?_
  refine lv_istore_n (lv' := [(2, .int (nI 0)), (0, .ref a), (1, .int x)]) hx hb dJ7_fill_53178_1 rfl hl (by decide) rfl (fun ls hl => ?_)
  refine lv_aload_n hx hb dJ7_fill_53178_2 rfl (lv_at hl 1 rfl) ?_
  refine va_alen (v := nI n) hx hb hK hP q0 _ he hI rfl dJ7_fill_53178_3 ?_
  refine lv_istore_n (lv' := [(3, .int (nI n)), (2, .int (nI 0)), (0, .ref a), (1, .int x)]) hx hb dJ7_fill_53178_4 rfl hl (by decide) rfl (fun ls hl => ?_)
  have hl : lv_has ls 4 [(2, .int (nI 0)), (3, .int (nI n)), (0, .ref a), (1, .int x)] := lv_sub hl [1, 0, 2, 3] rfl
  refine zz_loop (fun ls H locs (u : Nat × (Nat → Int32)) => lv_has ls 4 [(2, .int (nI u.1)), (3, .int (nI n)), (0, .ref a), (1, .int x)] ∧ va_P D vwCl (wl.set q0 (a, .inl (cI, n, .inl u.2))) H ∧ va_D A (wl.set q0 (a, .inl (cI, n, .inl u.2))) ∧ va_S A s.heap H locs ∧ u.1 ≤ n ∧ ∀ j, j < u.1 → u.2 j = x) (fun u => n - u.1) ?_ (0, f) ⟨hl, by show va_P D vwCl (wl.set q0 (a, .inl (cI, n, .inl f))) s.heap; rw [zz_setself he]; exact hP, by show va_D A (wl.set q0 (a, .inl (cI, n, .inl f))); rw [zz_setself he]; exact hD, hS, Nat.zero_le _, fun j hj => absurd hj (Nat.not_lt_zero _)⟩
  rintro ls H locs ⟨i, g⟩ ⟨hl, hP, hD, hS, hi, hg⟩ kk
  dsimp only at hl hP hD hi hg kk
  refine lv_iload_n hx hb dJ7_fill_53178_5 rfl (lv_at hl 0 rfl) ?_
  refine lv_iload_n hx hb dJ7_fill_53178_6 rfl (lv_at hl 1 rfl) ?_
  refine zn_ge hx hb (by omega) hn dJ7_fill_53178_7 rfl (fun hc => ?_) (fun hc => ?_)
  · exact zz_vret F hr hlocks hK hS dJ7_fill_53178_20 (by decide) (by decide) g (fun j hj => hg j (by omega)) hP hD
  · refine lv_aload_n hx hb dJ7_fill_53178_10 rfl (lv_at hl 2 rfl) ?_
    refine lv_iload_n hx hb dJ7_fill_53178_11 rfl (lv_at hl 0 rfl) ?_
    refine lv_iload_n hx hb dJ7_fill_53178_12 rfl (lv_at hl 3 rfl) ?_
    refine zn_iast (k := i) hx hb hK hP hD hS q0 _ (zz_setat he) hI hc hn dJ7_fill_53178_13 (fun H locs g1 g1e g1n hP hD hS => ?_)
    rw [List.set_set] at hP hD
    refine lv_iinc (k := 0) (lv' := [(2, .int (nI (i + 1))), (3, .int (nI n)), (0, .ref a), (1, .int x)]) hx hb dJ7_fill_53178_14 hl rfl (zz_i1 _) (by decide) rfl (fun ls hl => ?_)
    refine lv_goto hx hb dJ7_fill_53178_17 rfl ?_
    refine kk _ _ _ (i + 1, g1) ⟨hl, hP, hD, hS, by show i + 1 ≤ n; omega, fun j hj => ?_⟩ (by show n - (i + 1) < n - i; omega)
    by_cases e9 : j = i
    · subst e9
      exact g1e
    · show g1 j = x
      rw [g1n j e9]
      exact hg j (by have h9 : j < i + 1 := hj; omega)
