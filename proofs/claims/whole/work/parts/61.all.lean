/-! what the reference's all() has marked -/
def md_P (w n : Nat → Nat) (K j : Nat) : Prop := ∃ a b c d, mx_M w n j a b c d ∧ mx_k b c d < K
def md_C (w n : Nat → Nat) (K : Nat) (kf : Nat → Int32) : Prop := ∀ j, j ≤ 2000 → (kf j = nI 1 ∧ md_P w n K j) ∨ (kf j = nI 0 ∧ ¬ md_P w n K j)
def md_X (w n : Nat → Nat) (b c d x : Nat) (kf : Nat → Int32) : Prop := ∀ j, j ≤ 2000 → (kf j = nI 1 ∧ (md_P w n (mx_k b c d) j ∨ ∃ y, y < x ∧ mx_M w n j y b c d)) ∨ (kf j = nI 0 ∧ ¬ (md_P w n (mx_k b c d) j ∨ ∃ y, y < x ∧ mx_M w n j y b c d))
theorem md_C0 {w n : Nat → Nat} {kf : Nat → Int32} (h : ∀ j, j ≤ 2000 → kf j = nI 0) : md_C w n 0 kf := fun j hj => Or.inr ⟨h j hj, fun ⟨_, _, _, _, _, h9⟩ => absurd h9 (Nat.not_lt_zero _)⟩
theorem md_Cskip {w n : Nat → Nat} {kf : Nat → Int32} {K K' : Nat} (h : md_C w n K kf) (hK : K ≤ K') (hs : ∀ v a b c d, mx_M w n v a b c d → ¬ (K ≤ mx_k b c d ∧ mx_k b c d < K')) : md_C w n K' kf := by
  intro j hj
  have e : md_P w n K' j ↔ md_P w n K j := ⟨fun ⟨a, b, c, d, hm, hk⟩ => ⟨a, b, c, d, hm, by have h9 := hs j a b c d hm; omega⟩, fun ⟨a, b, c, d, hm, hk⟩ => ⟨a, b, c, d, hm, by omega⟩⟩
  rw [e]
  exact h j hj
theorem md_X0 {w n : Nat → Nat} {kf : Nat → Int32} {b c d : Nat} (h : md_C w n (mx_k b c d) kf) : md_X w n b c d 0 kf := by
  intro j hj
  have e : (md_P w n (mx_k b c d) j ∨ ∃ y, y < 0 ∧ mx_M w n j y b c d) ↔ md_P w n (mx_k b c d) j := ⟨fun q => q.elim id (fun ⟨y, hy, _⟩ => absurd hy (Nat.not_lt_zero _)), Or.inl⟩
  rw [e]
  exact h j hj
theorem md_Xs {w n : Nat → Nat} {kf kf1 : Nat → Int32} {b c d x v : Nat} (h : md_X w n b c d x kf) (hm : mx_M w n v x b c d) (e1 : kf1 v = nI 1) (e2 : ∀ j, j ≠ v → kf1 j = kf j) : md_X w n b c d (x + 1) kf1 := by
  intro j hj
  by_cases hjv : j = v
  · subst hjv
    exact Or.inl ⟨e1, Or.inr ⟨x, Nat.lt_succ_self _, hm⟩⟩
  · rw [e2 j hjv]
    have e : (md_P w n (mx_k b c d) j ∨ ∃ y, y < x + 1 ∧ mx_M w n j y b c d) ↔ (md_P w n (mx_k b c d) j ∨ ∃ y, y < x ∧ mx_M w n j y b c d) := by
      constructor
      · rintro (q | ⟨y, hy, q⟩)
        · exact Or.inl q
        · by_cases hyx : y = x
          · subst hyx
            exact absurd (q.2.2.2.2.2.symm.trans hm.2.2.2.2.2) hjv
          · exact Or.inr ⟨y, by omega, q⟩
      · rintro (q | ⟨y, hy, q⟩)
        · exact Or.inl q
        · exact Or.inr ⟨y, by omega, q⟩
    rw [e]
    exact h j hj
theorem md_Xe {w n : Nat → Nat} {kf : Nat → Int32} {b c d x : Nat} (hb : b ≤ 40) (hc : c ≤ 40) (h : md_X w n b c d x kf) (hx : ∀ j y, j ≤ 2000 → mx_M w n j y b c d → y < x) : md_C w n (mx_k b c d + 1) kf := by
  intro j hj
  have e : md_P w n (mx_k b c d + 1) j ↔ (md_P w n (mx_k b c d) j ∨ ∃ y, y < x ∧ mx_M w n j y b c d) := by
    constructor
    · rintro ⟨a', b', c', d', hm, hk⟩
      by_cases q : mx_k b' c' d' < mx_k b c d
      · exact Or.inl ⟨a', b', c', d', hm, q⟩
      · obtain ⟨_, q2, q3, q4⟩ := mx_M40 hm
        have e : b' = b ∧ c' = c ∧ d' = d := by
          unfold mx_k at hk q
          omega
        obtain ⟨rfl, rfl, rfl⟩ := e
        exact Or.inr ⟨a', hx j a' hj hm, hm⟩
    · rintro (⟨a', b', c', d', hm, hk⟩ | ⟨y, hy, hm⟩)
      · exact ⟨a', b', c', d', hm, by omega⟩
      · exact ⟨y, b, c, d, hm, by omega⟩
  rw [e]
  exact h j hj
theorem md_Cend {w n : Nat → Nat} {kf : Nat → Int32} (h : md_C w n 68921 kf) : ∀ j, j ≤ 2000 → (kf j = nI 1 ∧ mx_has w n j) ∨ (kf j = nI 0 ∧ ¬ mx_has w n j) := by
  intro j hj
  have e : md_P w n 68921 j ↔ mx_has w n j := ⟨fun ⟨a, b, c, d, hm, _⟩ => ⟨a, b, c, d, hm⟩, fun ⟨a, b, c, d, hm⟩ => ⟨a, b, c, d, hm, mx_klt hm⟩⟩
  rw [← e]
  exact h j hj
set_option maxRecDepth 100000 in
set_option maxHeartbeats 4000000 in
theorem c1_all (l : Launch) (D : va_G) (tys : List (ClassId × FieldType)) (cI cZ : ClassId) (hI : tys[0]? = some (cI, .int)) (hZ : tys[1]? = some (cZ, .boolean)) (g g1 g2 g3 g4 : Nat) (fr : va_W) (sz : Nat) (wf nf cf kf : Nat → Int32) (fw mx th : Int32) (w n : Nat → Nat) (ok : nmOk wf nf w n)  : Met l yX1_all wsX1_all ({ frames := 1, cells := 0, slots := 0, locals := 30 }) (va_Pc [.ref g] (zz_pre D tys (mdW cI cZ g g1 g2 g3 g4 wf nf cf kf fw mx th fr) sz)) (va_Qv (fun (u : Nat → Int32) => ∀ j, j ≤ 2000 → (u j = nI 1 ∧ mx_has w n j) ∨ (u j = nI 0 ∧ ¬ mx_has w n j)) (zz_B D tys (va_A (mdW cI cZ g g1 g2 g3 g4 wf nf cf kf fw mx th fr) sz) (fun u => mdW cI cZ g g1 g2 g3 g4 wf nf cf u fw mx th fr)) (va_A (mdW cI cZ g g1 g2 g3 g4 wf nf cf kf fw mx th fr) sz)) 0 0 (va_A (mdW cI cZ g g1 g2 g3 g4 wf nf cf kf fw mx th fr) sz) := by
  refine zz_headV (cc := cX1_all) (by decide) rfl (Nat.le_of_ble_eq_true rfl) ?_
  intro p e s m below meth cd A ls F hr hlocks hin hP hK hD hA hS hl
  obtain ⟨hx, hb, hml, hown, hts⟩ := id F
  have hl : lv_has ls 6 [(0, .ref g)] := hl
  obtain ⟨p0, p1, p2⟩ := ok.2.2 0 (by decide)
  obtain ⟨q0, q1, q2⟩ := ok.2.2 1 (by decide)
  obtain ⟨r0, r1, r2⟩ := ok.2.2 2 (by decide)
  obtain ⟨t0, t1, t2⟩ := ok.2.2 3 (by decide)
  refine lv_iconst (v := nI 0) hx hb dX1_all_0 (by decide +kernel) ?_
  refine lv_istore_n (lv' := [(1, .int (nI 0)), (0, .ref g)]) hx hb dX1_all_1 rfl hl (by decide) rfl (fun ls hl => ?_)
  refine zz_loop (fun ls H locs (u : Nat × (Nat → Int32)) => lv_has ls 6 [(1, .int (nI u.1)), (0, .ref g)] ∧ va_P D vwCl (mdW cI cZ g g1 g2 g3 g4 wf nf cf u.2 fw mx th fr) H ∧ va_D A (mdW cI cZ g g1 g2 g3 g4 wf nf cf u.2 fw mx th fr) ∧ va_S A s.heap H locs ∧ u.1 ≤ 2001 ∧ ∀ j, j < u.1 → u.2 j = nI 0) (fun u => 2001 - u.1) ?_ (0, kf) ⟨hl, hP, hD, hS, Nat.zero_le _, fun j hj => absurd hj (Nat.not_lt_zero _)⟩
  rintro ls H locs ⟨i, kf⟩ ⟨hl, hP, hD, hS, hi, hk0⟩ k0
  dsimp only at hl hP hD hi hk0 k0
  refine lv_iload_n hx hb dX1_all_2 rfl (lv_at hl 0 rfl) ?_
  refine lv_sipush (v := nI 2000) hx hb dX1_all_3 (by decide +kernel) ?_
  refine zn_gt hx hb (by omega) (by omega) dX1_all_6 rfl (fun hc => ?_) (fun hc => ?_)
  · have hC : md_C w n (mx_k 0 0 0) kf := md_C0 (fun j hj => hk0 j (by omega))
    refine lv_iconst (v := nI 0) hx hb dX1_all_22 (by decide +kernel) ?_
    refine lv_istore_n (lv' := [(1, .int (nI 0)), (0, .ref g)]) hx hb dX1_all_23 rfl hl (by decide) rfl (fun ls hl => ?_)
    have hl : lv_has ls 6 [(1, .int (nI 0)), (0, .ref g)] := lv_sub hl [0, 1] rfl
    refine zz_loop (fun ls H locs (u : Nat × (Nat → Int32)) => lv_has ls 6 [(1, .int (nI u.1)), (0, .ref g)] ∧ va_P D vwCl (mdW cI cZ g g1 g2 g3 g4 wf nf cf u.2 fw mx th fr) H ∧ va_D A (mdW cI cZ g g1 g2 g3 g4 wf nf cf u.2 fw mx th fr) ∧ va_S A s.heap H locs ∧ md_C w n (mx_k 0 0 u.1) u.2 ∧ u.1 ≤ min (n 3) 40 + 1) (fun u => (min (n 3) 40) + 1 - u.1) ?_ (0, kf) ⟨hl, hP, hD, hS, hC, Nat.zero_le _⟩
    rintro ls H locs ⟨d, kf⟩ ⟨hl, hP, hD, hS, hC3, hd⟩ k3
    dsimp only at hl hP hD hC3 hd k3
    refine lv_iload_n hx hb dX1_all_24 rfl (lv_at hl 0 rfl) ?_
    refine lv_aload_n hx hb dX1_all_25 rfl (lv_at hl 1 rfl) ?_
    refine va_get (D := D) (ci := 1) (v := .ref g2) (C := RX1) (T := TX1) (N := 7) hx hb hts (inX1_all) hown hK hP 0 rfl rfl 1 (by decide) (hts (.fieldLink RX1 13 "NoteMixModel" "notes" "[I") (by decide +kernel)) (fun _ h9 => h9) rfl dX1_all_26 ?_
    refine lv_iconst (v := nI 3) hx hb dX1_all_29 (by decide +kernel) ?_
    refine zn_iald (k := 3) hx hb hK hP 2 _ rfl hI (by omega) (by decide) (ok.2.1 3 (by omega)) dX1_all_30 ?_
    refine lv_bipush (v := nI 40) hx hb dX1_all_31 (by decide +kernel) ?_
    refine zn_min hx hb (hml.trans hl.1.symm) hown (hts (.methodLink RX1 37 Lib.Math.min.name) (by decide +kernel)) (hts (.static Lib.Math.min.name) (by decide +kernel)) (hts (.initialized "java/lang/Math") (by decide +kernel)) (hts (.code Lib.Math.min.name Lib.Math.min.code 2 (some .int)) (by decide +kernel)) (Nat.le_of_ble_eq_true rfl) (Nat.le_of_ble_eq_true rfl) (Nat.le_of_ble_eq_true rfl) (Nat.le_of_ble_eq_true rfl) (by omega) (by omega) dX1_all_33 ?_
    refine zn_gt hx hb (by omega) (by omega) dX1_all_36 rfl (fun hc3 => ?_) (fun hc3 => ?_)
    · have hd3 : d = min (n 3) 40 + 1 := by omega
      rw [hd3] at hC3
      exact zz_vret F hr hlocks hK hS dX1_all_183 (by decide) (by decide) kf (md_Cend (md_Cskip hC3 (by unfold mx_k; omega) (fun _ => md_skip3))) hP hD
    · refine lv_iconst (v := nI 0) hx hb dX1_all_39 (by decide +kernel) ?_
      refine lv_istore_n (lv' := [(2, .int (nI 0)), (1, .int (nI d)), (0, .ref g)]) hx hb dX1_all_40 rfl hl (by decide) rfl (fun ls hl => ?_)
      have hl : lv_has ls 6 [(2, .int (nI 0)), (1, .int (nI d)), (0, .ref g)] := lv_sub hl [0, 1, 2] rfl
      refine zz_loop (fun ls H locs (u : Nat × (Nat → Int32)) => lv_has ls 6 [(2, .int (nI u.1)), (1, .int (nI d)), (0, .ref g)] ∧ va_P D vwCl (mdW cI cZ g g1 g2 g3 g4 wf nf cf u.2 fw mx th fr) H ∧ va_D A (mdW cI cZ g g1 g2 g3 g4 wf nf cf u.2 fw mx th fr) ∧ va_S A s.heap H locs ∧ md_C w n (mx_k 0 u.1 d) u.2 ∧ u.1 ≤ min (n 2) (40 - d) + 1) (fun u => (min (n 2) (40 - d)) + 1 - u.1) ?_ (0, kf) ⟨hl, hP, hD, hS, hC3, Nat.zero_le _⟩
      rintro ls H locs ⟨c2, kf⟩ ⟨hl, hP, hD, hS, hC2, hc2⟩ k2
      dsimp only at hl hP hD hC2 hc2 k2
      refine lv_iload_n hx hb dX1_all_41 rfl (lv_at hl 0 rfl) ?_
      refine lv_aload_n hx hb dX1_all_42 rfl (lv_at hl 2 rfl) ?_
      refine va_get (D := D) (ci := 1) (v := .ref g2) (C := RX1) (T := TX1) (N := 7) hx hb hts (inX1_all) hown hK hP 0 rfl rfl 1 (by decide) (hts (.fieldLink RX1 13 "NoteMixModel" "notes" "[I") (by decide +kernel)) (fun _ h9 => h9) rfl dX1_all_43 ?_
      refine lv_iconst (v := nI 2) hx hb dX1_all_46 (by decide +kernel) ?_
      refine zn_iald (k := 2) hx hb hK hP 2 _ rfl hI (by omega) (by decide) (ok.2.1 2 (by omega)) dX1_all_47 ?_
      refine lv_bipush (v := nI 40) hx hb dX1_all_48 (by decide +kernel) ?_
      refine lv_iload_n hx hb dX1_all_50 rfl (lv_at hl 1 rfl) ?_
      refine zn_sub hx hb (by omega) dX1_all_51 ?_
      refine zn_min hx hb (hml.trans hl.1.symm) hown (hts (.methodLink RX1 37 Lib.Math.min.name) (by decide +kernel)) (hts (.static Lib.Math.min.name) (by decide +kernel)) (hts (.initialized "java/lang/Math") (by decide +kernel)) (hts (.code Lib.Math.min.name Lib.Math.min.code 2 (some .int)) (by decide +kernel)) (Nat.le_of_ble_eq_true rfl) (Nat.le_of_ble_eq_true rfl) (Nat.le_of_ble_eq_true rfl) (Nat.le_of_ble_eq_true rfl) (by omega) (by omega) dX1_all_52 ?_
      refine zn_gt hx hb (by omega) (by omega) dX1_all_55 rfl (fun hd2 => ?_) (fun hd2 => ?_)
      · have hd3 : c2 = min (n 2) (40 - d) + 1 := by omega
        rw [hd3] at hC2
        have hC3 := md_Cskip hC2 (by unfold mx_k; omega) (fun _ => md_skip2)
        refine lv_iinc (k := 1) (lv' := [(1, .int (nI (d + 1))), (2, .int (nI c2)), (0, .ref g)]) hx hb dX1_all_177 hl rfl (zz_i1 _) (by decide) rfl (fun ls hl => ?_)
        refine lv_goto hx hb dX1_all_180 rfl ?_
        have hl : lv_has ls 6 [(1, .int (nI (d + 1))), (0, .ref g)] := lv_sub hl [0, 2] rfl
        exact k3 _ _ _ (d + 1, kf) ⟨hl, hP, hD, hS, hC3, by show d + 1 ≤ min (n 3) 40 + 1; omega⟩ (by show min (n 3) 40 + 1 - (d + 1) < min (n 3) 40 + 1 - d; omega)
      · refine lv_iconst (v := nI 0) hx hb dX1_all_58 (by decide +kernel) ?_
        refine lv_istore_n (lv' := [(3, .int (nI 0)), (2, .int (nI c2)), (1, .int (nI d)), (0, .ref g)]) hx hb dX1_all_59 rfl hl (by decide) rfl (fun ls hl => ?_)
        have hl : lv_has ls 6 [(3, .int (nI 0)), (2, .int (nI c2)), (1, .int (nI d)), (0, .ref g)] := lv_sub hl [0, 1, 2, 3] rfl
        refine zz_loop (fun ls H locs (u : Nat × (Nat → Int32)) => lv_has ls 6 [(3, .int (nI u.1)), (2, .int (nI c2)), (1, .int (nI d)), (0, .ref g)] ∧ va_P D vwCl (mdW cI cZ g g1 g2 g3 g4 wf nf cf u.2 fw mx th fr) H ∧ va_D A (mdW cI cZ g g1 g2 g3 g4 wf nf cf u.2 fw mx th fr) ∧ va_S A s.heap H locs ∧ md_C w n (mx_k u.1 c2 d) u.2 ∧ u.1 ≤ min (n 1) (40 - d - c2) + 1) (fun u => (min (n 1) (40 - d - c2)) + 1 - u.1) ?_ (0, kf) ⟨hl, hP, hD, hS, hC2, Nat.zero_le _⟩
        rintro ls H locs ⟨b1, kf⟩ ⟨hl, hP, hD, hS, hC1, hb1⟩ k1
        dsimp only at hl hP hD hC1 hb1 k1
        refine lv_iload_n hx hb dX1_all_60 rfl (lv_at hl 0 rfl) ?_
        refine lv_aload_n hx hb dX1_all_61 rfl (lv_at hl 3 rfl) ?_
        refine va_get (D := D) (ci := 1) (v := .ref g2) (C := RX1) (T := TX1) (N := 7) hx hb hts (inX1_all) hown hK hP 0 rfl rfl 1 (by decide) (hts (.fieldLink RX1 13 "NoteMixModel" "notes" "[I") (by decide +kernel)) (fun _ h9 => h9) rfl dX1_all_62 ?_
        refine lv_iconst (v := nI 1) hx hb dX1_all_65 (by decide +kernel) ?_
        refine zn_iald (k := 1) hx hb hK hP 2 _ rfl hI (by omega) (by decide) (ok.2.1 1 (by omega)) dX1_all_66 ?_
        refine lv_bipush (v := nI 40) hx hb dX1_all_67 (by decide +kernel) ?_
        refine lv_iload_n hx hb dX1_all_69 rfl (lv_at hl 2 rfl) ?_
        refine zn_sub hx hb (by omega) dX1_all_70 ?_
        refine lv_iload_n hx hb dX1_all_71 rfl (lv_at hl 1 rfl) ?_
        refine zn_sub hx hb (by omega) dX1_all_72 ?_
        refine zn_min hx hb (hml.trans hl.1.symm) hown (hts (.methodLink RX1 37 Lib.Math.min.name) (by decide +kernel)) (hts (.static Lib.Math.min.name) (by decide +kernel)) (hts (.initialized "java/lang/Math") (by decide +kernel)) (hts (.code Lib.Math.min.name Lib.Math.min.code 2 (some .int)) (by decide +kernel)) (Nat.le_of_ble_eq_true rfl) (Nat.le_of_ble_eq_true rfl) (Nat.le_of_ble_eq_true rfl) (Nat.le_of_ble_eq_true rfl) (by omega) (by omega) dX1_all_73 ?_
        refine zn_gt hx hb (by omega) (by omega) dX1_all_76 rfl (fun hd1 => ?_) (fun hd1 => ?_)
        · have hd3 : b1 = min (n 1) (40 - d - c2) + 1 := by omega
          rw [hd3] at hC1
          have hC2 := md_Cskip hC1 (by unfold mx_k; omega) (fun _ => md_skip1 (by omega))
          refine lv_iinc (k := 1) (lv' := [(2, .int (nI (c2 + 1))), (3, .int (nI b1)), (1, .int (nI d)), (0, .ref g)]) hx hb dX1_all_171 hl rfl (zz_i1 _) (by decide) rfl (fun ls hl => ?_)
          refine lv_goto hx hb dX1_all_174 rfl ?_
          have hl : lv_has ls 6 [(2, .int (nI (c2 + 1))), (1, .int (nI d)), (0, .ref g)] := lv_sub hl [0, 2, 3] rfl
          exact k2 _ _ _ (c2 + 1, kf) ⟨hl, hP, hD, hS, hC2, by show c2 + 1 ≤ min (n 2) (40 - d) + 1; omega⟩ (by show min (n 2) (40 - d) + 1 - (c2 + 1) < min (n 2) (40 - d) + 1 - c2; omega)
        · have z3 : d * w 3 ≤ 40 * 500 := Nat.mul_le_mul (by omega) t1
          have z2 : c2 * w 2 ≤ 40 * 500 := Nat.mul_le_mul (by omega) r1
          have z1 : b1 * w 1 ≤ 40 * 500 := Nat.mul_le_mul (by omega) q1
          refine lv_iload_n hx hb dX1_all_79 rfl (lv_at hl 2 rfl) ?_
          refine lv_aload_n hx hb dX1_all_80 rfl (lv_at hl 3 rfl) ?_
          refine va_get (D := D) (ci := 1) (v := .ref g1) (C := RX1) (T := TX1) (N := 7) hx hb hts (inX1_all) hown hK hP 0 rfl rfl 0 (by decide) (hts (.fieldLink RX1 7 "NoteMixModel" "worth" "[I") (by decide +kernel)) (fun _ h9 => h9) rfl dX1_all_81 ?_
          refine lv_iconst (v := nI 3) hx hb dX1_all_84 (by decide +kernel) ?_
          refine zn_iald (k := 3) hx hb hK hP 1 _ rfl hI (by omega) (by decide) (ok.1 3 (by omega)) dX1_all_85 ?_
          refine zn_mul hx hb dX1_all_86 ?_
          refine lv_iload_n hx hb dX1_all_87 rfl (lv_at hl 1 rfl) ?_
          refine lv_aload_n hx hb dX1_all_88 rfl (lv_at hl 3 rfl) ?_
          refine va_get (D := D) (ci := 1) (v := .ref g1) (C := RX1) (T := TX1) (N := 7) hx hb hts (inX1_all) hown hK hP 0 rfl rfl 0 (by decide) (hts (.fieldLink RX1 7 "NoteMixModel" "worth" "[I") (by decide +kernel)) (fun _ h9 => h9) rfl dX1_all_89 ?_
          refine lv_iconst (v := nI 2) hx hb dX1_all_92 (by decide +kernel) ?_
          refine zn_iald (k := 2) hx hb hK hP 1 _ rfl hI (by omega) (by decide) (ok.1 2 (by omega)) dX1_all_93 ?_
          refine zn_mul hx hb dX1_all_94 ?_
          refine zn_add hx hb dX1_all_95 ?_
          refine lv_iload_n hx hb dX1_all_96 rfl (lv_at hl 0 rfl) ?_
          refine lv_aload_n hx hb dX1_all_97 rfl (lv_at hl 3 rfl) ?_
          refine va_get (D := D) (ci := 1) (v := .ref g1) (C := RX1) (T := TX1) (N := 7) hx hb hts (inX1_all) hown hK hP 0 rfl rfl 0 (by decide) (hts (.fieldLink RX1 7 "NoteMixModel" "worth" "[I") (by decide +kernel)) (fun _ h9 => h9) rfl dX1_all_98 ?_
          refine lv_iconst (v := nI 1) hx hb dX1_all_101 (by decide +kernel) ?_
          refine zn_iald (k := 1) hx hb hK hP 1 _ rfl hI (by omega) (by decide) (ok.1 1 (by omega)) dX1_all_102 ?_
          refine zn_mul hx hb dX1_all_103 ?_
          refine zn_add hx hb dX1_all_104 ?_
          refine lv_istore (lv' := [(4, .int (nI (((d * (w 3)) + (c2 * (w 2))) + (b1 * (w 1))))), (3, .int (nI b1)), (2, .int (nI c2)), (1, .int (nI d)), (0, .ref g)]) hx hb dX1_all_105 hl (by decide) rfl (fun ls hl => ?_)
          refine lv_iconst (v := nI 0) hx hb dX1_all_107 (by decide +kernel) ?_
          refine lv_istore (lv' := [(5, .int (nI 0)), (4, .int (nI (((d * (w 3)) + (c2 * (w 2))) + (b1 * (w 1))))), (3, .int (nI b1)), (2, .int (nI c2)), (1, .int (nI d)), (0, .ref g)]) hx hb dX1_all_108 hl (by decide) rfl (fun ls hl => ?_)
          have hl : lv_has ls 6 [(5, .int (nI 0)), (4, .int (nI (((d * (w 3)) + (c2 * (w 2))) + (b1 * (w 1))))), (3, .int (nI b1)), (2, .int (nI c2)), (1, .int (nI d)), (0, .ref g)] := lv_sub hl [0, 1, 2, 3, 4, 5] rfl
          refine zz_loop (fun ls H locs (u : Nat × Nat × (Nat → Int32)) => lv_has ls 6 [(5, .int (nI u.1)), (4, .int (nI u.2.1)), (3, .int (nI b1)), (2, .int (nI c2)), (1, .int (nI d)), (0, .ref g)] ∧ va_P D vwCl (mdW cI cZ g g1 g2 g3 g4 wf nf cf u.2.2 fw mx th fr) H ∧ va_D A (mdW cI cZ g g1 g2 g3 g4 wf nf cf u.2.2 fw mx th fr) ∧ va_S A s.heap H locs ∧ md_X w n b1 c2 d u.1 u.2.2 ∧ u.1 ≤ min (n 0) (40 - d - c2 - b1) + 1 ∧ u.2.1 = ((d * (w 3)) + (c2 * (w 2))) + (b1 * (w 1)) + u.1 * w 0) (fun u => min (n 0) (40 - d - c2 - b1) + 1 - u.1) ?_ (0, ((d * (w 3)) + (c2 * (w 2))) + (b1 * (w 1)), kf) ⟨hl, hP, hD, hS, md_X0 hC1, Nat.zero_le _, by show ((d * (w 3)) + (c2 * (w 2))) + (b1 * (w 1)) = ((d * (w 3)) + (c2 * (w 2))) + (b1 * (w 1)) + 0 * w 0; omega⟩
          rintro ls H locs ⟨x, v, kf⟩ ⟨hl, hP, hD, hS, hX, hxb, hv⟩ k0
          dsimp only at hl hP hD hX hxb hv k0
          have z0 : x * w 0 ≤ 41 * 500 := Nat.mul_le_mul (by omega) p1
          refine lv_iload hx hb dX1_all_110 (lv_at hl 0 rfl) ?_
          refine lv_aload_n hx hb dX1_all_112 rfl (lv_at hl 5 rfl) ?_
          refine va_get (D := D) (ci := 1) (v := .ref g2) (C := RX1) (T := TX1) (N := 7) hx hb hts (inX1_all) hown hK hP 0 rfl rfl 1 (by decide) (hts (.fieldLink RX1 13 "NoteMixModel" "notes" "[I") (by decide +kernel)) (fun _ h9 => h9) rfl dX1_all_113 ?_
          refine lv_iconst (v := nI 0) hx hb dX1_all_116 (by decide +kernel) ?_
          refine zn_iald (k := 0) hx hb hK hP 2 _ rfl hI (by omega) (by decide) (ok.2.1 0 (by omega)) dX1_all_117 ?_
          refine lv_bipush (v := nI 40) hx hb dX1_all_118 (by decide +kernel) ?_
          refine lv_iload_n hx hb dX1_all_120 rfl (lv_at hl 4 rfl) ?_
          refine zn_sub hx hb (by omega) dX1_all_121 ?_
          refine lv_iload_n hx hb dX1_all_122 rfl (lv_at hl 3 rfl) ?_
          refine zn_sub hx hb (by omega) dX1_all_123 ?_
          refine lv_iload_n hx hb dX1_all_124 rfl (lv_at hl 2 rfl) ?_
          refine zn_sub hx hb (by omega) dX1_all_125 ?_
          refine zn_min hx hb (hml.trans hl.1.symm) hown (hts (.methodLink RX1 37 Lib.Math.min.name) (by decide +kernel)) (hts (.static Lib.Math.min.name) (by decide +kernel)) (hts (.initialized "java/lang/Math") (by decide +kernel)) (hts (.code Lib.Math.min.name Lib.Math.min.code 2 (some .int)) (by decide +kernel)) (Nat.le_of_ble_eq_true rfl) (Nat.le_of_ble_eq_true rfl) (Nat.le_of_ble_eq_true rfl) (Nat.le_of_ble_eq_true rfl) (by omega) (by omega) dX1_all_126 ?_
          refine zn_gt hx hb (by omega) (by omega) dX1_all_129 rfl (fun he1 => ?_) (fun he1 => ?_)
          · have hC9 : md_C w n (mx_k (b1 + 1) c2 d) kf := by rw [mx_ks]; exact md_Xe (by omega) (by omega) hX (fun j y hj hm => (by obtain ⟨m1, m2, m3, m4, m5, m6⟩ := hm; omega))
            refine lv_iinc (k := 2) (lv' := [(3, .int (nI (b1 + 1))), (5, .int (nI x)), (4, .int (nI v)), (2, .int (nI c2)), (1, .int (nI d)), (0, .ref g)]) hx hb dX1_all_165 hl rfl (zz_i1 _) (by decide) rfl (fun ls hl => ?_)
            refine lv_goto hx hb dX1_all_168 rfl ?_
            have hl : lv_has ls 6 [(3, .int (nI (b1 + 1))), (2, .int (nI c2)), (1, .int (nI d)), (0, .ref g)] := lv_sub hl [0, 3, 4, 5] rfl
            exact k1 _ _ _ (b1 + 1, kf) ⟨hl, hP, hD, hS, hC9, by show b1 + 1 ≤ min (n 1) (40 - d - c2) + 1; omega⟩ (by show min (n 1) (40 - d - c2) + 1 - (b1 + 1) < min (n 1) (40 - d - c2) + 1 - b1; omega)
          · refine lv_iload hx hb dX1_all_132 (lv_at hl 1 rfl) ?_
            refine lv_sipush (v := nI 2000) hx hb dX1_all_134 (by decide +kernel) ?_
            refine zn_gt hx hb (by omega) (by omega) dX1_all_137 rfl (fun he2 => ?_) (fun he2 => ?_)
            · have hC9 : md_C w n (mx_k (b1 + 1) c2 d) kf := by rw [mx_ks]; exact md_Xe (by omega) (by omega) hX (fun j y hj hm => (by obtain ⟨m1, m2, m3, m4, m5, m6⟩ := hm; exact Nat.lt_of_not_le (fun h9 => by have h8 := Nat.mul_le_mul_right (w 0) h9; omega)))
              refine lv_iinc (k := 2) (lv' := [(3, .int (nI (b1 + 1))), (5, .int (nI x)), (4, .int (nI v)), (2, .int (nI c2)), (1, .int (nI d)), (0, .ref g)]) hx hb dX1_all_165 hl rfl (zz_i1 _) (by decide) rfl (fun ls hl => ?_)
              refine lv_goto hx hb dX1_all_168 rfl ?_
              have hl : lv_has ls 6 [(3, .int (nI (b1 + 1))), (2, .int (nI c2)), (1, .int (nI d)), (0, .ref g)] := lv_sub hl [0, 3, 4, 5] rfl
              exact k1 _ _ _ (b1 + 1, kf) ⟨hl, hP, hD, hS, hC9, by show b1 + 1 ≤ min (n 1) (40 - d - c2) + 1; omega⟩ (by show min (n 1) (40 - d - c2) + 1 - (b1 + 1) < min (n 1) (40 - d - c2) + 1 - b1; omega)
            · refine lv_aload_n hx hb dX1_all_140 rfl (lv_at hl 5 rfl) ?_
              refine va_get (D := D) (ci := 1) (v := .ref g4) (C := RX1) (T := TX1) (N := 7) hx hb hts (inX1_all) hown hK hP 0 rfl rfl 3 (by decide) (hts (.fieldLink RX1 19 "NoteMixModel" "can" "[Z") (by decide +kernel)) (fun _ h9 => h9) rfl dX1_all_141 ?_
              refine lv_iload hx hb dX1_all_144 (lv_at hl 1 rfl) ?_
              refine lv_iconst (v := nI 1) hx hb dX1_all_146 (by decide +kernel) ?_
              refine zn_zast (k := v) hx hb hK hP hD hS 4 _ rfl hZ (by omega) (by decide) (by decide +kernel) dX1_all_147 (fun H locs kf1 kf1e kf1n hP hD hS => ?_)
              have hP : va_P D vwCl (mdW cI cZ g g1 g2 g3 g4 wf nf cf kf1 fw mx th fr) H := hP
              have hD : va_D A (mdW cI cZ g g1 g2 g3 g4 wf nf cf kf1 fw mx th fr) := hD
              refine lv_iload hx hb dX1_all_148 (lv_at hl 1 rfl) ?_
              refine lv_aload_n hx hb dX1_all_150 rfl (lv_at hl 5 rfl) ?_
              refine va_get (D := D) (ci := 1) (v := .ref g1) (C := RX1) (T := TX1) (N := 7) hx hb hts (inX1_all) hown hK hP 0 rfl rfl 0 (by decide) (hts (.fieldLink RX1 7 "NoteMixModel" "worth" "[I") (by decide +kernel)) (fun _ h9 => h9) rfl dX1_all_151 ?_
              refine lv_iconst (v := nI 0) hx hb dX1_all_154 (by decide +kernel) ?_
              refine zn_iald (k := 0) hx hb hK hP 1 _ rfl hI (by omega) (by decide) (ok.1 0 (by omega)) dX1_all_155 ?_
              refine zn_add hx hb dX1_all_156 ?_
              refine lv_istore (lv' := [(4, .int (nI (v + (w 0)))), (5, .int (nI x)), (3, .int (nI b1)), (2, .int (nI c2)), (1, .int (nI d)), (0, .ref g)]) hx hb dX1_all_157 hl (by decide) rfl (fun ls hl => ?_)
              refine lv_iinc (k := 1) (lv' := [(5, .int (nI (x + 1))), (4, .int (nI (v + (w 0)))), (3, .int (nI b1)), (2, .int (nI c2)), (1, .int (nI d)), (0, .ref g)]) hx hb dX1_all_159 hl rfl (zz_i1 _) (by decide) rfl (fun ls hl => ?_)
              refine lv_goto hx hb dX1_all_162 rfl ?_
              have hl : lv_has ls 6 [(5, .int (nI (x + 1))), (4, .int (nI (v + (w 0)))), (3, .int (nI b1)), (2, .int (nI c2)), (1, .int (nI d)), (0, .ref g)] := lv_sub hl [0, 1, 2, 3, 4, 5] rfl
              have hX1 : md_X w n b1 c2 d (x + 1) kf1 := md_Xs hX (v := v) ⟨by omega, by omega, by omega, by omega, by omega, by omega⟩ kf1e kf1n
              exact k0 _ _ _ (x + 1, v + w 0, kf1) ⟨hl, hP, hD, hS, hX1, by show x + 1 ≤ min (n 0) (40 - d - c2 - b1) + 1; omega, by show v + w 0 = ((d * (w 3)) + (c2 * (w 2))) + (b1 * (w 1)) + (x + 1) * w 0; rw [Nat.add_mul]; omega⟩ (by show min (n 0) (40 - d - c2 - b1) + 1 - (x + 1) < min (n 0) (40 - d - c2 - b1) + 1 - x; omega)
  · refine lv_aload_n hx hb dX1_all_9 rfl (lv_at hl 1 rfl) ?_
    refine va_get (D := D) (ci := 1) (v := .ref g4) (C := RX1) (T := TX1) (N := 7) hx hb hts (inX1_all) hown hK hP 0 rfl rfl 3 (by decide) (hts (.fieldLink RX1 19 "NoteMixModel" "can" "[Z") (by decide +kernel)) (fun _ h9 => h9) rfl dX1_all_10 ?_
    refine lv_iload_n hx hb dX1_all_13 rfl (lv_at hl 0 rfl) ?_
    refine lv_iconst (v := nI 0) hx hb dX1_all_14 (by decide +kernel) ?_
    refine zn_zast (k := i) hx hb hK hP hD hS 4 _ rfl hZ (by omega) (by decide) (by decide +kernel) dX1_all_15 (fun H locs kf1 kf1e kf1n hP hD hS => ?_)
    have hP : va_P D vwCl (mdW cI cZ g g1 g2 g3 g4 wf nf cf kf1 fw mx th fr) H := hP
    have hD : va_D A (mdW cI cZ g g1 g2 g3 g4 wf nf cf kf1 fw mx th fr) := hD
    refine lv_iinc (k := 0) (lv' := [(1, .int (nI (i + 1))), (0, .ref g)]) hx hb dX1_all_16 hl rfl (zz_i1 _) (by decide) rfl (fun ls hl => ?_)
    refine lv_goto hx hb dX1_all_19 rfl ?_
    refine k0 _ _ _ (i + 1, kf1) ⟨hl, hP, hD, hS, by show i + 1 ≤ 2001; omega, fun j hj => ?_⟩ (by show 2001 - (i + 1) < 2001 - i; omega)
    show kf1 j = nI 0
    by_cases e9 : j = i
    · subst e9
      exact kf1e
    · rw [kf1n j e9]
      exact hk0 j (by have h9 : j < i + 1 := hj; omega)
