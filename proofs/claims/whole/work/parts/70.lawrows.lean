/-! rows for the law -/
section ZQ
variable {p : Program} {l : Launch} {e : Env} {R : Room} {s : State} {m : MethodId} {args : Array Value} {below : List Frame} {meth : Method} {c : Code} {H : Heap} {locs : List Loc} {cells slots : Nat} {Q : State → Prop}
variable {cc : ByteArray} {pc : Nat} {ls : Array Slot} {rest : List Value}
variable {D : va_G} {cl : List vw_C} {tys : List (ClassId × FieldType)} {ws : va_W} {A : Nat → Prop} {H0 : Heap} {a : Nat}
theorem zn_lald (hexec : p.tables.exec = Jvm.exec) (hb : c.code = cc) (hK : va_K D cl tys s) (hP : va_P D cl ws H) (q0 t0 : Nat) {cA : ClassId} {n : Nat} {f : Nat → Int64} (ha : ws[q0]? = some (a, .inl (cA, n, .inr (.inl f)))) (ht : tys[t0]? = some (cA, .long)) {k : Nat} (hk : k < n) (hn : n < 2 ^ 31) (hdg : decode cc pc = .ok (.laload, 1))
    (kk : W p l e R s m args below meth c H locs cells slots Q (F0 m (pc + 1) ls (.long (f k) :: rest))) : W p l e R s m args below meth c H locs cells slots Q (F0 m pc ls (.int (nI k) :: .ref a :: rest)) := by
  refine va_lald hexec hb hK hP q0 t0 ha ht (vp_in_nI hk hn) hdg ?_
  rw [nI_clamp (Nat.lt_trans hk hn)]
  exact kk
theorem zn_last (hexec : p.tables.exec = Jvm.exec) (hb : c.code = cc) (hK : va_K D cl tys s) (hP : va_P D cl ws H) (hD : va_D A ws) (hS : va_S A H0 H locs) (q0 t0 : Nat) {cA : ClassId} {n : Nat} {f : Nat → Int64} (ha : ws[q0]? = some (a, .inl (cA, n, .inr (.inl f)))) (ht : tys[t0]? = some (cA, .long)) {k : Nat} {x : Int64} (hk : k < n) (hn : n < 2 ^ 31) (hdg : decode cc pc = .ok (.lastore, 1))
    (kk : ∀ (H1 : Heap) (locs1 : List Loc) (f1 : Nat → Int64), f1 k = x → va_P D cl (ws.set q0 (a, .inl (cA, n, .inr (.inl f1)))) H1 → va_D A (ws.set q0 (a, .inl (cA, n, .inr (.inl f1)))) → va_S A H0 H1 locs1 → W p l e R s m args below meth c H1 locs1 cells slots Q (F0 m (pc + 1) ls rest)) : W p l e R s m args below meth c H locs cells slots Q (F0 m pc ls (.long x :: .int (nI k) :: .ref a :: rest)) := by
  refine va_last hexec hb hK hP hD hS q0 t0 ha ht (vp_in_nI hk hn) hdg (fun H1 locs1 h1 h2 h3 => ?_)
  rw [nI_clamp (Nat.lt_trans hk hn)] at h1 h2
  exact kk H1 locs1 _ pk_uLs h1 h2 h3
theorem zn_sld (hexec : p.tables.exec = Jvm.exec) (hb : c.code = cc) {b L : Nat} {xs : Nat → Int32} (hX : va_X b L xs s H0) (hbl : b < H0.size) (hbA : ¬ A b) (hS : va_S A H0 H locs) {k : Nat} (hk : k < L) (hL : L < 2 ^ 31) (hdg : decode cc pc = .ok (.iaload, 1))
    (kk : W p l e R s m args below meth c H locs cells slots Q (F0 m (pc + 1) ls (.int (xs k) :: rest))) : W p l e R s m args below meth c H locs cells slots Q (F0 m pc ls (.int (nI k) :: .ref b :: rest)) := by
  refine va_sld hexec hb hX hbl hbA hS (vp_in_nI hk hL) hdg ?_
  rw [nI_clamp (Nat.lt_trans hk hL)]
  exact kk
end ZQ
theorem zz_cmp (x : Int64) : lg_cmp x x = 0 := by
  have h : ¬ x > x := by
    rw [gt_iff_lt, Int64.lt_iff_toInt_lt]
    omega
  unfold lg_cmp
  rw [if_neg h, if_pos rfl]
theorem zz_lim {L i : Nat} (hL : L ≤ 2048) (hi : i ≤ 4096) (h : ¬ nI L - nI 4 < nI i) : i + 4 ≤ L := by
  rw [Int32.lt_iff_toInt_lt, pk_sub_toInt (by omega) (by omega), nI_toInt (by omega)] at h
  omega
theorem zr_u {v v' : Nat} {x : Int32} (hv : v ≤ 2000) (hv' : v' ≤ 2000) (h : x = nI v) (h' : x = nI v') : v' = v := (nI_eq (by omega) (by omega)).1 (h'.symm.trans h)
/-! class and reference agree: pure rows -/
theorem ag3 {P : Int32 → Prop} {E1 E2 : Prop} {r th b : Int32} {o0 : Int64} (hu : ∀ a a', P a → P a' → a' = a) (x1 : ∀ a, P a → ¬ E1) (x2 : ∀ a, P a → ¬ E2) (x3 : E1 → ¬ E2) (H : (r = nI 0 ∧ ∃ rv, P rv ∧ o0 = rv.toInt64) ∨ (r = nI 1 ∧ E1) ∨ (r = nI 2 ∧ E2)) (M : (th = nI 0 ∧ P b) ∨ (th = nI 1 ∧ E1) ∨ (th = nI 2 ∧ E2)) : th = r ∧ (r = 0 → o0 = b.toInt64) := by
  have n1 : ¬ nI 1 = 0 := by decide +kernel
  have n2 : ¬ nI 2 = 0 := by decide +kernel
  rcases H with ⟨h, rv, hp, ho⟩ | ⟨h, hp⟩ | ⟨h, hp⟩ <;> rcases M with ⟨h', hp'⟩ | ⟨h', hp'⟩ | ⟨h', hp'⟩
  · exact ⟨h'.trans h.symm, fun _ => by rw [ho, hu _ _ hp hp']⟩
  · exact absurd hp' (x1 _ hp)
  · exact absurd hp' (x2 _ hp)
  · exact absurd hp (x1 _ hp')
  · exact ⟨h'.trans h.symm, fun q => absurd (h.symm.trans q) n1⟩
  · exact absurd hp' (x3 hp)
  · exact absurd hp (x2 _ hp')
  · exact absurd hp (x3 hp')
  · exact ⟨h'.trans h.symm, fun q => absurd (h.symm.trans q) n2⟩
theorem ag2 {P : Int32 → Prop} {E1 : Prop} {r th b : Int32} {o0 : Int64} (hu : ∀ a a', P a → P a' → a' = a) (x1 : ∀ a, P a → ¬ E1) (H : (r = nI 0 ∧ ∃ rv, P rv ∧ o0 = rv.toInt64) ∨ (r = nI 1 ∧ E1)) (M : (th = nI 0 ∧ P b) ∨ (th = nI 1 ∧ E1)) : th = r ∧ (r = 0 → o0 = b.toInt64) :=
  ag3 (E2 := False) hu x1 (fun _ _ h => h) (fun _ h => h) (H.elim Or.inl (fun h => Or.inr (Or.inl h))) (M.elim Or.inl (fun h => Or.inr (Or.inl h)))
theorem ag_best {w n : Nat → Nat} {x y z r th bb : Int32} {og0 : Int64} (H : (r = nI 0 ∧ ∃ rv : Int32, (∃ v : Nat, v ≤ 2000 ∧ x = nI v ∧ ∃ bm : Nat → Nat, mx_B w n v (bm 0) (bm 1) (bm 2) (bm 3) ∧ rv = nI (bm 0 + bm 1 + bm 2 + bm 3)) ∧ og0 = rv.toInt64) ∨ (r = nI 1 ∧ ¬ zr x 0 2000) ∨ (r = nI 2 ∧ ∃ v : Nat, v ≤ 2000 ∧ x = nI v ∧ ¬ mx_has w n v)) (M : (th = nI 0 ∧ (∃ v : Nat, v ≤ 2000 ∧ x = nI v ∧ ∃ bm : Nat → Nat, mx_B w n v (bm 0) (bm 1) (bm 2) (bm 3) ∧ bb = nI (bm 0 + bm 1 + bm 2 + bm 3))) ∨ (th = nI 1 ∧ ¬ zr x 0 2000) ∨ (th = nI 2 ∧ ∃ v : Nat, v ≤ 2000 ∧ x = nI v ∧ ¬ mx_has w n v)) : th = r ∧ (r = 0 → og0 = bb.toInt64) := by
  refine ag3 (P := fun rv => ∃ v : Nat, v ≤ 2000 ∧ x = nI v ∧ ∃ bm : Nat → Nat, mx_B w n v (bm 0) (bm 1) (bm 2) (bm 3) ∧ rv = nI (bm 0 + bm 1 + bm 2 + bm 3)) ?_ ?_ ?_ ?_ H M
  · rintro a a' ⟨v, hv, hx, bm, hB, e⟩ ⟨v', hv', hx', bm', hB', e'⟩
    obtain rfl := zr_u hv hv' hx hx'
    obtain ⟨q0, q1, q2, q3⟩ := mx_one hB hB'
    rw [e, e', q0, q1, q2, q3]
  · rintro a ⟨v, hv, hx, _⟩ h9
    exact h9 ⟨v, Nat.zero_le _, hv, hx⟩
  · rintro a ⟨v, hv, hx, bm, hB, _⟩ ⟨v', hv', hx', h9⟩
    obtain rfl := zr_u hv hv' hx hx'
    exact h9 ⟨_, _, _, _, hB.1⟩
  · rintro h9 ⟨v, hv, hx, _⟩
    exact h9 ⟨v, Nat.zero_le _, hv, hx⟩
theorem ag_part {w n : Nat → Nat} {x y z r th bb : Int32} {og0 : Int64} (H : (r = nI 0 ∧ ∃ rv : Int32, (∃ v c : Nat, v ≤ 2000 ∧ c < 4 ∧ x = nI v ∧ y = nI c ∧ ∃ bm : Nat → Nat, mx_B w n v (bm 0) (bm 1) (bm 2) (bm 3) ∧ rv = nI (bm c)) ∧ og0 = rv.toInt64) ∨ (r = nI 1 ∧ ¬ (zr y 0 3 ∧ zr x 0 2000)) ∨ (r = nI 2 ∧ zr y 0 3 ∧ ∃ v : Nat, v ≤ 2000 ∧ x = nI v ∧ ¬ mx_has w n v)) (M : (th = nI 0 ∧ (∃ v c : Nat, v ≤ 2000 ∧ c < 4 ∧ x = nI v ∧ y = nI c ∧ ∃ bm : Nat → Nat, mx_B w n v (bm 0) (bm 1) (bm 2) (bm 3) ∧ bb = nI (bm c))) ∨ (th = nI 1 ∧ ¬ (zr y 0 3 ∧ zr x 0 2000)) ∨ (th = nI 2 ∧ zr y 0 3 ∧ ∃ v : Nat, v ≤ 2000 ∧ x = nI v ∧ ¬ mx_has w n v)) : th = r ∧ (r = 0 → og0 = bb.toInt64) := by
  refine ag3 (P := fun rv => ∃ v c : Nat, v ≤ 2000 ∧ c < 4 ∧ x = nI v ∧ y = nI c ∧ ∃ bm : Nat → Nat, mx_B w n v (bm 0) (bm 1) (bm 2) (bm 3) ∧ rv = nI (bm c)) ?_ ?_ ?_ ?_ H M
  · rintro a a' ⟨v, c, hv, hc, hx, hy, bm, hB, e⟩ ⟨v', c', hv', hc', hx', hy', bm', hB', e'⟩
    obtain rfl := zr_u hv hv' hx hx'
    obtain rfl := zr_u (by omega) (by omega) hy hy'
    obtain ⟨q0, q1, q2, q3⟩ := mx_one hB hB'
    rw [e, e']
    rcases (show c' = 0 ∨ c' = 1 ∨ c' = 2 ∨ c' = 3 by omega) with rfl | rfl | rfl | rfl
    · rw [q0]
    · rw [q1]
    · rw [q2]
    · rw [q3]
  · rintro a ⟨v, c, hv, hc, hx, hy, _⟩ h9
    exact h9 ⟨⟨c, Nat.zero_le _, by omega, hy⟩, v, Nat.zero_le _, hv, hx⟩
  · rintro a ⟨v, c, hv, hc, hx, hy, bm, hB, _⟩ ⟨_, v', hv', hx', h9⟩
    obtain rfl := zr_u hv hv' hx hx'
    exact h9 ⟨_, _, _, _, hB.1⟩
  · rintro h9 ⟨h8, v, hv, hx, _⟩
    exact h9 ⟨h8, v, Nat.zero_le _, hv, hx⟩
theorem ag_ways {w n : Nat → Nat} {x y z r th bb : Int32} {og0 : Int64} (H : (r = nI 0 ∧ ∃ rv : Int32, (∃ v : Nat, v ≤ 2000 ∧ x = nI v ∧ rv = nI (mx_c w n v 68921)) ∧ og0 = rv.toInt64) ∨ (r = nI 1 ∧ ¬ zr x 0 2000)) (M : (th = nI 0 ∧ (∃ v : Nat, v ≤ 2000 ∧ x = nI v ∧ bb = nI (mx_c w n v 68921))) ∨ (th = nI 1 ∧ ¬ zr x 0 2000)) : th = r ∧ (r = 0 → og0 = bb.toInt64) := by
  refine ag2 (P := fun rv => ∃ v : Nat, v ≤ 2000 ∧ x = nI v ∧ rv = nI (mx_c w n v 68921)) ?_ ?_ H M
  · rintro a a' ⟨v, hv, hx, e⟩ ⟨v', hv', hx', e'⟩
    obtain rfl := zr_u hv hv' hx hx'
    rw [e, e']
  · rintro a ⟨v, hv, hx, _⟩ h9
    exact h9 ⟨v, Nat.zero_le _, hv, hx⟩
theorem ag_next {w n : Nat → Nat} {x y z r th bb : Int32} {og0 : Int64} (H : (r = nI 0 ∧ ∃ rv : Int32, (∃ v : Nat, v ≤ 2000 ∧ x = nI v ∧ mx_N w n v rv) ∧ og0 = rv.toInt64) ∨ (r = nI 1 ∧ ¬ zr x 0 2000)) (M : (th = nI 0 ∧ (∃ v : Nat, v ≤ 2000 ∧ x = nI v ∧ mx_N w n v bb)) ∨ (th = nI 1 ∧ ¬ zr x 0 2000)) : th = r ∧ (r = 0 → og0 = bb.toInt64) := by
  refine ag2 (P := fun rv => ∃ v : Nat, v ≤ 2000 ∧ x = nI v ∧ mx_N w n v rv) ?_ ?_ H M
  · rintro a a' ⟨v, hv, hx, e⟩ ⟨v', hv', hx', e'⟩
    obtain rfl := zr_u hv hv' hx hx'
    exact mx_Nu e e'
  · rintro a ⟨v, hv, hx, _⟩ h9
    exact h9 ⟨v, Nat.zero_le _, hv, hx⟩
theorem ag_cassette {w n : Nat → Nat} {x y z r th bb : Int32} {og0 : Int64} (H : (r = nI 0 ∧ ∃ rv : Int32, (∃ c : Nat, c < 4 ∧ x = nI c ∧ rv = if y = 0 then nI (n c) else nI (w c)) ∧ og0 = rv.toInt64) ∨ (r = nI 1 ∧ ¬ zr x 0 3)) (M : (th = nI 0 ∧ (∃ c : Nat, c < 4 ∧ x = nI c ∧ bb = if y = 0 then nI (n c) else nI (w c))) ∨ (th = nI 1 ∧ ¬ zr x 0 3)) : th = r ∧ (r = 0 → og0 = bb.toInt64) := by
  refine ag2 (P := fun rv => ∃ c : Nat, c < 4 ∧ x = nI c ∧ rv = if y = 0 then nI (n c) else nI (w c)) ?_ ?_ H M
  · rintro a a' ⟨v, hv, hx, e⟩ ⟨v', hv', hx', e'⟩
    obtain rfl := zr_u (by omega) (by omega) hx hx'
    rw [e, e']
  · rintro a ⟨v, hv, hx, _⟩ h9
    exact h9 ⟨v, Nat.zero_le _, by omega, hx⟩
theorem ag_pay {w n : Nat → Nat} {x y z r th bb : Int32} {og0 : Int64} {wf nf nf' wf1 nf1 nf1' : Nat → Int32} (ok : nmOk wf nf w n) (ok1 : nmOk wf1 nf1 w n) (H : (r = nI 0 ∧ ∃ rv : Int32, (∃ v jam : Nat, v ≤ 2000 ∧ jam ≤ 40 ∧ x = nI v ∧ y = nI jam ∧ ∃ (bm : Nat → Nat) (o3 o2 o1 o0 : Nat), mx_B w n v (bm 0) (bm 1) (bm 2) (bm 3) ∧ o3 = min (bm 3) jam ∧ o2 = min (bm 2) (jam - o3) ∧ o1 = min (bm 1) (jam - o3 - o2) ∧ o0 = min (bm 0) (jam - o3 - o2 - o1) ∧ rv = nI (0 + o3 * w 3 + o2 * w 2 + o1 * w 1 + o0 * w 0) ∧ nf' 0 = nI (n 0 - o0) ∧ nf' 1 = nI (n 1 - o1) ∧ nf' 2 = nI (n 2 - o2) ∧ nf' 3 = nI (n 3 - o3)) ∧ og0 = rv.toInt64) ∨ (r = nI 1 ∧ ¬ (zr y 0 40 ∧ zr x 0 2000) ∧ nf' = nf) ∨ (r = nI 2 ∧ nf' = nf ∧ zr y 0 40 ∧ ∃ v : Nat, v ≤ 2000 ∧ x = nI v ∧ ¬ mx_has w n v)) (M : (th = nI 0 ∧ ∃ v jam : Nat, v ≤ 2000 ∧ jam ≤ 40 ∧ x = nI v ∧ y = nI jam ∧ ∃ (bm : Nat → Nat) (o3 o2 o1 o0 : Nat), mx_B w n v (bm 0) (bm 1) (bm 2) (bm 3) ∧ o3 = min (bm 3) jam ∧ o2 = min (bm 2) (jam - o3) ∧ o1 = min (bm 1) (jam - o3 - o2) ∧ o0 = min (bm 0) (jam - o3 - o2 - o1) ∧ bb = nI (0 + o3 * w 3 + o2 * w 2 + o1 * w 1 + o0 * w 0) ∧ nf1' 0 = nI (n 0 - o0) ∧ nf1' 1 = nI (n 1 - o1) ∧ nf1' 2 = nI (n 2 - o2) ∧ nf1' 3 = nI (n 3 - o3)) ∨ (th = nI 1 ∧ ¬ (zr y 0 40 ∧ zr x 0 2000) ∧ nf1' = nf1) ∨ (th = nI 2 ∧ nf1' = nf1 ∧ zr y 0 40 ∧ ∃ v : Nat, v ≤ 2000 ∧ x = nI v ∧ ¬ mx_has w n v)) : (th = r ∧ (r = 0 → og0 = bb.toInt64)) ∧ ∃ n' : Nat → Nat, nmOk wf nf' w n' ∧ nmOk wf1 nf1' w n' := by
  have n1 : ¬ nI 1 = 0 := by decide +kernel
  have n2 : ¬ nI 2 = 0 := by decide +kernel
  rcases H with ⟨h, rv, ⟨v, jam, hv, hj, hx, hy, bm, o3, o2, o1, o0, hB, e3, e2, e1, e0, er, f0, f1, f2, f3⟩, ho⟩ | ⟨h, hp, hf⟩ | ⟨h, hf, hp⟩ <;> rcases M with ⟨h', v', jam', hv', hj', hx', hy', bm', p3, p2, p1, p0, hB', g3, g2, g1, g0, er', k0, k1, k2, k3⟩ | ⟨h', hp', hf'⟩ | ⟨h', hf', hp'⟩
  · obtain rfl := zr_u hv hv' hx hx'
    obtain rfl := zr_u (by omega) (by omega) hy hy'
    obtain ⟨q0, q1, q2, q3⟩ := mx_one hB hB'
    rw [q3] at g3
    have d3 : p3 = o3 := g3.trans e3.symm
    rw [q2, d3] at g2
    have d2 : p2 = o2 := g2.trans e2.symm
    rw [q1, d3, d2] at g1
    have d1 : p1 = o1 := g1.trans e1.symm
    rw [q0, d3, d2, d1] at g0
    have d0 : p0 = o0 := g0.trans e0.symm
    subst d3 d2 d1 d0
    refine ⟨⟨h'.trans h.symm, fun _ => by rw [ho, er, er']⟩, fun j => if j = 0 then n 0 - p0 else if j = 1 then n 1 - p1 else if j = 2 then n 2 - p2 else n 3 - p3, ⟨ok.1, fun j hj => ?_, fun j hj => ?_⟩, ok1.1, fun j hj => ?_, fun j hj => ?_⟩
    · rcases (show j = 0 ∨ j = 1 ∨ j = 2 ∨ j = 3 by omega) with rfl | rfl | rfl | rfl <;> assumption
    · obtain ⟨a1, a2, a3⟩ := ok.2.2 j hj
      rcases (show j = 0 ∨ j = 1 ∨ j = 2 ∨ j = 3 by omega) with rfl | rfl | rfl | rfl <;> exact ⟨a1, a2, Nat.le_trans (Nat.sub_le _ _) a3⟩
    · rcases (show j = 0 ∨ j = 1 ∨ j = 2 ∨ j = 3 by omega) with rfl | rfl | rfl | rfl <;> assumption
    · obtain ⟨a1, a2, a3⟩ := ok.2.2 j hj
      rcases (show j = 0 ∨ j = 1 ∨ j = 2 ∨ j = 3 by omega) with rfl | rfl | rfl | rfl <;> exact ⟨a1, a2, Nat.le_trans (Nat.sub_le _ _) a3⟩
  · exact absurd (⟨⟨jam, Nat.zero_le _, hj, hy⟩, v, Nat.zero_le _, hv, hx⟩ : zr y 0 40 ∧ zr x 0 2000) hp'
  · obtain ⟨_, v', hv', hx', h9⟩ := hp'
    obtain rfl := zr_u hv hv' hx hx'
    exact absurd ⟨_, _, _, _, hB.1⟩ h9
  · exact absurd (⟨⟨jam', Nat.zero_le _, hj', hy'⟩, v', Nat.zero_le _, hv', hx'⟩ : zr y 0 40 ∧ zr x 0 2000) hp
  · exact ⟨⟨h'.trans h.symm, fun q => absurd (h.symm.trans q) n1⟩, n, by rw [hf]; exact ok, by rw [hf']; exact ok1⟩
  · obtain ⟨h8, v', hv', hx', h9⟩ := hp'
    exact absurd (⟨h8, v', Nat.zero_le _, hv', hx'⟩ : zr y 0 40 ∧ zr x 0 2000) hp
  · obtain ⟨_, v, hv, hx, h9⟩ := hp
    obtain rfl := zr_u hv hv' hx hx'
    exact absurd ⟨_, _, _, _, hB'.1⟩ h9
  · obtain ⟨h8, v', hv', hx', h9⟩ := hp
    exact absurd (⟨h8, v', Nat.zero_le _, hv', hx'⟩ : zr y 0 40 ∧ zr x 0 2000) hp'
  · exact ⟨⟨h'.trans h.symm, fun q => absurd (h.symm.trans q) n2⟩, n, by rw [hf]; exact ok, by rw [hf']; exact ok1⟩
theorem ag_load {w n : Nat → Nat} {x y z r th bb : Int32} {og0 : Int64} {wf nf wf' nf' wf1 nf1 wf1' nf1' : Nat → Int32} (ok : nmOk wf nf w n) (ok1 : nmOk wf1 nf1 w n) (H : (r = nI 0 ∧ ∃ c a b : Nat, c < 4 ∧ 1 ≤ a ∧ a ≤ 500 ∧ b ≤ 500 ∧ x = nI c ∧ y = nI a ∧ z = nI b ∧ nmOk wf' nf' (fun j => if j = c then a else w j) (fun j => if j = c then b else n j)) ∨ (r = nI 1 ∧ ¬ (zr x 0 3 ∧ zr y 1 500 ∧ zr z 0 500) ∧ wf' = wf ∧ nf' = nf)) (M : (∃ c a b : Nat, c < 4 ∧ 1 ≤ a ∧ a ≤ 500 ∧ b ≤ 500 ∧ x = nI c ∧ y = nI a ∧ z = nI b ∧ th = nI 0 ∧ nmOk wf1' nf1' (fun j => if j = c then a else w j) (fun j => if j = c then b else n j)) ∨ (¬ (zr x 0 3 ∧ zr y 1 500 ∧ zr z 0 500) ∧ th = nI 1 ∧ wf1' = wf1 ∧ nf1' = nf1)) : th = r ∧ ∃ w' n' : Nat → Nat, nmOk wf' nf' w' n' ∧ nmOk wf1' nf1' w' n' := by
  rcases H with ⟨h, c, a, b, hc, ha, ha', hb, hx, hy, hz, hok⟩ | ⟨h, hp, hf, hg⟩ <;> rcases M with ⟨c', a', b', hc', ha1, ha2, hb', hx', hy', hz', h', hok'⟩ | ⟨hp', h', hf', hg'⟩
  · obtain rfl := zr_u (by omega) (by omega) hx hx'
    obtain rfl := zr_u (by omega) (by omega) hy hy'
    obtain rfl := zr_u (by omega) (by omega) hz hz'
    exact ⟨h'.trans h.symm, _, _, hok, hok'⟩
  · exact absurd (⟨⟨c, Nat.zero_le _, by omega, hx⟩, ⟨a, ha, ha', hy⟩, b, Nat.zero_le _, hb, hz⟩ : zr x 0 3 ∧ zr y 1 500 ∧ zr z 0 500) hp'
  · exact absurd (⟨⟨c', Nat.zero_le _, by omega, hx'⟩, ⟨a', ha1, ha2, hy'⟩, b', Nat.zero_le _, hb', hz'⟩ : zr x 0 3 ∧ zr y 1 500 ∧ zr z 0 500) hp
  · exact ⟨h'.trans h.symm, w, n, by rw [hf, hg]; exact ok, by rw [hf', hg']; exact ok1⟩
