/-! The mathematics of mixes, apart from the machine: w = worths, n = notes (by cassette), v an amount. -/
/-- (a, b, c, d) notes of the cassettes 0, 1, 2, 3 are a mix of v -/
def mx_M (w n : Nat → Nat) (v a b c d : Nat) : Prop := a ≤ n 0 ∧ b ≤ n 1 ∧ c ≤ n 2 ∧ d ≤ n 3 ∧ a + b + c + d ≤ 40 ∧ a * w 0 + b * w 1 + c * w 2 + d * w 3 = v
/-- the place of (b, c, d) in the order: most of cassette 3, then of 2, then of 1 -/
def mx_k (b c d : Nat) : Nat := d * 1681 + c * 41 + b
def mx_has (w n : Nat → Nat) (v : Nat) : Prop := ∃ a b c d, mx_M w n v a b c d
noncomputable def mx_t (w n : Nat → Nat) (v k : Nat) : Nat := @ite Nat (∃ a, mx_M w n v a (k % 41) (k / 41 % 41) (k / 1681)) (Classical.propDecidable _) 1 0
/-- how many mixes of v stand at places before k -/
noncomputable def mx_c (w n : Nat → Nat) (v : Nat) : Nat → Nat
  | 0 => 0
  | k + 1 => mx_c w n v k + mx_t w n v k
/-- (a, b, c, d) is the best of v -/
def mx_B (w n : Nat → Nat) (v a b c d : Nat) : Prop := mx_M w n v a b c d ∧ ∀ a' b' c' d', mx_M w n v a' b' c' d' → a + b + c + d < a' + b' + c' + d' ∨ (a' + b' + c' + d' = a + b + c + d ∧ mx_k b' c' d' ≤ mx_k b c d)
theorem mx_kd (k : Nat) : mx_k (k % 41) (k / 41 % 41) (k / 1681) = k := by unfold mx_k; omega
theorem mx_kb {b c d : Nat} (hb : b ≤ 40) (hc : c ≤ 40) : mx_k b c d % 41 = b ∧ mx_k b c d / 41 % 41 = c ∧ mx_k b c d / 1681 = d := by
  unfold mx_k
  refine ⟨?_, ?_, ?_⟩ <;> omega
theorem mx_ti {w n : Nat → Nat} {v k : Nat} (h : ∃ a, mx_M w n v a (k % 41) (k / 41 % 41) (k / 1681)) : mx_t w n v k = 1 := by
  unfold mx_t
  exact if_pos h
theorem mx_te {w n : Nat → Nat} {v k : Nat} (h : ¬ ∃ a, mx_M w n v a (k % 41) (k / 41 % 41) (k / 1681)) : mx_t w n v k = 0 := by
  unfold mx_t
  exact if_neg h
theorem mx_M40 {w n : Nat → Nat} {v a b c d : Nat} (h : mx_M w n v a b c d) : a ≤ 40 ∧ b ≤ 40 ∧ c ≤ 40 ∧ d ≤ 40 := by
  obtain ⟨_, _, _, _, h, _⟩ := h
  omega
theorem mx_klt {w n : Nat → Nat} {v a b c d : Nat} (h : mx_M w n v a b c d) : mx_k b c d < 68921 := by
  obtain ⟨_, _, _, _⟩ := mx_M40 h
  unfold mx_k
  omega
theorem mx_t1 {w n : Nat → Nat} {v a b c d : Nat} (h : mx_M w n v a b c d) : mx_t w n v (mx_k b c d) = 1 := by
  obtain ⟨_, hb, hc, _⟩ := mx_M40 h
  obtain ⟨e1, e2, e3⟩ := mx_kb (d := d) hb hc
  refine mx_ti ⟨a, ?_⟩
  rw [e1, e2, e3]
  exact h
theorem mx_skipc {w n : Nat → Nat} {v K : Nat} : ∀ j, (∀ a b c d, mx_M w n v a b c d → ¬ (K ≤ mx_k b c d ∧ mx_k b c d < K + j)) → mx_c w n v (K + j) = mx_c w n v K := by
  intro j
  induction j with
  | zero => intro _; rfl
  | succ j ih =>
    intro h
    have h1 := ih (fun a b c d hm hk => h a b c d hm ⟨hk.1, by omega⟩)
    have h2 : mx_t w n v (K + j) = 0 := mx_te (fun ⟨a, ha⟩ => h a _ _ _ ha (by rw [mx_kd]; omega))
    show mx_c w n v (K + j) + mx_t w n v (K + j) = _
    rw [h1, h2, Nat.add_zero]
theorem mx_same {w n : Nat → Nat} {v a b c d a' b' c' d' : Nat} (h0 : 1 ≤ w 0) (hm : mx_M w n v a b c d) (hm' : mx_M w n v a' b' c' d') (hk : mx_k b' c' d' = mx_k b c d) : a' = a ∧ b' = b ∧ c' = c ∧ d' = d := by
  obtain ⟨_, q2, q3, q4⟩ := mx_M40 hm
  obtain ⟨_, r2, r3, r4⟩ := mx_M40 hm'
  have hb : b' = b ∧ c' = c ∧ d' = d := by
    unfold mx_k at hk
    omega
  obtain ⟨rfl, rfl, rfl⟩ := hb
  obtain ⟨_, _, _, _, _, e⟩ := hm
  obtain ⟨_, _, _, _, _, e'⟩ := hm'
  have h9 : a' * w 0 = a * w 0 := by omega
  exact ⟨Nat.eq_of_mul_eq_mul_right h0 h9, rfl, rfl, rfl⟩
/-- the best is one -/
theorem mx_one {w n : Nat → Nat} {v a b c d a' b' c' d' : Nat} (h : mx_B w n v a b c d) (h' : mx_B w n v a' b' c' d') : a' = a ∧ b' = b ∧ c' = c ∧ d' = d := by
  obtain ⟨_, q2, q3, q4⟩ := mx_M40 h.1
  obtain ⟨_, r2, r3, r4⟩ := mx_M40 h'.1
  have x1 := h.2 _ _ _ _ h'.1
  have x2 := h'.2 _ _ _ _ h.1
  unfold mx_k at x1 x2
  omega
/-- what a walk over the places before K has found: cnt mixes, the best of them bm, of size bs -/
def mx_I (w n : Nat → Nat) (v K cnt bs : Nat) (bm : Nat → Nat) : Prop :=
  cnt = mx_c w n v K ∧ cnt ≤ K ∧ ((cnt = 0 ∧ bs = 41 ∧ ∀ a b c d, mx_M w n v a b c d → ¬ mx_k b c d < K) ∨
    (0 < cnt ∧ mx_M w n v (bm 0) (bm 1) (bm 2) (bm 3) ∧ mx_k (bm 1) (bm 2) (bm 3) < K ∧ bs = bm 0 + bm 1 + bm 2 + bm 3 ∧
      ∀ a b c d, mx_M w n v a b c d → mx_k b c d < K → bs < a + b + c + d ∨ (a + b + c + d = bs ∧ mx_k b c d ≤ mx_k (bm 1) (bm 2) (bm 3))))
theorem mx_I0 {w n bm : Nat → Nat} {v : Nat} : mx_I w n v 0 0 41 bm := ⟨rfl, Nat.le_refl _, Or.inl ⟨rfl, rfl, fun _ _ _ _ _ h => absurd h (Nat.not_lt_zero _)⟩⟩
theorem mx_Ibs {w n bm : Nat → Nat} {v K cnt bs : Nat} (h : mx_I w n v K cnt bs bm) : bs ≤ 41 := by
  obtain ⟨_, _, ⟨_, h, _⟩ | ⟨_, ⟨_, _, _, _, h1, _⟩, _, h2, _⟩⟩ := h <;> omega
theorem mx_Iskip {w n bm : Nat → Nat} {v K K' cnt bs : Nat} (h : mx_I w n v K cnt bs bm) (hK : K ≤ K') (hs : ∀ a b c d, mx_M w n v a b c d → ¬ (K ≤ mx_k b c d ∧ mx_k b c d < K')) : mx_I w n v K' cnt bs bm := by
  obtain ⟨h1, h0, h2⟩ := h
  obtain ⟨j, rfl⟩ : ∃ j, K' = K + j := ⟨K' - K, by omega⟩
  have hk : ∀ a b c d, mx_M w n v a b c d → mx_k b c d < K + j → mx_k b c d < K := fun a b c d hm hlt => by
    have h9 := hs a b c d hm
    omega
  refine ⟨by rw [mx_skipc j hs]; exact h1, by omega, ?_⟩
  rcases h2 with ⟨e1, e2, e3⟩ | ⟨e1, e2, e3, e4, e5⟩
  · exact Or.inl ⟨e1, e2, fun a b c d hm hlt => e3 a b c d hm (hk a b c d hm hlt)⟩
  · exact Or.inr ⟨e1, e2, by omega, e4, fun a b c d hm hlt => e5 a b c d hm (hk a b c d hm hlt)⟩
theorem mx_Inone {w n bm : Nat → Nat} {v b c d cnt bs : Nat} (hb : b ≤ 40) (hc : c ≤ 40) (h : mx_I w n v (mx_k b c d) cnt bs bm) (hn : ∀ a, ¬ mx_M w n v a b c d) : mx_I w n v (mx_k b c d + 1) cnt bs bm := by
  refine mx_Iskip h (Nat.le_succ _) (fun a' b' c' d' hm hk => ?_)
  obtain ⟨_, q2, q3, q4⟩ := mx_M40 hm
  have e : b' = b ∧ c' = c ∧ d' = d := by
    unfold mx_k at hk
    omega
  obtain ⟨rfl, rfl, rfl⟩ := e
  exact hn _ hm
theorem mx_Ifound {w n bm : Nat → Nat} {v a b c d cnt bs : Nat} (h0 : 1 ≤ w 0) (h : mx_I w n v (mx_k b c d) cnt bs bm) (hm : mx_M w n v a b c d) (hle : a + b + c + d ≤ bs) {bm' : Nat → Nat} (e0 : bm' 0 = a) (e1 : bm' 1 = b) (e2 : bm' 2 = c) (e3 : bm' 3 = d) : mx_I w n v (mx_k b c d + 1) (cnt + 1) (a + b + c + d) bm' := by
  obtain ⟨h1, hc0, h2⟩ := h
  have ht := mx_t1 hm
  refine ⟨by show _ = mx_c w n v (mx_k b c d) + mx_t w n v (mx_k b c d); rw [ht, h1], by omega, Or.inr ⟨by omega, by rw [e0, e1, e2, e3]; exact hm, by rw [e1, e2, e3]; omega, by rw [e0, e1, e2, e3], ?_⟩⟩
  intro a' b' c' d' hm' hlt
  rw [e1, e2, e3]
  by_cases hk : mx_k b' c' d' = mx_k b c d
  · obtain ⟨r1, r2, r3, r4⟩ := mx_same h0 hm hm' hk
    rw [r1, r2, r3, r4]
    exact Or.inr ⟨rfl, Nat.le_refl _⟩
  · have hlt' : mx_k b' c' d' < mx_k b c d := by omega
    rcases h2 with ⟨_, _, q⟩ | ⟨_, _, _, q4, q⟩
    · exact absurd hlt' (q a' b' c' d' hm')
    · have q9 := q a' b' c' d' hm' hlt'
      omega
theorem mx_Ikeep {w n bm : Nat → Nat} {v a b c d cnt bs : Nat} (h0 : 1 ≤ w 0) (h : mx_I w n v (mx_k b c d) cnt bs bm) (hm : mx_M w n v a b c d) (hgt : bs < a + b + c + d) : mx_I w n v (mx_k b c d + 1) (cnt + 1) bs bm := by
  obtain ⟨h1, hc0, h2⟩ := h
  have ht := mx_t1 hm
  have h40 : a + b + c + d ≤ 40 := hm.2.2.2.2.1
  refine ⟨by show _ = mx_c w n v (mx_k b c d) + mx_t w n v (mx_k b c d); rw [ht, h1], by omega, Or.inr ?_⟩
  rcases h2 with ⟨_, q, _⟩ | ⟨q1, q2, q3, q4, q⟩
  · omega
  · refine ⟨by omega, q2, by omega, q4, fun a' b' c' d' hm' hlt => ?_⟩
    by_cases hk : mx_k b' c' d' = mx_k b c d
    · obtain ⟨r1, r2, r3, r4⟩ := mx_same h0 hm hm' hk
      rw [r1, r2, r3, r4]
      exact Or.inl hgt
    · exact q a' b' c' d' hm' (by omega)
/-- what a whole survey of v leaves: the count, and the best where there is a mix -/
def mx_E (w n : Nat → Nat) (v cnt bs : Nat) (bm : Nat → Nat) : Prop :=
  cnt = mx_c w n v 68921 ∧ cnt ≤ 68921 ∧ bs ≤ 41 ∧ ((cnt = 0 ∧ ¬ mx_has w n v) ∨ (0 < cnt ∧ mx_has w n v ∧ bs = bm 0 + bm 1 + bm 2 + bm 3 ∧ mx_B w n v (bm 0) (bm 1) (bm 2) (bm 3)))
theorem mx_Iend {w n bm : Nat → Nat} {v cnt bs : Nat} (h : mx_I w n v 68921 cnt bs bm) : mx_E w n v cnt bs bm := by
  have h9 := mx_Ibs h
  obtain ⟨h1, h0, h2⟩ := h
  refine ⟨h1, h0, h9, ?_⟩
  rcases h2 with ⟨q1, _, q⟩ | ⟨q1, q2, _, q4, q⟩
  · exact Or.inl ⟨q1, fun ⟨a, b, c, d, hm⟩ => q a b c d hm (mx_klt hm)⟩
  · refine Or.inr ⟨q1, ⟨_, _, _, _, q2⟩, q4, q2, fun a b c d hm => ?_⟩
    have x := q a b c d hm (mx_klt hm)
    omega
/-- the most notes of a cassette that go into an amount and a room -/
def mx_m (n w amt room : Nat) : Nat := min (min n room) (amt / w)
theorem mx_le {x n w amt room : Nat} (h : x ≤ mx_m n w amt room) : x ≤ n ∧ x ≤ room ∧ x * w ≤ amt := by
  unfold mx_m at h
  have h3 : x ≤ amt / w := by omega
  exact ⟨by omega, by omega, Nat.le_trans (Nat.mul_le_mul_right w h3) (Nat.div_mul_le_self amt w)⟩
theorem mx_ge {x n w amt room : Nat} (hw : 1 ≤ w) (h1 : x ≤ n) (h2 : x ≤ room) (h3 : x * w ≤ amt) : x ≤ mx_m n w amt room := by
  unfold mx_m
  have h9 : x ≤ amt / w := (Nat.le_div_iff_mul_le hw).2 h3
  omega
theorem mx_skip1 {w n : Nat → Nat} {v c d : Nat} (hw : 1 ≤ w 1) (hc : c ≤ 40) : ∀ a' b' c' d', mx_M w n v a' b' c' d' → ¬ (mx_k (mx_m (n 1) (w 1) (v - d * w 3 - c * w 2) (40 - d - c) + 1) c d ≤ mx_k b' c' d' ∧ mx_k b' c' d' < mx_k 0 (c + 1) d) := by
  intro a' b' c' d' hm hk
  obtain ⟨_, q2, q3, q4⟩ := mx_M40 hm
  have e : c' = c ∧ d' = d ∧ mx_m (n 1) (w 1) (v - d * w 3 - c * w 2) (40 - d - c) < b' := by
    unfold mx_k at hk
    omega
  obtain ⟨rfl, rfl, h1⟩ := e
  obtain ⟨m1, m2, m3, m4, m5, m6⟩ := hm
  have h2 := mx_ge (x := b') (n := n 1) (w := w 1) (amt := v - d' * w 3 - c' * w 2) (room := 40 - d' - c') hw m2 (by omega) (by omega)
  omega
theorem mx_skip2 {w n : Nat → Nat} {v d : Nat} (hw : 1 ≤ w 2) : ∀ a' b' c' d', mx_M w n v a' b' c' d' → ¬ (mx_k 0 (mx_m (n 2) (w 2) (v - d * w 3) (40 - d) + 1) d ≤ mx_k b' c' d' ∧ mx_k b' c' d' < mx_k 0 0 (d + 1)) := by
  intro a' b' c' d' hm hk
  obtain ⟨_, q2, q3, q4⟩ := mx_M40 hm
  have e : d' = d ∧ mx_m (n 2) (w 2) (v - d * w 3) (40 - d) < c' := by
    unfold mx_k at hk
    omega
  obtain ⟨rfl, h1⟩ := e
  obtain ⟨m1, m2, m3, m4, m5, m6⟩ := hm
  have h2 := mx_ge (x := c') (n := n 2) (w := w 2) (amt := v - d' * w 3) (room := 40 - d') hw m3 (by omega) (by omega)
  omega
theorem mx_skip3 {w n : Nat → Nat} {v : Nat} (hw : 1 ≤ w 3) : ∀ a' b' c' d', mx_M w n v a' b' c' d' → ¬ (mx_k 0 0 (mx_m (n 3) (w 3) v 40 + 1) ≤ mx_k b' c' d' ∧ mx_k b' c' d' < 68921) := by
  intro a' b' c' d' hm hk
  obtain ⟨_, q2, q3, q4⟩ := mx_M40 hm
  have h1 : mx_m (n 3) (w 3) v 40 < d' := by
    unfold mx_k at hk
    omega
  obtain ⟨m1, m2, m3, m4, m5, m6⟩ := hm
  have h2 := mx_ge (x := d') (n := n 3) (w := w 3) (amt := v) (room := 40) hw m4 (by omega) (by omega)
  omega
/-- what is left for cassette 0 fixes its notes -/
theorem mx_last {w n : Nat → Nat} {v b c d r : Nat} (hw : 1 ≤ w 0) (h1 : b ≤ n 1) (h2 : c ≤ n 2) (h3 : d ≤ n 3) (h4 : b + c + d ≤ 40) (hr : r + b * w 1 + c * w 2 + d * w 3 = v) (he : mx_m (n 0) (w 0) r (40 - d - c - b) * w 0 = r) : mx_M w n v (mx_m (n 0) (w 0) r (40 - d - c - b)) b c d := by
  obtain ⟨q1, q2, q3⟩ := mx_le (x := mx_m (n 0) (w 0) r (40 - d - c - b)) (Nat.le_refl _)
  exact ⟨q1, h1, h2, h3, by omega, by omega⟩
theorem mx_nolast {w n : Nat → Nat} {v b c d r : Nat} (hw : 1 ≤ w 0) (hr : r + b * w 1 + c * w 2 + d * w 3 = v) (he : ¬ mx_m (n 0) (w 0) r (40 - d - c - b) * w 0 = r) : ∀ a, ¬ mx_M w n v a b c d := by
  intro a hm
  obtain ⟨m1, m2, m3, m4, m5, m6⟩ := hm
  have e : a * w 0 = r := by omega
  have h1 := mx_ge (x := a) (n := n 0) (w := w 0) (amt := r) (room := 40 - d - c - b) hw m1 (by omega) (by omega)
  obtain ⟨_, _, q3⟩ := mx_le (x := mx_m (n 0) (w 0) r (40 - d - c - b)) (Nat.le_refl _)
  have h2 := Nat.mul_le_mul_right (w 0) h1
  exact he (by omega)
/-! the fewest notes, by bundles -/
def rc_R (w L : Nat → Nat) (v s : Nat) : Prop := ∃ a b c d, a ≤ L 0 ∧ b ≤ L 1 ∧ c ≤ L 2 ∧ d ≤ L 3 ∧ a + b + c + d = s ∧ a * w 0 + b * w 1 + c * w 2 + d * w 3 = v
def rc_F (w L f : Nat → Nat) : Prop := ∀ v, v ≤ 2000 → f v ≤ 41 ∧ (∀ s, rc_R w L v s → f v ≤ s) ∧ (f v ≤ 40 → rc_R w L v (f v))
theorem rc_mono {w L L' : Nat → Nat} {v s : Nat} (h : rc_R w L v s) (hL : ∀ j, j < 4 → L j ≤ L' j) : rc_R w L' v s := by
  obtain ⟨a, b, c, d, h0, h1, h2, h3, h4, h5⟩ := h
  exact ⟨a, b, c, d, Nat.le_trans h0 (hL 0 (by omega)), Nat.le_trans h1 (hL 1 (by omega)), Nat.le_trans h2 (hL 2 (by omega)), Nat.le_trans h3 (hL 3 (by omega)), h4, h5⟩
theorem rc_add {w L L' : Nat → Nat} {v s c k : Nat} (hc : c < 4) (h : rc_R w L v s) (hL : ∀ j, j < 4 → j ≠ c → L' j = L j) (hk : L' c = L c + k) : rc_R w L' (v + k * w c) (s + k) := by
  obtain ⟨x0, x1, x2, x3, h0, h1, h2, h3, h4, h5⟩ := h
  have e : c = 0 ∨ c = 1 ∨ c = 2 ∨ c = 3 := by omega
  rcases e with rfl | rfl | rfl | rfl
  · refine ⟨x0 + k, x1, x2, x3, by omega, by rw [hL 1 (by omega) (by omega)]; exact h1, by rw [hL 2 (by omega) (by omega)]; exact h2, by rw [hL 3 (by omega) (by omega)]; exact h3, by omega, ?_⟩
    rw [Nat.add_mul]; omega
  · refine ⟨x0, x1 + k, x2, x3, by rw [hL 0 (by omega) (by omega)]; exact h0, by omega, by rw [hL 2 (by omega) (by omega)]; exact h2, by rw [hL 3 (by omega) (by omega)]; exact h3, by omega, ?_⟩
    rw [Nat.add_mul]; omega
  · refine ⟨x0, x1, x2 + k, x3, by rw [hL 0 (by omega) (by omega)]; exact h0, by rw [hL 1 (by omega) (by omega)]; exact h1, by omega, by rw [hL 3 (by omega) (by omega)]; exact h3, by omega, ?_⟩
    rw [Nat.add_mul x2]; omega
  · refine ⟨x0, x1, x2, x3 + k, by rw [hL 0 (by omega) (by omega)]; exact h0, by rw [hL 1 (by omega) (by omega)]; exact h1, by rw [hL 2 (by omega) (by omega)]; exact h2, by omega, by omega, ?_⟩
    rw [Nat.add_mul x3]; omega
theorem rc_inv {w L L' : Nat → Nat} {v s c k : Nat} (hc : c < 4) (h : rc_R w L' v s) (hL : ∀ j, j < 4 → j ≠ c → L' j = L j) (hk : L' c = L c + k) (hk1 : k ≤ L c + 1) : rc_R w L v s ∨ (k * w c ≤ v ∧ k ≤ s ∧ rc_R w L (v - k * w c) (s - k)) := by
  obtain ⟨x0, x1, x2, x3, h0, h1, h2, h3, h4, h5⟩ := h
  have e : c = 0 ∨ c = 1 ∨ c = 2 ∨ c = 3 := by omega
  rcases e with rfl | rfl | rfl | rfl
  · rw [hL 1 (by omega) (by omega)] at h1
    rw [hL 2 (by omega) (by omega)] at h2
    rw [hL 3 (by omega) (by omega)] at h3
    by_cases hx : x0 ≤ L 0
    · exact Or.inl ⟨x0, x1, x2, x3, hx, h1, h2, h3, h4, h5⟩
    · obtain ⟨z, rfl⟩ : ∃ z, x0 = z + k := ⟨x0 - k, by omega⟩
      rw [Nat.add_mul] at h5
      exact Or.inr ⟨by omega, by omega, z, x1, x2, x3, by omega, h1, h2, h3, by omega, by omega⟩
  · rw [hL 0 (by omega) (by omega)] at h0
    rw [hL 2 (by omega) (by omega)] at h2
    rw [hL 3 (by omega) (by omega)] at h3
    by_cases hx : x1 ≤ L 1
    · exact Or.inl ⟨x0, x1, x2, x3, h0, hx, h2, h3, h4, h5⟩
    · obtain ⟨z, rfl⟩ : ∃ z, x1 = z + k := ⟨x1 - k, by omega⟩
      rw [Nat.add_mul] at h5
      exact Or.inr ⟨by omega, by omega, x0, z, x2, x3, h0, by omega, h2, h3, by omega, by omega⟩
  · rw [hL 0 (by omega) (by omega)] at h0
    rw [hL 1 (by omega) (by omega)] at h1
    rw [hL 3 (by omega) (by omega)] at h3
    by_cases hx : x2 ≤ L 2
    · exact Or.inl ⟨x0, x1, x2, x3, h0, h1, hx, h3, h4, h5⟩
    · obtain ⟨z, rfl⟩ : ∃ z, x2 = z + k := ⟨x2 - k, by omega⟩
      rw [Nat.add_mul z] at h5
      exact Or.inr ⟨by omega, by omega, x0, x1, z, x3, h0, h1, by omega, h3, by omega, by omega⟩
  · rw [hL 0 (by omega) (by omega)] at h0
    rw [hL 1 (by omega) (by omega)] at h1
    rw [hL 2 (by omega) (by omega)] at h2
    by_cases hx : x3 ≤ L 3
    · exact Or.inl ⟨x0, x1, x2, x3, h0, h1, h2, hx, h4, h5⟩
    · obtain ⟨z, rfl⟩ : ∃ z, x3 = z + k := ⟨x3 - k, by omega⟩
      rw [Nat.add_mul z] at h5
      exact Or.inr ⟨by omega, by omega, x0, x1, x2, z, h0, h1, h2, by omega, by omega, by omega⟩
/-- a bundle of k notes of cassette c more -/
theorem rc_step {w L L' f f' : Nat → Nat} {c k : Nat} (hc : c < 4) (hL : ∀ j, j < 4 → j ≠ c → L' j = L j) (hk : L' c = L c + k) (hk1 : k ≤ L c + 1) (h : rc_F w L f) (hf1 : ∀ v, v ≤ 2000 → k * w c ≤ v → f' v = min (f v) (f (v - k * w c) + k)) (hf2 : ∀ v, v ≤ 2000 → v < k * w c → f' v = f v) : rc_F w L' f' := by
  intro v hv
  have hLL : ∀ j, j < 4 → L j ≤ L' j := fun j hj => by
    by_cases e : j = c
    · subst e; omega
    · rw [hL j hj e]; exact Nat.le_refl _
  obtain ⟨a1, a2, a3⟩ := h v hv
  by_cases hkv : k * w c ≤ v
  · obtain ⟨b1, b2, b3⟩ := h (v - k * w c) (by omega)
    have e := hf1 v hv hkv
    refine ⟨by omega, fun s hs => ?_, fun h40 => ?_⟩
    · rcases rc_inv hc hs hL hk hk1 with q | ⟨_, q2, q⟩
      · have := a2 s q
        omega
      · have := b2 _ q
        omega
    · by_cases hm : f v ≤ f (v - k * w c) + k
      · have e2 : f' v = f v := by omega
        rw [e2] at h40 ⊢
        exact rc_mono (a3 h40) hLL
      · have e2 : f' v = f (v - k * w c) + k := by omega
        rw [e2] at h40 ⊢
        have q := rc_add hc (b3 (by omega)) hL hk
        rw [Nat.sub_add_cancel hkv] at q
        exact q
  · have e := hf2 v hv (by omega)
    rw [e]
    refine ⟨a1, fun s hs => ?_, fun h40 => rc_mono (a3 h40) hLL⟩
    rcases rc_inv hc hs hL hk hk1 with q | ⟨q1, _, _⟩
    · exact a2 s q
    · omega
theorem rc_F0 {w L f : Nat → Nat} (hL : ∀ j, j < 4 → L j = 0) (h0 : f 0 = 0) (h1 : ∀ v, v ≤ 2000 → 0 < v → f v = 41) : rc_F w L f := by
  intro v hv
  have hR : ∀ s, rc_R w L v s → v = 0 := by
    intro s ⟨a, b, c, d, q0, q1, q2, q3, q4, q5⟩
    rw [hL 0 (by omega)] at q0
    rw [hL 1 (by omega)] at q1
    rw [hL 2 (by omega)] at q2
    rw [hL 3 (by omega)] at q3
    have e0 : a = 0 := by omega
    have e1 : b = 0 := by omega
    have e2 : c = 0 := by omega
    have e3 : d = 0 := by omega
    subst e0 e1 e2 e3
    omega
  by_cases e : v = 0
  · subst e
    rw [h0]
    exact ⟨by omega, fun _ _ => Nat.zero_le _, fun _ => ⟨0, 0, 0, 0, Nat.zero_le _, Nat.zero_le _, Nat.zero_le _, Nat.zero_le _, rfl, by omega⟩⟩
  · rw [h1 v hv (by omega)]
    exact ⟨by omega, fun s hs => absurd (hR s hs) e, fun h => by omega⟩
theorem rc_has {w n L f : Nat → Nat} (hL : ∀ j, j < 4 → L j = min (n j) 40) (h : rc_F w L f) {v : Nat} (hv : v ≤ 2000) : f v < 41 ↔ mx_has w n v := by
  have l0 := hL 0 (by omega)
  have l1 := hL 1 (by omega)
  have l2 := hL 2 (by omega)
  have l3 := hL 3 (by omega)
  obtain ⟨a1, a2, a3⟩ := h v hv
  constructor
  · intro hlt
    obtain ⟨a, b, c, d, q0, q1, q2, q3, q4, q5⟩ := a3 (by omega)
    exact ⟨a, b, c, d, by omega, by omega, by omega, by omega, by omega, q5⟩
  · intro ⟨a, b, c, d, q0, q1, q2, q3, q4, q5⟩
    have := a2 (a + b + c + d) ⟨a, b, c, d, by omega, by omega, by omega, by omega, rfl, q5⟩
    omega
/-- how many amounts below k have a mix -/
noncomputable def mx_u (w n : Nat → Nat) (k : Nat) : Nat := @ite Nat (mx_has w n k) (Classical.propDecidable _) 1 0
noncomputable def mx_r (w n : Nat → Nat) : Nat → Nat
  | 0 => 0
  | k + 1 => mx_r w n k + mx_u w n k
theorem mx_r1 {w n : Nat → Nat} {k : Nat} (h : mx_has w n k) : mx_r w n (k + 1) = mx_r w n k + 1 := by
  have e : mx_u w n k = 1 := by
    unfold mx_u
    exact if_pos h
  show mx_r w n k + mx_u w n k = _
  rw [e]
theorem mx_r0 {w n : Nat → Nat} {k : Nat} (h : ¬ mx_has w n k) : mx_r w n (k + 1) = mx_r w n k := by
  have e : mx_u w n k = 0 := by
    unfold mx_u
    exact if_neg h
  show mx_r w n k + mx_u w n k = _
  rw [e]; rfl
theorem mx_rle (w n : Nat → Nat) : ∀ k, mx_r w n k ≤ k := by
  intro k
  induction k with
  | zero => exact Nat.le_refl _
  | succ k ih =>
    by_cases h : mx_has w n k
    · rw [mx_r1 h]; omega
    · rw [mx_r0 h]; omega
/-- the least amount from v on that has a mix; -1 if none to 2000 has -/
def mx_N (w n : Nat → Nat) (v : Nat) (r : Int32) : Prop :=
  (∃ k, v ≤ k ∧ k ≤ 2000 ∧ mx_has w n k ∧ (∀ j, v ≤ j → j < k → ¬ mx_has w n j) ∧ r = nI k) ∨ ((∀ j, v ≤ j → j ≤ 2000 → ¬ mx_has w n j) ∧ r = -1)
theorem mx_Nu {w n : Nat → Nat} {v : Nat} {r r' : Int32} (h : mx_N w n v r) (h' : mx_N w n v r') : r' = r := by
  rcases h with ⟨k, a1, a2, a3, a4, a5⟩ | ⟨a1, a2⟩ <;> rcases h' with ⟨k', b1, b2, b3, b4, b5⟩ | ⟨b1, b2⟩
  · have e : k' = k := by
      by_cases q : k' < k
      · exact absurd b3 (a4 k' b1 q)
      · by_cases q2 : k < k'
        · exact absurd a3 (b4 k a1 q2)
        · omega
    rw [a5, b5, e]
  · exact absurd a3 (b1 k a1 a2)
  · exact absurd b3 (a1 k' b1 b2)
  · rw [a2, b2]
/-- what is paid of cassette c: x notes of it in the best, left may still come out -/
def mx_p3 (b3 jam : Nat) : Nat := min b3 jam
def mx_p2 (b3 b2 jam : Nat) : Nat := min b2 (jam - mx_p3 b3 jam)
def mx_p1 (b3 b2 b1 jam : Nat) : Nat := min b1 (jam - mx_p3 b3 jam - mx_p2 b3 b2 jam)
def mx_p0 (b3 b2 b1 b0 jam : Nat) : Nat := min b0 (jam - mx_p3 b3 jam - mx_p2 b3 b2 jam - mx_p1 b3 b2 b1 jam)
