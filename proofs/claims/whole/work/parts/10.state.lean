/-! the class's cells and its value -/
abbrev nmW (cI : ClassId) (h a1 a2 a3 a4 : Nat) (wf nf bf : Nat → Int32) (bs mc : Int32) (ff : Nat → Int32) (fr : va_W) : va_W :=
  (h, .inr (0, [.ref a1, .ref a2, .ref a3, .int bs, .int mc, .ref a4])) :: (a1, .inl (cI, 4, .inl wf)) :: (a2, .inl (cI, 4, .inl nf)) :: (a3, .inl (cI, 4, .inl bf)) :: (a4, .inl (cI, 2001, .inl ff)) :: fr
/-- the arrays hold w and n, and these are as the document has them -/
def nmOk (wf nf : Nat → Int32) (w n : Nat → Nat) : Prop := (∀ j, j < 4 → wf j = nI (w j)) ∧ (∀ j, j < 4 → nf j = nI (n j)) ∧ ∀ j, j < 4 → 1 ≤ w j ∧ w j ≤ 500 ∧ n j ≤ 500
set_option maxRecDepth 100000 in
set_option maxHeartbeats 4000000 in
theorem inX0_mostNotes : ∀ w ∈ u_ws RX0 TX0 6, w ∈ wsX0_mostNotes := by decide +kernel
set_option maxRecDepth 100000 in
set_option maxHeartbeats 4000000 in
theorem inX0_keepMix : ∀ w ∈ u_ws RX0 TX0 6, w ∈ wsX0_keepMix := by decide +kernel
set_option maxRecDepth 100000 in
set_option maxHeartbeats 4000000 in
theorem inX0_survey : ∀ w ∈ u_ws RX0 TX0 6, w ∈ wsX0_survey := by decide +kernel
set_option maxRecDepth 100000 in
set_option maxHeartbeats 4000000 in
theorem inX0_findBest : ∀ w ∈ u_ws RX0 TX0 6, w ∈ wsX0_findBest := by decide +kernel
set_option maxRecDepth 100000 in
set_option maxHeartbeats 4000000 in
theorem inX0_addBundle : ∀ w ∈ u_ws RX0 TX0 6, w ∈ wsX0_addBundle := by decide +kernel
set_option maxRecDepth 100000 in
set_option maxHeartbeats 4000000 in
theorem inX0_addCassette : ∀ w ∈ u_ws RX0 TX0 6, w ∈ wsX0_addCassette := by decide +kernel
set_option maxRecDepth 100000 in
set_option maxHeartbeats 4000000 in
theorem inX0_fillFewest : ∀ w ∈ u_ws RX0 TX0 6, w ∈ wsX0_fillFewest := by decide +kernel
set_option maxRecDepth 100000 in
set_option maxHeartbeats 4000000 in
theorem inX0_load : ∀ w ∈ u_ws RX0 TX0 6, w ∈ wsX0_load := by decide +kernel
set_option maxRecDepth 100000 in
set_option maxHeartbeats 4000000 in
theorem inX0_best : ∀ w ∈ u_ws RX0 TX0 6, w ∈ wsX0_best := by decide +kernel
set_option maxRecDepth 100000 in
set_option maxHeartbeats 4000000 in
theorem inX0_part : ∀ w ∈ u_ws RX0 TX0 6, w ∈ wsX0_part := by decide +kernel
set_option maxRecDepth 100000 in
set_option maxHeartbeats 4000000 in
theorem inX0_ways : ∀ w ∈ u_ws RX0 TX0 6, w ∈ wsX0_ways := by decide +kernel
set_option maxRecDepth 100000 in
set_option maxHeartbeats 4000000 in
theorem inX0_pay : ∀ w ∈ u_ws RX0 TX0 6, w ∈ wsX0_pay := by decide +kernel
set_option maxRecDepth 100000 in
set_option maxHeartbeats 4000000 in
theorem inX0_next : ∀ w ∈ u_ws RX0 TX0 6, w ∈ wsX0_next := by decide +kernel
set_option maxRecDepth 100000 in
set_option maxHeartbeats 4000000 in
theorem inX0_reach : ∀ w ∈ u_ws RX0 TX0 6, w ∈ wsX0_reach := by decide +kernel
set_option maxRecDepth 100000 in
set_option maxHeartbeats 4000000 in
theorem inX0_cassette : ∀ w ∈ u_ws RX0 TX0 6, w ∈ wsX0_cassette := by decide +kernel
set_option maxRecDepth 100000 in
set_option maxHeartbeats 4000000 in
theorem inX0_value : ∀ w ∈ u_ws RX0 TX0 6, w ∈ wsX0_value := by decide +kernel
